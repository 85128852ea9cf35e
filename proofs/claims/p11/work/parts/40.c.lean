section
/-! THE TEXT: its methods -/
def b2 (p : Bool) : Int32 := if p = true then 1 else 0
abbrev cl (x : Int32) : Nat := x.toNatClampNeg
def dgB (b : Int32) : Bool := !(decide (b < 48)) && !(decide (57 < b))
def wB (b : Int32) : Bool := (!(decide (b < 97)) && !(decide (122 < b))) || (!(decide (b < 48)) && !(decide (57 < b))) || decide (b = 33) || decide (b = 42) || decide (b = 43) || decide (b = 45) || decide (b = 47) || decide (b = 60) || decide (b = 61) || decide (b = 62) || decide (b = 63)
theorem vin_lt {p : Int32} {n : Nat} (h0 : ¬ p < 0) (h : p < nI n) (hn : n < 2 ^ 31) : vp_in p n := by
  obtain ⟨j, hj, rfl⟩ := nI_of h0
  exact vp_in_nI ((nI_ltI hj hn).mp h) hn
theorem iLT {x y : Int32} (a b : Nat) (ha : a < 2 ^ 31) (hb : b < 2 ^ 31) (hx : x = nI a := by rfl) (hy : y = nI b := by rfl) : (x < y) = (a < b) := by
  subst hx; subst hy; exact propext (nI_ltI ha hb)
theorem iLE {x y : Int32} (a b : Nat) (ha : a < 2 ^ 31) (hb : b < 2 ^ 31) (hx : x = nI a := by rfl) (hy : y = nI b := by rfl) : (x ≤ y) = (a ≤ b) := by
  subst hx; subst hy; exact propext (nI_leI ha hb)
theorem iEQ {x y : Int32} (a b : Nat) (ha : a < 2 ^ 31) (hb : b < 2 ^ 31) (hx : x = nI a := by rfl) (hy : y = nI b := by rfl) : (x = y) = (a = b) := by
  subst hx; subst hy; exact propext (nI_eq ha hb)
/-- the length of the text, as a number; it is one -/
def tl (M : aM) : Nat := cl (M 1 1)
def tx_ok (M : aM) : Prop := M 1 1 = nI (tl M) ∧ tl M ≤ 400
/-- an int that is a small number -/
def sm (x : Int32) (n : Nat) : Prop := x = nI (cl x) ∧ cl x ≤ n
theorem sm_nI {i n : Nat} (h : i ≤ n) (hn : n < 2 ^ 31) : sm (nI i) n := ⟨by rw [show cl (nI i) = i from nI_clamp (by omega)], by rw [show cl (nI i) = i from nI_clamp (by omega)]; exact h⟩
def f_at (M : aM) (p : Int32) : Int32 := if p < 0 then -1 else if p < M 1 1 then (if p < 400 then M 2 p.toNatClampNeg else -1) else -1
def sp_Text_at : aS := fun as M K => match as with
  | [.ref a, .int p] => a = 1 ∧ K (some (.int (f_at M p))) M
  | _ => False
set_option maxRecDepth 100000 in
set_option maxHeartbeats 4000000 in
theorem ok_Text_at {G : aG} (hG : am_ok G) : am_Sp G Y_Text_at 0 sp_Text_at := by
  intro as M K h
  unfold sp_Text_at at h
  split at h
  · next a p =>
    obtain ⟨rfl, h⟩ := h
    refine am_entry hG (by decide +kernel) (Nat.le_of_ble_eq_true rfl) ?_
    refine am_go (cuts := k_Text_at) tb_Text_at 400 _ _ _ _ ?_
    change am_run _ _ _ _ _ _ [some (.ref 1), some (.int p)] [] _
    simp only [r_Text_at_0, r_Text_at_1, r_Text_at_4, r_Text_at_5, r_Text_at_6, r_Text_at_9, r_Text_at_12, r_Text_at_13, r_Text_at_16, r_Text_at_19, r_Text_at_20, r_Text_at_23, r_Text_at_24, r_Text_at_25, r_Text_at_28, r_Text_at_29, ai_iload, ai_iflt, ai_aload, ai_getf, ai_cmpge, ai_const, ai_iald, ai_goto, ai_iret, kd_0, fd_0_0, fd_0_1, fd_0_2, fd_0_3, fd_0_4, kd_1, fd_1_0, fd_1_1, ln_2, kd_3, fd_3_0, fd_3_1, fd_3_2, fd_3_3, fd_3_4, fd_3_5, fd_3_6, fd_3_7, fd_3_8, fd_3_9, ln_4, ln_5, ln_6, ln_7, ln_8, ln_9, ln_10, kd_11, fd_11_0, fd_11_1, fd_11_2, fd_11_3, fd_11_4, kd_12, fd_12_0, fd_12_1, fd_12_2, fd_12_3, ln_13, ln_14, ln_15, kd_16, fd_16_0, fd_16_1, fd_16_2, ln_17, kd_18, fd_18_0, fd_18_1, kd_19, fd_19_0, fd_19_1, fd_19_2, fd_19_3, fd_19_4, fd_19_5, fd_19_6, fd_19_7, fd_19_8, fd_19_9, fd_19_10, fd_19_11, fd_19_12, fd_19_13, fd_19_14, fd_19_15, fd_19_16, fd_19_17, fd_19_18, fd_19_19, fd_19_20, ln_20, ln_21, ln_22, ln_23, ln_24, ln_25, ln_26, ln_27, ln_28, ln_29, ln_30, ln_31, ln_32, List.getElem?_cons_zero, List.getElem?_cons_succ, List.set_cons_zero, List.set_cons_succ, true_and, and_true, ↓reduceIte, Int32.reduceLT, Int32.reduceLE, li_10, or_true, true_or]
    unfold f_at at h
    split
    · next h1 => rw [if_pos h1] at h; exact h
    · next h1 =>
      rw [if_neg h1] at h
      split
      · next h2 =>
        rw [if_pos h2] at h
        split
        · next h3 => rw [if_pos h3] at h; exact ⟨vin_lt h1 h3 (by decide), h⟩
        · next h3 => rw [if_neg h3] at h; exact h
      · next h2 => rw [if_neg h2] at h; exact h
  · cases h
def sp_Text_isDigit : aS := fun as M K => match as with
  | [.int b] => K (some (.int (b2 (dgB b)))) M
  | _ => False
set_option maxRecDepth 100000 in
set_option maxHeartbeats 4000000 in
theorem ok_Text_isDigit {G : aG} (hG : am_ok G) : am_Sp G Y_Text_isDigit 0 sp_Text_isDigit := by
  intro as M K h
  unfold sp_Text_isDigit at h
  split at h
  · next b =>
    refine am_entry hG (by decide +kernel) (Nat.le_of_ble_eq_true rfl) ?_
    refine am_go (cuts := k_Text_isDigit) tb_Text_isDigit 400 _ _ _ _ ?_
    change am_run _ _ _ _ _ _ [some (.int b)] [] _
    simp only [r_Text_isDigit_0, r_Text_isDigit_1, r_Text_isDigit_3, r_Text_isDigit_6, r_Text_isDigit_7, r_Text_isDigit_9, r_Text_isDigit_12, r_Text_isDigit_13, r_Text_isDigit_16, r_Text_isDigit_17, ai_iload, ai_const, ai_cmplt, ai_cmpgt, ai_goto, ai_zret, List.getElem?_cons_zero, List.getElem?_cons_succ, List.set_cons_zero, List.set_cons_succ, true_and, and_true, ↓reduceIte, Int32.reduceLT, Int32.reduceLE, li_10, or_true, true_or]
    unfold dgB at h
    (repeat' split) <;> simp_all [b2]
  · cases h
def sp_Text_isWordByte : aS := fun as M K => match as with
  | [.int b] => K (some (.int (b2 (wB b)))) M
  | _ => False
set_option maxRecDepth 100000 in
set_option maxHeartbeats 4000000 in
theorem ok_Text_isWordByte {G : aG} (hG : am_ok G) : am_Sp G Y_Text_isWordByte 0 sp_Text_isWordByte := by
  intro as M K h
  unfold sp_Text_isWordByte at h
  split at h
  · next b =>
    refine am_entry hG (by decide +kernel) (Nat.le_of_ble_eq_true rfl) ?_
    refine am_go (cuts := k_Text_isWordByte) tb_Text_isWordByte 400 _ _ _ _ ?_
    change am_run _ _ _ _ _ _ [some (.int b)] [] _
    simp only [r_Text_isWordByte_0, r_Text_isWordByte_1, r_Text_isWordByte_3, r_Text_isWordByte_6, r_Text_isWordByte_7, r_Text_isWordByte_9, r_Text_isWordByte_12, r_Text_isWordByte_13, r_Text_isWordByte_15, r_Text_isWordByte_18, r_Text_isWordByte_19, r_Text_isWordByte_21, r_Text_isWordByte_24, r_Text_isWordByte_25, r_Text_isWordByte_26, r_Text_isWordByte_27, r_Text_isWordByte_164, r_Text_isWordByte_165, r_Text_isWordByte_166, r_Text_isWordByte_167, ai_iload, ai_const, ai_cmplt, ai_cmple, ai_cmpgt, ai_zret, ai_switch, am_sw, List.getElem?_cons_zero, List.getElem?_cons_succ, List.set_cons_zero, List.set_cons_succ, true_and, and_true, ↓reduceIte, Int32.reduceLT, Int32.reduceLE, li_10, or_true, true_or]
    by_cases s : b = 33 ∨ b = 42 ∨ b = 43 ∨ b = 45 ∨ b = 47 ∨ b = 60 ∨ b = 61 ∨ b = 62 ∨ b = 63
    · rcases s with rfl | rfl | rfl | rfl | rfl | rfl | rfl | rfl | rfl <;> exact h
    · simp only [not_or] at s
      obtain ⟨s1, s2, s3, s4, s5, s6, s7, s8, s9⟩ := s
      simp only [s1, s2, s3, s4, s5, s6, s7, s8, s9, ↓reduceIte, ite_self]
      by_cases c1 : b < 97
      · by_cases c2 : b < 48
        · rw [show wB b = false by simp only [wB, c1, c2, s1, s2, s3, s4, s5, s6, s7, s8, s9]; rfl] at h
          rw [if_pos c1, if_pos c2]; exact h
        · by_cases c3 : 57 < b
          · rw [show wB b = false by simp only [wB, c1, c2, c3, s1, s2, s3, s4, s5, s6, s7, s8, s9]; rfl] at h
            rw [if_pos c1, if_neg c2, if_pos c3]; exact h
          · rw [show wB b = true by simp only [wB, c1, c2, c3, s1, s2, s3, s4, s5, s6, s7, s8, s9]; rfl] at h
            rw [if_pos c1, if_neg c2, if_neg c3]; exact h
      · by_cases c0 : 122 < b
        · by_cases c2 : b < 48
          · rw [show wB b = false by simp only [wB, c0, c1, c2, s1, s2, s3, s4, s5, s6, s7, s8, s9]; rfl] at h
            rw [if_neg c1, if_pos c0, if_pos c2]; exact h
          · by_cases c3 : 57 < b
            · rw [show wB b = false by simp only [wB, c0, c1, c2, c3, s1, s2, s3, s4, s5, s6, s7, s8, s9]; rfl] at h
              rw [if_neg c1, if_pos c0, if_neg c2, if_pos c3]; exact h
            · rw [show wB b = true by simp only [wB, c0, c1, c2, c3, s1, s2, s3, s4, s5, s6, s7, s8, s9]; rfl] at h
              rw [if_neg c1, if_pos c0, if_neg c2, if_neg c3]; exact h
        · rw [show wB b = true by simp only [wB, c0, c1]; rfl] at h
          rw [if_neg c1, if_neg c0]; exact h
  · cases h
/-- where the blanks and remarks from i on end; k: how many bytes are left; cm: in a remark -/
def skB (t : Nat → Int32) : Nat → Bool → Nat → Nat
  | 0, _, i => i
  | k + 1, cm, i => if (decide (t i = 59) || (cm && !decide (t i = 10))) = true then skB t k true (i + 1) else if t i = 10 ∨ t i = 32 then skB t k false (i + 1) else i
theorem skB_le (t : Nat → Int32) : ∀ (k : Nat) (cm : Bool) (i : Nat), i ≤ skB t k cm i ∧ skB t k cm i ≤ i + k
  | 0, _, i => ⟨Nat.le_refl i, Nat.le_refl i⟩
  | k + 1, cm, i => by
    have h1 := skB_le t k true (i + 1)
    have h2 := skB_le t k false (i + 1)
    simp only [skB]
    split
    · omega
    · split <;> omega
theorem f_at_nI {M : aM} {i : Nat} (h : tx_ok M) (hi : i < 2 ^ 31) : f_at M (nI i) = if i < tl M then M 2 i else -1 := by
  obtain ⟨h1, h2⟩ := h
  unfold f_at
  rw [if_neg (nI_pos hi), h1]
  by_cases q : i < tl M
  · rw [if_pos ((nI_ltI hi (by omega)).mpr q), if_pos q, if_pos (show nI i < 400 from (nI_ltI (b := 400) hi (by decide)).mpr (by omega)), nI_clamp hi]
  · rw [if_neg (fun z => q ((nI_ltI hi (by omega)).mp z)), if_neg q]
def f_skip (M : aM) (i : Nat) : Nat := skB (M 2) (tl M - i) false i
def sp_Text_skipBlanks : aS := fun as M K => match as with
  | [.ref a, .int p] => a = 1 ∧ (tx_ok M ∧ sm p (tl M)) ∧ K (some (.int (nI (f_skip M (cl p))))) M
  | _ => False
set_option maxRecDepth 100000 in
set_option maxHeartbeats 4000000 in
theorem lp_Text_skipBlanks {G : aG} (hG : am_ok G) {K : aR} {M : aM} (hn : tx_ok M) {p : Int32} : ∀ (k i : Nat) (cm : Bool) (o : Option Value), i + k = tl M → K (some (.int (nI (skB (M 2) k cm i)))) M → am_X G Y_Text_skipBlanks 1 K 4 [some (.ref 1), some (.int p), some (.int (b2 cm)), some (.int (nI i)), o] [] M := by
  intro k
  have hn2 := hn.2
  induction k with
  | zero =>
    intro i cm o hk h
    have e1 : ¬ nI i < M 1 1 := by rw [hn.1]; exact nI_nlt (by omega) (by omega)
    refine am_from (tb_Text_skipBlanks (ok_Text_at hG) (by decide)) k_Text_skipBlanks 400 ?_
    simp only [q_Text_skipBlanks_4, r_Text_skipBlanks_0, r_Text_skipBlanks_1, r_Text_skipBlanks_2, r_Text_skipBlanks_3, r_Text_skipBlanks_4, r_Text_skipBlanks_5, r_Text_skipBlanks_6, r_Text_skipBlanks_9, r_Text_skipBlanks_12, r_Text_skipBlanks_13, r_Text_skipBlanks_14, r_Text_skipBlanks_17, r_Text_skipBlanks_19, r_Text_skipBlanks_21, r_Text_skipBlanks_23, r_Text_skipBlanks_26, r_Text_skipBlanks_27, r_Text_skipBlanks_30, r_Text_skipBlanks_32, r_Text_skipBlanks_34, r_Text_skipBlanks_37, r_Text_skipBlanks_38, r_Text_skipBlanks_41, r_Text_skipBlanks_42, r_Text_skipBlanks_43, r_Text_skipBlanks_44, r_Text_skipBlanks_47, r_Text_skipBlanks_49, r_Text_skipBlanks_51, r_Text_skipBlanks_54, r_Text_skipBlanks_56, r_Text_skipBlanks_58, r_Text_skipBlanks_61, r_Text_skipBlanks_62, r_Text_skipBlanks_63, r_Text_skipBlanks_66, r_Text_skipBlanks_69, r_Text_skipBlanks_70, ai_const, ai_istore, am_cut_0, am_cut_s, am_c1, ai_iload, ai_aload, ai_getf, ai_cmpge, ai_callv2, am_push, am_few, ai_cmpeq, ai_ifeq, ai_goto, ai_ifne, ai_iret, ai_iinc, kd_0, fd_0_0, fd_0_1, fd_0_2, fd_0_3, fd_0_4, kd_1, fd_1_0, fd_1_1, ln_2, kd_3, fd_3_0, fd_3_1, fd_3_2, fd_3_3, fd_3_4, fd_3_5, fd_3_6, fd_3_7, fd_3_8, fd_3_9, ln_4, ln_5, ln_6, ln_7, ln_8, ln_9, ln_10, kd_11, fd_11_0, fd_11_1, fd_11_2, fd_11_3, fd_11_4, kd_12, fd_12_0, fd_12_1, fd_12_2, fd_12_3, ln_13, ln_14, ln_15, kd_16, fd_16_0, fd_16_1, fd_16_2, ln_17, kd_18, fd_18_0, fd_18_1, kd_19, fd_19_0, fd_19_1, fd_19_2, fd_19_3, fd_19_4, fd_19_5, fd_19_6, fd_19_7, fd_19_8, fd_19_9, fd_19_10, fd_19_11, fd_19_12, fd_19_13, fd_19_14, fd_19_15, fd_19_16, fd_19_17, fd_19_18, fd_19_19, fd_19_20, ln_20, ln_21, ln_22, ln_23, ln_24, ln_25, ln_26, ln_27, ln_28, ln_29, ln_30, ln_31, ln_32, List.getElem?_cons_zero, List.getElem?_cons_succ, List.set_cons_zero, List.set_cons_succ, true_and, and_true, ↓reduceIte, Int32.reduceLT, Int32.reduceLE, li_10, or_true, true_or, ↓sp_Text_at, e1]
    exact h
  | succ k ih =>
    intro i cm o hk h
    have e1 : nI i < M 1 1 := by rw [hn.1]; exact nI_lt (by omega) (by omega)
    have e2 : f_at M (nI i) = M 2 i := by rw [f_at_nI hn (by omega), if_pos (by omega)]
    refine am_from (tb_Text_skipBlanks (ok_Text_at hG) (by decide)) k_Text_skipBlanks 400 ?_
    simp only [q_Text_skipBlanks_4, r_Text_skipBlanks_0, r_Text_skipBlanks_1, r_Text_skipBlanks_2, r_Text_skipBlanks_3, r_Text_skipBlanks_4, r_Text_skipBlanks_5, r_Text_skipBlanks_6, r_Text_skipBlanks_9, r_Text_skipBlanks_12, r_Text_skipBlanks_13, r_Text_skipBlanks_14, r_Text_skipBlanks_17, r_Text_skipBlanks_19, r_Text_skipBlanks_21, r_Text_skipBlanks_23, r_Text_skipBlanks_26, r_Text_skipBlanks_27, r_Text_skipBlanks_30, r_Text_skipBlanks_32, r_Text_skipBlanks_34, r_Text_skipBlanks_37, r_Text_skipBlanks_38, r_Text_skipBlanks_41, r_Text_skipBlanks_42, r_Text_skipBlanks_43, r_Text_skipBlanks_44, r_Text_skipBlanks_47, r_Text_skipBlanks_49, r_Text_skipBlanks_51, r_Text_skipBlanks_54, r_Text_skipBlanks_56, r_Text_skipBlanks_58, r_Text_skipBlanks_61, r_Text_skipBlanks_62, r_Text_skipBlanks_63, r_Text_skipBlanks_66, r_Text_skipBlanks_69, r_Text_skipBlanks_70, ai_const, ai_istore, am_cut_0, am_cut_s, am_c1, ai_iload, ai_aload, ai_getf, ai_cmpge, ai_callv2, am_push, am_few, ai_cmpeq, ai_ifeq, ai_goto, ai_ifne, ai_iret, ai_iinc, kd_0, fd_0_0, fd_0_1, fd_0_2, fd_0_3, fd_0_4, kd_1, fd_1_0, fd_1_1, ln_2, kd_3, fd_3_0, fd_3_1, fd_3_2, fd_3_3, fd_3_4, fd_3_5, fd_3_6, fd_3_7, fd_3_8, fd_3_9, ln_4, ln_5, ln_6, ln_7, ln_8, ln_9, ln_10, kd_11, fd_11_0, fd_11_1, fd_11_2, fd_11_3, fd_11_4, kd_12, fd_12_0, fd_12_1, fd_12_2, fd_12_3, ln_13, ln_14, ln_15, kd_16, fd_16_0, fd_16_1, fd_16_2, ln_17, kd_18, fd_18_0, fd_18_1, kd_19, fd_19_0, fd_19_1, fd_19_2, fd_19_3, fd_19_4, fd_19_5, fd_19_6, fd_19_7, fd_19_8, fd_19_9, fd_19_10, fd_19_11, fd_19_12, fd_19_13, fd_19_14, fd_19_15, fd_19_16, fd_19_17, fd_19_18, fd_19_19, fd_19_20, ln_20, ln_21, ln_22, ln_23, ln_24, ln_25, ln_26, ln_27, ln_28, ln_29, ln_30, ln_31, ln_32, List.getElem?_cons_zero, List.getElem?_cons_succ, List.set_cons_zero, List.set_cons_succ, true_and, and_true, ↓reduceIte, Int32.reduceLT, Int32.reduceLE, li_10, or_true, true_or, ↓sp_Text_at, e1, e2, nI_1]
    simp only [skB] at h
    have g1 := ih (i + 1) true (some (.int (M 2 i))) (by omega)
    have g2 := ih (i + 1) false (some (.int (M 2 i))) (by omega)
    cases cm <;> by_cases c1 : M 2 i = 59 <;> by_cases c2 : M 2 i = 10 <;> by_cases c3 : M 2 i = 32 <;> simp [c1, c2, c3, b2] at h g1 g2 ⊢ <;> first | exact h | exact g1 h | exact g2 h
set_option maxRecDepth 100000 in
set_option maxHeartbeats 4000000 in
theorem ok_Text_skipBlanks {G : aG} (hG : am_ok G) : am_Sp G Y_Text_skipBlanks 1 sp_Text_skipBlanks := by
  intro as M K h
  unfold sp_Text_skipBlanks at h
  split at h
  · next a p =>
    obtain ⟨rfl, ⟨hn, hp⟩, h⟩ := h
    refine am_entry hG (by decide +kernel) (Nat.le_of_ble_eq_true rfl) ?_
    refine am_go (cuts := k_Text_skipBlanks) (tb_Text_skipBlanks (ok_Text_at hG) (by decide)) 400 _ _ _ _ ?_
    change am_run _ _ _ _ _ _ [some (.ref 1), some (.int p), none, none, none] [] _
    simp only [q_Text_skipBlanks_4, r_Text_skipBlanks_0, r_Text_skipBlanks_1, r_Text_skipBlanks_2, r_Text_skipBlanks_3, r_Text_skipBlanks_4, r_Text_skipBlanks_5, r_Text_skipBlanks_6, r_Text_skipBlanks_9, r_Text_skipBlanks_12, r_Text_skipBlanks_13, r_Text_skipBlanks_14, r_Text_skipBlanks_17, r_Text_skipBlanks_19, r_Text_skipBlanks_21, r_Text_skipBlanks_23, r_Text_skipBlanks_26, r_Text_skipBlanks_27, r_Text_skipBlanks_30, r_Text_skipBlanks_32, r_Text_skipBlanks_34, r_Text_skipBlanks_37, r_Text_skipBlanks_38, r_Text_skipBlanks_41, r_Text_skipBlanks_42, r_Text_skipBlanks_43, r_Text_skipBlanks_44, r_Text_skipBlanks_47, r_Text_skipBlanks_49, r_Text_skipBlanks_51, r_Text_skipBlanks_54, r_Text_skipBlanks_56, r_Text_skipBlanks_58, r_Text_skipBlanks_61, r_Text_skipBlanks_62, r_Text_skipBlanks_63, r_Text_skipBlanks_66, r_Text_skipBlanks_69, r_Text_skipBlanks_70, ai_const, ai_istore, am_cut_0, am_cut_s, am_c1, ai_iload, ai_aload, ai_getf, ai_cmpge, ai_callv2, am_push, am_few, ai_cmpeq, ai_ifeq, ai_goto, ai_ifne, ai_iret, ai_iinc, kd_0, fd_0_0, fd_0_1, fd_0_2, fd_0_3, fd_0_4, kd_1, fd_1_0, fd_1_1, ln_2, kd_3, fd_3_0, fd_3_1, fd_3_2, fd_3_3, fd_3_4, fd_3_5, fd_3_6, fd_3_7, fd_3_8, fd_3_9, ln_4, ln_5, ln_6, ln_7, ln_8, ln_9, ln_10, kd_11, fd_11_0, fd_11_1, fd_11_2, fd_11_3, fd_11_4, kd_12, fd_12_0, fd_12_1, fd_12_2, fd_12_3, ln_13, ln_14, ln_15, kd_16, fd_16_0, fd_16_1, fd_16_2, ln_17, kd_18, fd_18_0, fd_18_1, kd_19, fd_19_0, fd_19_1, fd_19_2, fd_19_3, fd_19_4, fd_19_5, fd_19_6, fd_19_7, fd_19_8, fd_19_9, fd_19_10, fd_19_11, fd_19_12, fd_19_13, fd_19_14, fd_19_15, fd_19_16, fd_19_17, fd_19_18, fd_19_19, fd_19_20, ln_20, ln_21, ln_22, ln_23, ln_24, ln_25, ln_26, ln_27, ln_28, ln_29, ln_30, ln_31, ln_32, List.getElem?_cons_zero, List.getElem?_cons_succ, List.set_cons_zero, List.set_cons_succ, true_and, and_true, ↓reduceIte, Int32.reduceLT, Int32.reduceLE, li_10, or_true, true_or]
    rw [hp.1]
    have := hp.2
    exact lp_Text_skipBlanks hG hn (tl M - cl p) (cl p) false none (by omega) h
  · cases h
/-- where the word from i on ends -/
def wE (t : Nat → Int32) : Nat → Nat → Nat
  | 0, i => i
  | k + 1, i => if wB (t i) = true then wE t k (i + 1) else i
theorem wE_le (t : Nat → Int32) : ∀ (k i : Nat), i ≤ wE t k i ∧ wE t k i ≤ i + k
  | 0, i => ⟨Nat.le_refl i, Nat.le_refl i⟩
  | k + 1, i => by
    have h1 := wE_le t k (i + 1)
    simp only [wE]
    split <;> omega
def f_word (M : aM) (i : Nat) : Nat := wE (M 2) (tl M - i) i
theorem f_word_le {M : aM} (hn : tx_ok M) {i : Nat} (hi : i ≤ 401) : i ≤ f_word M i ∧ f_word M i ≤ 401 := by
  have h := wE_le (M 2) (tl M - i) i
  have := hn.2
  unfold f_word
  omega
def sp_Text_wordEnd : aS := fun as M K => match as with
  | [.ref a, .int p] => a = 1 ∧ (tx_ok M ∧ sm p 401) ∧ K (some (.int (nI (f_word M (cl p))))) M
  | _ => False
set_option maxRecDepth 100000 in
set_option maxHeartbeats 4000000 in
theorem lp_Text_wordEnd {G : aG} (hG : am_ok G) {K : aR} {M : aM} (hn : tx_ok M) {p : Int32} : ∀ (k i : Nat), tl M - i = k → i ≤ 401 → K (some (.int (nI (wE (M 2) k i)))) M → am_X G Y_Text_wordEnd 1 K 2 [some (.ref 1), some (.int p), some (.int (nI i))] [] M := by
  intro k
  have hn2 := hn.2
  induction k with
  | zero =>
    intro i hk hi h
    have e1 : ¬ nI i < M 1 1 := by rw [hn.1]; exact nI_nlt (by omega) (by omega)
    refine am_from (tb_Text_wordEnd (ok_Text_at hG) (by decide) (ok_Text_isWordByte hG) (by decide)) k_Text_wordEnd 400 ?_
    simp only [q_Text_wordEnd_2, r_Text_wordEnd_0, r_Text_wordEnd_1, r_Text_wordEnd_2, r_Text_wordEnd_3, r_Text_wordEnd_4, r_Text_wordEnd_7, r_Text_wordEnd_10, r_Text_wordEnd_11, r_Text_wordEnd_12, r_Text_wordEnd_15, r_Text_wordEnd_18, r_Text_wordEnd_21, r_Text_wordEnd_24, r_Text_wordEnd_27, r_Text_wordEnd_28, ai_iload, ai_istore, am_cut_0, am_cut_s, am_c1, ai_aload, ai_getf, ai_cmpge, ai_callv2, am_push, am_few, ai_calls1, ai_ifeq, ai_iinc, ai_goto, ai_iret, kd_0, fd_0_0, fd_0_1, fd_0_2, fd_0_3, fd_0_4, kd_1, fd_1_0, fd_1_1, ln_2, kd_3, fd_3_0, fd_3_1, fd_3_2, fd_3_3, fd_3_4, fd_3_5, fd_3_6, fd_3_7, fd_3_8, fd_3_9, ln_4, ln_5, ln_6, ln_7, ln_8, ln_9, ln_10, kd_11, fd_11_0, fd_11_1, fd_11_2, fd_11_3, fd_11_4, kd_12, fd_12_0, fd_12_1, fd_12_2, fd_12_3, ln_13, ln_14, ln_15, kd_16, fd_16_0, fd_16_1, fd_16_2, ln_17, kd_18, fd_18_0, fd_18_1, kd_19, fd_19_0, fd_19_1, fd_19_2, fd_19_3, fd_19_4, fd_19_5, fd_19_6, fd_19_7, fd_19_8, fd_19_9, fd_19_10, fd_19_11, fd_19_12, fd_19_13, fd_19_14, fd_19_15, fd_19_16, fd_19_17, fd_19_18, fd_19_19, fd_19_20, ln_20, ln_21, ln_22, ln_23, ln_24, ln_25, ln_26, ln_27, ln_28, ln_29, ln_30, ln_31, ln_32, List.getElem?_cons_zero, List.getElem?_cons_succ, List.set_cons_zero, List.set_cons_succ, true_and, and_true, ↓reduceIte, Int32.reduceLT, Int32.reduceLE, li_10, or_true, true_or, e1]
    exact h
  | succ k ih =>
    intro i hk hi h
    have e1 : nI i < M 1 1 := by rw [hn.1]; exact nI_lt (by omega) (by omega)
    have e2 : f_at M (nI i) = M 2 i := by rw [f_at_nI hn (by omega), if_pos (by omega)]
    refine am_from (tb_Text_wordEnd (ok_Text_at hG) (by decide) (ok_Text_isWordByte hG) (by decide)) k_Text_wordEnd 400 ?_
    simp only [q_Text_wordEnd_2, r_Text_wordEnd_0, r_Text_wordEnd_1, r_Text_wordEnd_2, r_Text_wordEnd_3, r_Text_wordEnd_4, r_Text_wordEnd_7, r_Text_wordEnd_10, r_Text_wordEnd_11, r_Text_wordEnd_12, r_Text_wordEnd_15, r_Text_wordEnd_18, r_Text_wordEnd_21, r_Text_wordEnd_24, r_Text_wordEnd_27, r_Text_wordEnd_28, ai_iload, ai_istore, am_cut_0, am_cut_s, am_c1, ai_aload, ai_getf, ai_cmpge, ai_callv2, am_push, am_few, ai_calls1, ai_ifeq, ai_iinc, ai_goto, ai_iret, kd_0, fd_0_0, fd_0_1, fd_0_2, fd_0_3, fd_0_4, kd_1, fd_1_0, fd_1_1, ln_2, kd_3, fd_3_0, fd_3_1, fd_3_2, fd_3_3, fd_3_4, fd_3_5, fd_3_6, fd_3_7, fd_3_8, fd_3_9, ln_4, ln_5, ln_6, ln_7, ln_8, ln_9, ln_10, kd_11, fd_11_0, fd_11_1, fd_11_2, fd_11_3, fd_11_4, kd_12, fd_12_0, fd_12_1, fd_12_2, fd_12_3, ln_13, ln_14, ln_15, kd_16, fd_16_0, fd_16_1, fd_16_2, ln_17, kd_18, fd_18_0, fd_18_1, kd_19, fd_19_0, fd_19_1, fd_19_2, fd_19_3, fd_19_4, fd_19_5, fd_19_6, fd_19_7, fd_19_8, fd_19_9, fd_19_10, fd_19_11, fd_19_12, fd_19_13, fd_19_14, fd_19_15, fd_19_16, fd_19_17, fd_19_18, fd_19_19, fd_19_20, ln_20, ln_21, ln_22, ln_23, ln_24, ln_25, ln_26, ln_27, ln_28, ln_29, ln_30, ln_31, ln_32, List.getElem?_cons_zero, List.getElem?_cons_succ, List.set_cons_zero, List.set_cons_succ, true_and, and_true, ↓reduceIte, Int32.reduceLT, Int32.reduceLE, li_10, or_true, true_or, ↓sp_Text_at, ↓sp_Text_isWordByte, e1, e2, nI_1]
    simp only [wE] at h
    have g1 := ih (i + 1) (by omega) (by omega)
    cases c1 : wB (M 2 i) <;> simp only [c1, b2, ↓reduceIte, li_10, Bool.false_eq_true] at h ⊢
    · exact h
    · exact g1 h
set_option maxRecDepth 100000 in
set_option maxHeartbeats 4000000 in
theorem ok_Text_wordEnd {G : aG} (hG : am_ok G) : am_Sp G Y_Text_wordEnd 1 sp_Text_wordEnd := by
  intro as M K h
  unfold sp_Text_wordEnd at h
  split at h
  · next a p =>
    obtain ⟨rfl, ⟨hn, hp⟩, h⟩ := h
    refine am_entry hG (by decide +kernel) (Nat.le_of_ble_eq_true rfl) ?_
    refine am_go (cuts := k_Text_wordEnd) (tb_Text_wordEnd (ok_Text_at hG) (by decide) (ok_Text_isWordByte hG) (by decide)) 400 _ _ _ _ ?_
    change am_run _ _ _ _ _ _ [some (.ref 1), some (.int p), none] [] _
    simp only [q_Text_wordEnd_2, r_Text_wordEnd_0, r_Text_wordEnd_1, r_Text_wordEnd_2, r_Text_wordEnd_3, r_Text_wordEnd_4, r_Text_wordEnd_7, r_Text_wordEnd_10, r_Text_wordEnd_11, r_Text_wordEnd_12, r_Text_wordEnd_15, r_Text_wordEnd_18, r_Text_wordEnd_21, r_Text_wordEnd_24, r_Text_wordEnd_27, r_Text_wordEnd_28, ai_iload, ai_istore, am_cut_0, am_cut_s, am_c1, ai_aload, ai_getf, ai_cmpge, ai_callv2, am_push, am_few, ai_calls1, ai_ifeq, ai_iinc, ai_goto, ai_iret, kd_0, fd_0_0, fd_0_1, fd_0_2, fd_0_3, fd_0_4, kd_1, fd_1_0, fd_1_1, ln_2, kd_3, fd_3_0, fd_3_1, fd_3_2, fd_3_3, fd_3_4, fd_3_5, fd_3_6, fd_3_7, fd_3_8, fd_3_9, ln_4, ln_5, ln_6, ln_7, ln_8, ln_9, ln_10, kd_11, fd_11_0, fd_11_1, fd_11_2, fd_11_3, fd_11_4, kd_12, fd_12_0, fd_12_1, fd_12_2, fd_12_3, ln_13, ln_14, ln_15, kd_16, fd_16_0, fd_16_1, fd_16_2, ln_17, kd_18, fd_18_0, fd_18_1, kd_19, fd_19_0, fd_19_1, fd_19_2, fd_19_3, fd_19_4, fd_19_5, fd_19_6, fd_19_7, fd_19_8, fd_19_9, fd_19_10, fd_19_11, fd_19_12, fd_19_13, fd_19_14, fd_19_15, fd_19_16, fd_19_17, fd_19_18, fd_19_19, fd_19_20, ln_20, ln_21, ln_22, ln_23, ln_24, ln_25, ln_26, ln_27, ln_28, ln_29, ln_30, ln_31, ln_32, List.getElem?_cons_zero, List.getElem?_cons_succ, List.set_cons_zero, List.set_cons_succ, true_and, and_true, ↓reduceIte, Int32.reduceLT, Int32.reduceLE, li_10, or_true, true_or]
    rw [hp.1]
    exact lp_Text_wordEnd hG hn (tl M - cl p) (cl p) rfl hp.2 h
  · cases h
/-- names -/
def f_name (M : aM) (i : Nat) : Int32 := if 12 < f_word M i - i then -1 else nI (f_word M i)
def sp_Text_nameEnd : aS := fun as M K => match as with
  | [.ref a, .int p] => a = 1 ∧ (tx_ok M ∧ sm p 401) ∧ K (some (.int (f_name M (cl p)))) M
  | _ => False
set_option maxRecDepth 100000 in
set_option maxHeartbeats 4000000 in
theorem ok_Text_nameEnd {G : aG} (hG : am_ok G) : am_Sp G Y_Text_nameEnd 2 sp_Text_nameEnd := by
  intro as M K h
  unfold sp_Text_nameEnd at h
  split at h
  · next a p =>
    obtain ⟨rfl, ⟨hn, hp⟩, h⟩ := h
    have hle := f_word_le hn hp.2
    have hp2 := hp.2
    refine am_entry hG (by decide +kernel) (Nat.le_of_ble_eq_true rfl) ?_
    refine am_go (cuts := k_Text_nameEnd) (tb_Text_nameEnd (ok_Text_wordEnd hG) (by decide)) 400 _ _ _ _ ?_
    change am_run _ _ _ _ _ _ [some (.ref 1), some (.int p), none] [] _
    simp only [r_Text_nameEnd_0, r_Text_nameEnd_1, r_Text_nameEnd_2, r_Text_nameEnd_5, r_Text_nameEnd_6, r_Text_nameEnd_7, r_Text_nameEnd_8, r_Text_nameEnd_9, r_Text_nameEnd_11, r_Text_nameEnd_14, r_Text_nameEnd_15, r_Text_nameEnd_18, r_Text_nameEnd_19, ai_aload, ai_iload, ai_callv2, am_push, am_few, ai_istore, am_cut_0, am_cut_s, am_c1, ai_isub, ai_bin, ai_const, ai_cmpgt, ai_goto, ai_iret, kd_0, fd_0_0, fd_0_1, fd_0_2, fd_0_3, fd_0_4, kd_1, fd_1_0, fd_1_1, ln_2, kd_3, fd_3_0, fd_3_1, fd_3_2, fd_3_3, fd_3_4, fd_3_5, fd_3_6, fd_3_7, fd_3_8, fd_3_9, ln_4, ln_5, ln_6, ln_7, ln_8, ln_9, ln_10, kd_11, fd_11_0, fd_11_1, fd_11_2, fd_11_3, fd_11_4, kd_12, fd_12_0, fd_12_1, fd_12_2, fd_12_3, ln_13, ln_14, ln_15, kd_16, fd_16_0, fd_16_1, fd_16_2, ln_17, kd_18, fd_18_0, fd_18_1, kd_19, fd_19_0, fd_19_1, fd_19_2, fd_19_3, fd_19_4, fd_19_5, fd_19_6, fd_19_7, fd_19_8, fd_19_9, fd_19_10, fd_19_11, fd_19_12, fd_19_13, fd_19_14, fd_19_15, fd_19_16, fd_19_17, fd_19_18, fd_19_19, fd_19_20, ln_20, ln_21, ln_22, ln_23, ln_24, ln_25, ln_26, ln_27, ln_28, ln_29, ln_30, ln_31, ln_32, List.getElem?_cons_zero, List.getElem?_cons_succ, List.set_cons_zero, List.set_cons_succ, true_and, and_true, ↓reduceIte, Int32.reduceLT, Int32.reduceLE, li_10, or_true, true_or, ↓sp_Text_wordEnd]
    refine ⟨⟨hn, hp⟩, ?_⟩
    have e1 : nI (f_word M (cl p)) - p = nI (f_word M (cl p) - cl p) := by rw [congrArg (nI (f_word M (cl p)) - ·) hp.1]; exact pk_sub hle.1
    rw [e1]
    simp only [iLT (x := 12) 12 (f_word M (cl p) - cl p) (by decide) (by omega)]
    unfold f_name at h
    split <;> simp_all
  · cases h
/-- numbers -/
def allD (t : Nat → Int32) : Nat → Nat → Bool
  | 0, _ => true
  | k + 1, i => dgB (t i) && allD t k (i + 1)
def nmF (t : Nat → Int32) (i : Nat) : Nat := if t i = 45 then i + 1 else i
def f_num (M : aM) (i : Nat) : Int32 := if f_word M (nmF (M 2) i) - nmF (M 2) i < 1 then -1 else if 9 < f_word M (nmF (M 2) i) - nmF (M 2) i then -1 else if allD (M 2) (f_word M (nmF (M 2) i) - nmF (M 2) i) (nmF (M 2) i) = true then nI (f_word M (nmF (M 2) i)) else -1
def sp_Text_numberEnd : aS := fun as M K => match as with
  | [.ref a, .int p] => a = 1 ∧ (tx_ok M ∧ sm p 400 ∧ cl p < tl M) ∧ K (some (.int (f_num M (cl p)))) M
  | _ => False
set_option maxRecDepth 100000 in
set_option maxHeartbeats 4000000 in
theorem lp_Text_numberEnd {G : aG} (hG : am_ok G) {K : aR} {M : aM} (hn : tx_ok M) {p f : Int32} {e : Nat} (he : e ≤ tl M) : ∀ (k i : Nat), i + k = e → K (some (.int (if allD (M 2) k i = true then nI e else -1))) M → am_X G Y_Text_numberEnd 2 K 44 [some (.ref 1), some (.int p), some (.int f), some (.int (nI e)), some (.int (nI i))] [] M := by
  intro k
  have hn2 := hn.2
  induction k with
  | zero =>
    intro i hk h
    have e1 : ¬ nI i < nI e := nI_nlt (by omega) (by omega)
    refine am_from (tb_Text_numberEnd (ok_Text_at hG) (by decide) (ok_Text_wordEnd hG) (by decide) (ok_Text_isDigit hG) (by decide)) k_Text_numberEnd 400 ?_
    simp only [q_Text_numberEnd_44, r_Text_numberEnd_0, r_Text_numberEnd_1, r_Text_numberEnd_2, r_Text_numberEnd_5, r_Text_numberEnd_7, r_Text_numberEnd_10, r_Text_numberEnd_11, r_Text_numberEnd_12, r_Text_numberEnd_13, r_Text_numberEnd_16, r_Text_numberEnd_17, r_Text_numberEnd_18, r_Text_numberEnd_19, r_Text_numberEnd_20, r_Text_numberEnd_23, r_Text_numberEnd_24, r_Text_numberEnd_25, r_Text_numberEnd_26, r_Text_numberEnd_27, r_Text_numberEnd_28, r_Text_numberEnd_31, r_Text_numberEnd_32, r_Text_numberEnd_33, r_Text_numberEnd_34, r_Text_numberEnd_36, r_Text_numberEnd_39, r_Text_numberEnd_40, r_Text_numberEnd_41, r_Text_numberEnd_42, r_Text_numberEnd_44, r_Text_numberEnd_46, r_Text_numberEnd_47, r_Text_numberEnd_50, r_Text_numberEnd_51, r_Text_numberEnd_53, r_Text_numberEnd_56, r_Text_numberEnd_59, r_Text_numberEnd_62, r_Text_numberEnd_63, r_Text_numberEnd_64, r_Text_numberEnd_67, r_Text_numberEnd_70, r_Text_numberEnd_71, ai_aload, ai_iload, ai_callv2, am_push, am_few, ai_const, ai_cmpne, ai_iadd, ai_bin, ai_goto, ai_istore, am_cut_0, am_cut_s, am_c1, ai_isub, ai_cmplt, ai_cmple, ai_iret, ai_cmpge, ai_calls1, ai_ifne, ai_iinc, kd_0, fd_0_0, fd_0_1, fd_0_2, fd_0_3, fd_0_4, kd_1, fd_1_0, fd_1_1, ln_2, kd_3, fd_3_0, fd_3_1, fd_3_2, fd_3_3, fd_3_4, fd_3_5, fd_3_6, fd_3_7, fd_3_8, fd_3_9, ln_4, ln_5, ln_6, ln_7, ln_8, ln_9, ln_10, kd_11, fd_11_0, fd_11_1, fd_11_2, fd_11_3, fd_11_4, kd_12, fd_12_0, fd_12_1, fd_12_2, fd_12_3, ln_13, ln_14, ln_15, kd_16, fd_16_0, fd_16_1, fd_16_2, ln_17, kd_18, fd_18_0, fd_18_1, kd_19, fd_19_0, fd_19_1, fd_19_2, fd_19_3, fd_19_4, fd_19_5, fd_19_6, fd_19_7, fd_19_8, fd_19_9, fd_19_10, fd_19_11, fd_19_12, fd_19_13, fd_19_14, fd_19_15, fd_19_16, fd_19_17, fd_19_18, fd_19_19, fd_19_20, ln_20, ln_21, ln_22, ln_23, ln_24, ln_25, ln_26, ln_27, ln_28, ln_29, ln_30, ln_31, ln_32, List.getElem?_cons_zero, List.getElem?_cons_succ, List.set_cons_zero, List.set_cons_succ, true_and, and_true, ↓reduceIte, Int32.reduceLT, Int32.reduceLE, li_10, or_true, true_or, e1]
    exact h
  | succ k ih =>
    intro i hk h
    have e1 : nI i < nI e := nI_lt (by omega) (by omega)
    have e2 : f_at M (nI i) = M 2 i := by rw [f_at_nI hn (by omega), if_pos (by omega)]
    refine am_from (tb_Text_numberEnd (ok_Text_at hG) (by decide) (ok_Text_wordEnd hG) (by decide) (ok_Text_isDigit hG) (by decide)) k_Text_numberEnd 400 ?_
    simp only [q_Text_numberEnd_44, r_Text_numberEnd_0, r_Text_numberEnd_1, r_Text_numberEnd_2, r_Text_numberEnd_5, r_Text_numberEnd_7, r_Text_numberEnd_10, r_Text_numberEnd_11, r_Text_numberEnd_12, r_Text_numberEnd_13, r_Text_numberEnd_16, r_Text_numberEnd_17, r_Text_numberEnd_18, r_Text_numberEnd_19, r_Text_numberEnd_20, r_Text_numberEnd_23, r_Text_numberEnd_24, r_Text_numberEnd_25, r_Text_numberEnd_26, r_Text_numberEnd_27, r_Text_numberEnd_28, r_Text_numberEnd_31, r_Text_numberEnd_32, r_Text_numberEnd_33, r_Text_numberEnd_34, r_Text_numberEnd_36, r_Text_numberEnd_39, r_Text_numberEnd_40, r_Text_numberEnd_41, r_Text_numberEnd_42, r_Text_numberEnd_44, r_Text_numberEnd_46, r_Text_numberEnd_47, r_Text_numberEnd_50, r_Text_numberEnd_51, r_Text_numberEnd_53, r_Text_numberEnd_56, r_Text_numberEnd_59, r_Text_numberEnd_62, r_Text_numberEnd_63, r_Text_numberEnd_64, r_Text_numberEnd_67, r_Text_numberEnd_70, r_Text_numberEnd_71, ai_aload, ai_iload, ai_callv2, am_push, am_few, ai_const, ai_cmpne, ai_iadd, ai_bin, ai_goto, ai_istore, am_cut_0, am_cut_s, am_c1, ai_isub, ai_cmplt, ai_cmple, ai_iret, ai_cmpge, ai_calls1, ai_ifne, ai_iinc, kd_0, fd_0_0, fd_0_1, fd_0_2, fd_0_3, fd_0_4, kd_1, fd_1_0, fd_1_1, ln_2, kd_3, fd_3_0, fd_3_1, fd_3_2, fd_3_3, fd_3_4, fd_3_5, fd_3_6, fd_3_7, fd_3_8, fd_3_9, ln_4, ln_5, ln_6, ln_7, ln_8, ln_9, ln_10, kd_11, fd_11_0, fd_11_1, fd_11_2, fd_11_3, fd_11_4, kd_12, fd_12_0, fd_12_1, fd_12_2, fd_12_3, ln_13, ln_14, ln_15, kd_16, fd_16_0, fd_16_1, fd_16_2, ln_17, kd_18, fd_18_0, fd_18_1, kd_19, fd_19_0, fd_19_1, fd_19_2, fd_19_3, fd_19_4, fd_19_5, fd_19_6, fd_19_7, fd_19_8, fd_19_9, fd_19_10, fd_19_11, fd_19_12, fd_19_13, fd_19_14, fd_19_15, fd_19_16, fd_19_17, fd_19_18, fd_19_19, fd_19_20, ln_20, ln_21, ln_22, ln_23, ln_24, ln_25, ln_26, ln_27, ln_28, ln_29, ln_30, ln_31, ln_32, List.getElem?_cons_zero, List.getElem?_cons_succ, List.set_cons_zero, List.set_cons_succ, true_and, and_true, ↓reduceIte, Int32.reduceLT, Int32.reduceLE, li_10, or_true, true_or, ↓sp_Text_at, ↓sp_Text_isDigit, e1, e2, nI_1]
    have g1 := ih (i + 1) (by omega)
    simp only [allD] at h
    cases c1 : dgB (M 2 i) <;> simp only [c1, b2, ↓reduceIte, li_10, Bool.false_eq_true, Bool.true_and, Bool.false_and] at h ⊢
    · exact h
    · exact g1 h
set_option maxRecDepth 100000 in
set_option maxHeartbeats 4000000 in
theorem ok_Text_numberEnd {G : aG} (hG : am_ok G) : am_Sp G Y_Text_numberEnd 2 sp_Text_numberEnd := by
  intro as M K h
  unfold sp_Text_numberEnd at h
  split at h
  · next a p =>
    obtain ⟨rfl, ⟨hn, hp, hpt⟩, h⟩ := h
    have hn2 := hn.2
    have e2 : f_at M p = M 2 (cl p) := by
      have q := f_at_nI (i := cl p) hn (by omega)
      rw [if_pos hpt, ← hp.1] at q
      exact q
    refine am_entry hG (by decide +kernel) (Nat.le_of_ble_eq_true rfl) ?_
    refine am_go (cuts := k_Text_numberEnd) (tb_Text_numberEnd (ok_Text_at hG) (by decide) (ok_Text_wordEnd hG) (by decide) (ok_Text_isDigit hG) (by decide)) 400 _ _ _ _ ?_
    change am_run _ _ _ _ _ _ [some (.ref 1), some (.int p), none, none, none] [] _
    simp only [q_Text_numberEnd_44, r_Text_numberEnd_0, r_Text_numberEnd_1, r_Text_numberEnd_2, r_Text_numberEnd_5, r_Text_numberEnd_7, r_Text_numberEnd_10, r_Text_numberEnd_11, r_Text_numberEnd_12, r_Text_numberEnd_13, r_Text_numberEnd_16, r_Text_numberEnd_17, r_Text_numberEnd_18, r_Text_numberEnd_19, r_Text_numberEnd_20, r_Text_numberEnd_23, r_Text_numberEnd_24, r_Text_numberEnd_25, r_Text_numberEnd_26, r_Text_numberEnd_27, r_Text_numberEnd_28, r_Text_numberEnd_31, r_Text_numberEnd_32, r_Text_numberEnd_33, r_Text_numberEnd_34, r_Text_numberEnd_36, r_Text_numberEnd_39, r_Text_numberEnd_40, r_Text_numberEnd_41, r_Text_numberEnd_42, r_Text_numberEnd_44, r_Text_numberEnd_46, r_Text_numberEnd_47, r_Text_numberEnd_50, r_Text_numberEnd_51, r_Text_numberEnd_53, r_Text_numberEnd_56, r_Text_numberEnd_59, r_Text_numberEnd_62, r_Text_numberEnd_63, r_Text_numberEnd_64, r_Text_numberEnd_67, r_Text_numberEnd_70, r_Text_numberEnd_71, ai_aload, ai_iload, ai_callv2, am_push, am_few, ai_const, ai_cmpne, ai_iadd, ai_bin, ai_goto, ai_istore, am_cut_0, am_cut_s, am_c1, ai_isub, ai_cmplt, ai_cmple, ai_iret, ai_cmpge, ai_calls1, ai_ifne, ai_iinc, kd_0, fd_0_0, fd_0_1, fd_0_2, fd_0_3, fd_0_4, kd_1, fd_1_0, fd_1_1, ln_2, kd_3, fd_3_0, fd_3_1, fd_3_2, fd_3_3, fd_3_4, fd_3_5, fd_3_6, fd_3_7, fd_3_8, fd_3_9, ln_4, ln_5, ln_6, ln_7, ln_8, ln_9, ln_10, kd_11, fd_11_0, fd_11_1, fd_11_2, fd_11_3, fd_11_4, kd_12, fd_12_0, fd_12_1, fd_12_2, fd_12_3, ln_13, ln_14, ln_15, kd_16, fd_16_0, fd_16_1, fd_16_2, ln_17, kd_18, fd_18_0, fd_18_1, kd_19, fd_19_0, fd_19_1, fd_19_2, fd_19_3, fd_19_4, fd_19_5, fd_19_6, fd_19_7, fd_19_8, fd_19_9, fd_19_10, fd_19_11, fd_19_12, fd_19_13, fd_19_14, fd_19_15, fd_19_16, fd_19_17, fd_19_18, fd_19_19, fd_19_20, ln_20, ln_21, ln_22, ln_23, ln_24, ln_25, ln_26, ln_27, ln_28, ln_29, ln_30, ln_31, ln_32, List.getElem?_cons_zero, List.getElem?_cons_succ, List.set_cons_zero, List.set_cons_succ, true_and, and_true, ↓reduceIte, Int32.reduceLT, Int32.reduceLE, li_10, or_true, true_or, ↓sp_Text_at, ↓sp_Text_wordEnd, e2]
    have key : ∀ f : Nat, f ≤ tl M → K (some (.int (if f_word M f - f < 1 then -1 else if 9 < f_word M f - f then -1 else if allD (M 2) (f_word M f - f) f = true then nI (f_word M f) else -1))) M → (tx_ok M ∧ sm (nI f) 401) ∧ (if nI (f_word M (cl (nI f))) - nI f < 1 then K (some (.int (-1))) M else if 9 < nI (f_word M (cl (nI f))) - nI f then K (some (.int (-1))) M else am_X G Y_Text_numberEnd 2 K 44 [some (.ref 1), some (.int p), some (.int (nI f)), some (.int (nI (f_word M (cl (nI f))))), some (.int (nI f))] [] M) := by
      intro f hf hk
      refine ⟨⟨hn, sm_nI (by omega) (by decide)⟩, ?_⟩
      rw [show cl (nI f) = f from nI_clamp (by omega)]
      have hle := wE_le (M 2) (tl M - f) f
      have hw : f_word M f = wE (M 2) (tl M - f) f := rfl
      rw [pk_sub (by omega)]
      simp only [iLT (y := 1) (f_word M f - f) 1 (by omega) (by decide), iLT (x := 9) 9 (f_word M f - f) (by decide) (by omega)]
      split
      · next c => rw [if_pos c] at hk; exact hk
      · next c =>
        rw [if_neg c] at hk
        split
        · next c2 => rw [if_pos c2] at hk; exact hk
        · next c2 =>
          rw [if_neg c2] at hk
          exact lp_Text_numberEnd hG hn (by omega) (f_word M f - f) f (by omega) hk
    unfold f_num nmF at h
    split
    · next c =>
      rw [if_pos c] at h
      have := key (cl p + 1) (by omega) h
      rw [show p + 1 = nI (cl p + 1) by rw [← nI_1, ← hp.1]]
      exact this
    · next c =>
      rw [if_neg c] at h
      have := key (cl p) (by omega) h
      rw [← hp.1] at this
      exact this
  · cases h
/-- the byte at a place, -1 beyond -/
def bt (t : Nat → Int32) (n i : Nat) : Int32 := if i < n then t i else -1
theorem f_bt {M : aM} {i : Nat} (h : tx_ok M) (hi : i < 2 ^ 31) : f_at M (nI i) = bt (M 2) (tl M) i := f_at_nI h hi
/-- strings: where the one ends whose bytes begin at i; k: how many bytes it may have yet, and one -/
def stE (t : Nat → Int32) (n : Nat) : Nat → Nat → Int32
  | 0, _ => -1
  | k + 1, i => if bt t n i = 34 then nI (i + 1) else if bt t n i = 92 then (if bt t n (i + 1) = 34 then stE t n k (i + 2) else if bt t n (i + 1) = 92 then stE t n k (i + 2) else -1) else if bt t n i < 32 then -1 else if 126 < bt t n i then -1 else stE t n k (i + 1)
def f_str (M : aM) (i : Nat) : Int32 := stE (M 2) (tl M) 21 (i + 1)
def sp_Text_stringEnd : aS := fun as M K => match as with
  | [.ref a, .int p] => a = 1 ∧ (tx_ok M ∧ sm p 400) ∧ K (some (.int (f_str M (cl p)))) M
  | _ => False
set_option maxRecDepth 100000 in
set_option maxHeartbeats 4000000 in
theorem lp_Text_stringEnd {G : aG} (hG : am_ok G) {K : aR} {M : aM} (hn : tx_ok M) {p : Int32} : ∀ (k c j : Nat) (o : Option Value), c + k = 21 → j ≤ 402 + 2 * c → K (some (.int (stE (M 2) (tl M) k j))) M → am_X G Y_Text_stringEnd 1 K 6 [some (.ref 1), some (.int p), some (.int (nI j)), some (.int (nI c)), o] [] M := by
  intro k
  have hn2 := hn.2
  induction k with
  | zero =>
    intro c j o hk hj h
    have e1 : (20 : Int32) < nI c := nI_lt (a := 20) (by omega) (by omega)
    refine am_from (tb_Text_stringEnd (ok_Text_at hG) (by decide)) k_Text_stringEnd 400 ?_
    simp only [q_Text_stringEnd_6, r_Text_stringEnd_0, r_Text_stringEnd_1, r_Text_stringEnd_2, r_Text_stringEnd_3, r_Text_stringEnd_4, r_Text_stringEnd_5, r_Text_stringEnd_6, r_Text_stringEnd_7, r_Text_stringEnd_9, r_Text_stringEnd_12, r_Text_stringEnd_13, r_Text_stringEnd_14, r_Text_stringEnd_17, r_Text_stringEnd_19, r_Text_stringEnd_21, r_Text_stringEnd_23, r_Text_stringEnd_26, r_Text_stringEnd_27, r_Text_stringEnd_28, r_Text_stringEnd_29, r_Text_stringEnd_30, r_Text_stringEnd_32, r_Text_stringEnd_34, r_Text_stringEnd_37, r_Text_stringEnd_40, r_Text_stringEnd_41, r_Text_stringEnd_42, r_Text_stringEnd_45, r_Text_stringEnd_47, r_Text_stringEnd_49, r_Text_stringEnd_51, r_Text_stringEnd_54, r_Text_stringEnd_56, r_Text_stringEnd_58, r_Text_stringEnd_61, r_Text_stringEnd_62, r_Text_stringEnd_63, r_Text_stringEnd_65, r_Text_stringEnd_67, r_Text_stringEnd_70, r_Text_stringEnd_72, r_Text_stringEnd_74, r_Text_stringEnd_77, r_Text_stringEnd_78, r_Text_stringEnd_79, r_Text_stringEnd_82, r_Text_stringEnd_85, r_Text_stringEnd_88, r_Text_stringEnd_89, ai_iload, ai_const, ai_iadd, ai_bin, ai_istore, am_cut_0, am_cut_s, am_c1, ai_cmpgt, ai_aload, ai_callv2, am_push, am_few, ai_cmpne, ai_iret, ai_iinc, ai_cmpeq, ai_cmplt, ai_cmple, ai_goto, kd_0, fd_0_0, fd_0_1, fd_0_2, fd_0_3, fd_0_4, kd_1, fd_1_0, fd_1_1, ln_2, kd_3, fd_3_0, fd_3_1, fd_3_2, fd_3_3, fd_3_4, fd_3_5, fd_3_6, fd_3_7, fd_3_8, fd_3_9, ln_4, ln_5, ln_6, ln_7, ln_8, ln_9, ln_10, kd_11, fd_11_0, fd_11_1, fd_11_2, fd_11_3, fd_11_4, kd_12, fd_12_0, fd_12_1, fd_12_2, fd_12_3, ln_13, ln_14, ln_15, kd_16, fd_16_0, fd_16_1, fd_16_2, ln_17, kd_18, fd_18_0, fd_18_1, kd_19, fd_19_0, fd_19_1, fd_19_2, fd_19_3, fd_19_4, fd_19_5, fd_19_6, fd_19_7, fd_19_8, fd_19_9, fd_19_10, fd_19_11, fd_19_12, fd_19_13, fd_19_14, fd_19_15, fd_19_16, fd_19_17, fd_19_18, fd_19_19, fd_19_20, ln_20, ln_21, ln_22, ln_23, ln_24, ln_25, ln_26, ln_27, ln_28, ln_29, ln_30, ln_31, ln_32, List.getElem?_cons_zero, List.getElem?_cons_succ, List.set_cons_zero, List.set_cons_succ, true_and, and_true, ↓reduceIte, Int32.reduceLT, Int32.reduceLE, li_10, or_true, true_or, e1]
    exact h
  | succ k ih =>
    intro c j o hk hj h
    have e1 : ¬ (20 : Int32) < nI c := nI_nlt (b := c) (a := 20) (by omega) (by decide)
    refine am_from (tb_Text_stringEnd (ok_Text_at hG) (by decide)) k_Text_stringEnd 400 ?_
    simp only [q_Text_stringEnd_6, r_Text_stringEnd_0, r_Text_stringEnd_1, r_Text_stringEnd_2, r_Text_stringEnd_3, r_Text_stringEnd_4, r_Text_stringEnd_5, r_Text_stringEnd_6, r_Text_stringEnd_7, r_Text_stringEnd_9, r_Text_stringEnd_12, r_Text_stringEnd_13, r_Text_stringEnd_14, r_Text_stringEnd_17, r_Text_stringEnd_19, r_Text_stringEnd_21, r_Text_stringEnd_23, r_Text_stringEnd_26, r_Text_stringEnd_27, r_Text_stringEnd_28, r_Text_stringEnd_29, r_Text_stringEnd_30, r_Text_stringEnd_32, r_Text_stringEnd_34, r_Text_stringEnd_37, r_Text_stringEnd_40, r_Text_stringEnd_41, r_Text_stringEnd_42, r_Text_stringEnd_45, r_Text_stringEnd_47, r_Text_stringEnd_49, r_Text_stringEnd_51, r_Text_stringEnd_54, r_Text_stringEnd_56, r_Text_stringEnd_58, r_Text_stringEnd_61, r_Text_stringEnd_62, r_Text_stringEnd_63, r_Text_stringEnd_65, r_Text_stringEnd_67, r_Text_stringEnd_70, r_Text_stringEnd_72, r_Text_stringEnd_74, r_Text_stringEnd_77, r_Text_stringEnd_78, r_Text_stringEnd_79, r_Text_stringEnd_82, r_Text_stringEnd_85, r_Text_stringEnd_88, r_Text_stringEnd_89, ai_iload, ai_const, ai_iadd, ai_bin, ai_istore, am_cut_0, am_cut_s, am_c1, ai_cmpgt, ai_aload, ai_callv2, am_push, am_few, ai_cmpne, ai_iret, ai_iinc, ai_cmpeq, ai_cmplt, ai_cmple, ai_goto, kd_0, fd_0_0, fd_0_1, fd_0_2, fd_0_3, fd_0_4, kd_1, fd_1_0, fd_1_1, ln_2, kd_3, fd_3_0, fd_3_1, fd_3_2, fd_3_3, fd_3_4, fd_3_5, fd_3_6, fd_3_7, fd_3_8, fd_3_9, ln_4, ln_5, ln_6, ln_7, ln_8, ln_9, ln_10, kd_11, fd_11_0, fd_11_1, fd_11_2, fd_11_3, fd_11_4, kd_12, fd_12_0, fd_12_1, fd_12_2, fd_12_3, ln_13, ln_14, ln_15, kd_16, fd_16_0, fd_16_1, fd_16_2, ln_17, kd_18, fd_18_0, fd_18_1, kd_19, fd_19_0, fd_19_1, fd_19_2, fd_19_3, fd_19_4, fd_19_5, fd_19_6, fd_19_7, fd_19_8, fd_19_9, fd_19_10, fd_19_11, fd_19_12, fd_19_13, fd_19_14, fd_19_15, fd_19_16, fd_19_17, fd_19_18, fd_19_19, fd_19_20, ln_20, ln_21, ln_22, ln_23, ln_24, ln_25, ln_26, ln_27, ln_28, ln_29, ln_30, ln_31, ln_32, List.getElem?_cons_zero, List.getElem?_cons_succ, List.set_cons_zero, List.set_cons_succ, true_and, and_true, ↓reduceIte, Int32.reduceLT, Int32.reduceLE, li_10, or_true, true_or, ↓sp_Text_at, e1, f_bt hn (show j < 2 ^ 31 by omega), f_bt hn (show j + 1 < 2 ^ 31 by omega), nI_1]
    simp only [stE] at h
    have g1 := fun o => ih (c + 1) (j + 1) o (by omega) (by omega)
    have g2 := fun o => ih (c + 1) (j + 2) o (by omega) (by omega)
    by_cases c1 : bt (M 2) (tl M) j = 34
    · simp only [c1, ↓reduceIte] at h ⊢; exact h
    · simp only [c1, ↓reduceIte] at h ⊢
      by_cases c2 : bt (M 2) (tl M) j = 92
      · simp only [c2, ↓reduceIte] at h ⊢
        by_cases c3 : bt (M 2) (tl M) (j + 1) = 34
        · simp only [c3, ↓reduceIte, Int32.reduceLT] at h ⊢; exact g2 _ h
        · simp only [c3, ↓reduceIte] at h ⊢
          by_cases c4 : bt (M 2) (tl M) (j + 1) = 92
          · simp only [c4, ↓reduceIte, Int32.reduceLT] at h ⊢; exact g2 _ h
          · simp only [c4, ↓reduceIte] at h ⊢; exact h
      · simp only [c2, ↓reduceIte] at h ⊢
        by_cases c3 : bt (M 2) (tl M) j < 32
        · simp only [c3, ↓reduceIte] at h ⊢; exact h
        · simp only [c3, ↓reduceIte] at h ⊢
          by_cases c4 : 126 < bt (M 2) (tl M) j
          · simp only [c4, ↓reduceIte] at h ⊢; exact h
          · simp only [c4, ↓reduceIte] at h ⊢; exact g1 _ h
set_option maxRecDepth 100000 in
set_option maxHeartbeats 4000000 in
theorem ok_Text_stringEnd {G : aG} (hG : am_ok G) : am_Sp G Y_Text_stringEnd 1 sp_Text_stringEnd := by
  intro as M K h
  unfold sp_Text_stringEnd at h
  split at h
  · next a p =>
    obtain ⟨rfl, ⟨hn, hp⟩, h⟩ := h
    have hp2 := hp.2
    refine am_entry hG (by decide +kernel) (Nat.le_of_ble_eq_true rfl) ?_
    refine am_go (cuts := k_Text_stringEnd) (tb_Text_stringEnd (ok_Text_at hG) (by decide)) 400 _ _ _ _ ?_
    change am_run _ _ _ _ _ _ [some (.ref 1), some (.int p), none, none, none] [] _
    simp only [q_Text_stringEnd_6, r_Text_stringEnd_0, r_Text_stringEnd_1, r_Text_stringEnd_2, r_Text_stringEnd_3, r_Text_stringEnd_4, r_Text_stringEnd_5, r_Text_stringEnd_6, r_Text_stringEnd_7, r_Text_stringEnd_9, r_Text_stringEnd_12, r_Text_stringEnd_13, r_Text_stringEnd_14, r_Text_stringEnd_17, r_Text_stringEnd_19, r_Text_stringEnd_21, r_Text_stringEnd_23, r_Text_stringEnd_26, r_Text_stringEnd_27, r_Text_stringEnd_28, r_Text_stringEnd_29, r_Text_stringEnd_30, r_Text_stringEnd_32, r_Text_stringEnd_34, r_Text_stringEnd_37, r_Text_stringEnd_40, r_Text_stringEnd_41, r_Text_stringEnd_42, r_Text_stringEnd_45, r_Text_stringEnd_47, r_Text_stringEnd_49, r_Text_stringEnd_51, r_Text_stringEnd_54, r_Text_stringEnd_56, r_Text_stringEnd_58, r_Text_stringEnd_61, r_Text_stringEnd_62, r_Text_stringEnd_63, r_Text_stringEnd_65, r_Text_stringEnd_67, r_Text_stringEnd_70, r_Text_stringEnd_72, r_Text_stringEnd_74, r_Text_stringEnd_77, r_Text_stringEnd_78, r_Text_stringEnd_79, r_Text_stringEnd_82, r_Text_stringEnd_85, r_Text_stringEnd_88, r_Text_stringEnd_89, ai_iload, ai_const, ai_iadd, ai_bin, ai_istore, am_cut_0, am_cut_s, am_c1, ai_cmpgt, ai_aload, ai_callv2, am_push, am_few, ai_cmpne, ai_iret, ai_iinc, ai_cmpeq, ai_cmplt, ai_cmple, ai_goto, kd_0, fd_0_0, fd_0_1, fd_0_2, fd_0_3, fd_0_4, kd_1, fd_1_0, fd_1_1, ln_2, kd_3, fd_3_0, fd_3_1, fd_3_2, fd_3_3, fd_3_4, fd_3_5, fd_3_6, fd_3_7, fd_3_8, fd_3_9, ln_4, ln_5, ln_6, ln_7, ln_8, ln_9, ln_10, kd_11, fd_11_0, fd_11_1, fd_11_2, fd_11_3, fd_11_4, kd_12, fd_12_0, fd_12_1, fd_12_2, fd_12_3, ln_13, ln_14, ln_15, kd_16, fd_16_0, fd_16_1, fd_16_2, ln_17, kd_18, fd_18_0, fd_18_1, kd_19, fd_19_0, fd_19_1, fd_19_2, fd_19_3, fd_19_4, fd_19_5, fd_19_6, fd_19_7, fd_19_8, fd_19_9, fd_19_10, fd_19_11, fd_19_12, fd_19_13, fd_19_14, fd_19_15, fd_19_16, fd_19_17, fd_19_18, fd_19_19, fd_19_20, ln_20, ln_21, ln_22, ln_23, ln_24, ln_25, ln_26, ln_27, ln_28, ln_29, ln_30, ln_31, ln_32, List.getElem?_cons_zero, List.getElem?_cons_succ, List.set_cons_zero, List.set_cons_succ, true_and, and_true, ↓reduceIte, Int32.reduceLT, Int32.reduceLE, li_10, or_true, true_or]
    rw [show p + 1 = nI (cl p + 1) by rw [← nI_1, ← hp.1]]
    exact lp_Text_stringEnd hG hn 21 0 (cl p + 1) none rfl (by omega) h
  · cases h
/-- the sort of a token by its first byte -/
def srt (b : Int32) : Int32 := if b = -1 then 10 else if b = 34 then 3 else if b = 39 then 8 else if b = 40 then 6 else if b = 41 then 7 else if b = 46 then 9 else if b = 45 then 1 else if dgB b = true then 1 else if wB b = true then 2 else 11
def sp_Text_sortAt : aS := fun as M K => match as with
  | [.ref a, .int p] => a = 1 ∧ K (some (.int (srt (f_at M p)))) M
  | _ => False
set_option maxRecDepth 100000 in
set_option maxHeartbeats 4000000 in
theorem ok_Text_sortAt {G : aG} (hG : am_ok G) : am_Sp G Y_Text_sortAt 1 sp_Text_sortAt := by
  intro as M K h
  unfold sp_Text_sortAt at h
  split at h
  · next a p =>
    obtain ⟨rfl, h⟩ := h
    refine am_entry hG (by decide +kernel) (Nat.le_of_ble_eq_true rfl) ?_
    refine am_go (cuts := k_Text_sortAt) (tb_Text_sortAt (ok_Text_at hG) (by decide) (ok_Text_isDigit hG) (by decide) (ok_Text_isWordByte hG) (by decide)) 400 _ _ _ _ ?_
    change am_run _ _ _ _ _ _ [some (.ref 1), some (.int p), none] [] _
    simp only [r_Text_sortAt_0, r_Text_sortAt_1, r_Text_sortAt_2, r_Text_sortAt_5, r_Text_sortAt_6, r_Text_sortAt_7, r_Text_sortAt_64, r_Text_sortAt_66, r_Text_sortAt_67, r_Text_sortAt_69, r_Text_sortAt_70, r_Text_sortAt_72, r_Text_sortAt_73, r_Text_sortAt_75, r_Text_sortAt_76, r_Text_sortAt_78, r_Text_sortAt_79, r_Text_sortAt_80, r_Text_sortAt_81, r_Text_sortAt_82, r_Text_sortAt_84, r_Text_sortAt_87, r_Text_sortAt_88, r_Text_sortAt_91, r_Text_sortAt_94, r_Text_sortAt_95, r_Text_sortAt_96, r_Text_sortAt_97, r_Text_sortAt_100, r_Text_sortAt_103, r_Text_sortAt_104, r_Text_sortAt_107, r_Text_sortAt_109, ai_aload, ai_iload, ai_callv2, am_push, am_few, ai_istore, am_cut_0, am_cut_s, am_c1, ai_switch, am_sw, ai_const, ai_iret, ai_cmpeq, ai_calls1, ai_ifeq, ai_goto, kd_0, fd_0_0, fd_0_1, fd_0_2, fd_0_3, fd_0_4, kd_1, fd_1_0, fd_1_1, ln_2, kd_3, fd_3_0, fd_3_1, fd_3_2, fd_3_3, fd_3_4, fd_3_5, fd_3_6, fd_3_7, fd_3_8, fd_3_9, ln_4, ln_5, ln_6, ln_7, ln_8, ln_9, ln_10, kd_11, fd_11_0, fd_11_1, fd_11_2, fd_11_3, fd_11_4, kd_12, fd_12_0, fd_12_1, fd_12_2, fd_12_3, ln_13, ln_14, ln_15, kd_16, fd_16_0, fd_16_1, fd_16_2, ln_17, kd_18, fd_18_0, fd_18_1, kd_19, fd_19_0, fd_19_1, fd_19_2, fd_19_3, fd_19_4, fd_19_5, fd_19_6, fd_19_7, fd_19_8, fd_19_9, fd_19_10, fd_19_11, fd_19_12, fd_19_13, fd_19_14, fd_19_15, fd_19_16, fd_19_17, fd_19_18, fd_19_19, fd_19_20, ln_20, ln_21, ln_22, ln_23, ln_24, ln_25, ln_26, ln_27, ln_28, ln_29, ln_30, ln_31, ln_32, List.getElem?_cons_zero, List.getElem?_cons_succ, List.set_cons_zero, List.set_cons_succ, true_and, and_true, ↓reduceIte, Int32.reduceLT, Int32.reduceLE, li_10, or_true, true_or, ↓sp_Text_at, ↓sp_Text_isDigit, ↓sp_Text_isWordByte]
    generalize f_at M p = b at h ⊢
    unfold srt at h
    by_cases c1 : b = -1
    · simp only [c1, ↓reduceIte] at h ⊢; exact h
    by_cases c2 : b = 34
    · simp only [c1, c2, ↓reduceIte] at h ⊢; exact h
    by_cases c3 : b = 39
    · simp only [c1, c2, c3, ↓reduceIte] at h ⊢; exact h
    by_cases c4 : b = 40
    · simp only [c1, c2, c3, c4, ↓reduceIte] at h ⊢; exact h
    by_cases c5 : b = 41
    · simp only [c1, c2, c3, c4, c5, ↓reduceIte] at h ⊢; exact h
    by_cases c6 : b = 46
    · simp only [c1, c2, c3, c4, c5, c6, ↓reduceIte] at h ⊢; exact h
    by_cases c7 : b = 45
    · simp only [c1, c2, c3, c4, c5, c6, c7, ↓reduceIte] at h ⊢; exact h
    cases c8 : dgB b
    · cases c9 : wB b
      · simp only [c1, c2, c3, c4, c5, c6, c7, c8, c9, b2, ↓reduceIte, Bool.false_eq_true] at h ⊢; exact h
      · simp only [c1, c2, c3, c4, c5, c6, c7, c8, c9, b2, ↓reduceIte, Bool.false_eq_true, li_10] at h ⊢; exact h
    · simp only [c1, c2, c3, c4, c5, c6, c7, c8, b2, ↓reduceIte, li_10] at h ⊢; exact h
  · cases h
/-- where a token of this sort ends, -1 if its bytes make none -/
def f_tend (M : aM) (i : Nat) (s : Int32) : Int32 := if s = 1 then f_num M i else if s = 2 then f_name M i else if s = 3 then f_str M i else if s = 9 then (if wB (f_at M (nI i - 1)) = true then -1 else if wB (bt (M 2) (tl M) (i + 1)) = true then -1 else nI (i + 1)) else if s = 11 then -1 else nI (i + 1)
def sp_Text_tokenEnd : aS := fun as M K => match as with
  | [.ref a, .int p, .int s] => a = 1 ∧ (tx_ok M ∧ sm p 400 ∧ (s = 1 → cl p < tl M)) ∧ K (some (.int (f_tend M (cl p) s))) M
  | _ => False
set_option maxRecDepth 100000 in
set_option maxHeartbeats 4000000 in
theorem ok_Text_tokenEnd {G : aG} (hG : am_ok G) : am_Sp G Y_Text_tokenEnd 3 sp_Text_tokenEnd := by
  intro as M K h
  unfold sp_Text_tokenEnd at h
  split at h
  · next a p s =>
    obtain ⟨rfl, ⟨hn, hp, hs⟩, h⟩ := h
    have hp2 := hp.2
    have e1 : p + 1 = nI (cl p + 1) := by rw [← nI_1, ← hp.1]
    refine am_entry hG (by decide +kernel) (Nat.le_of_ble_eq_true rfl) ?_
    refine am_go (cuts := k_Text_tokenEnd) (tb_Text_tokenEnd (ok_Text_numberEnd hG) (by decide) (ok_Text_nameEnd hG) (by decide) (ok_Text_stringEnd hG) (by decide) (ok_Text_at hG) (by decide) (ok_Text_isWordByte hG) (by decide)) 400 _ _ _ _ ?_
    change am_run _ _ _ _ _ _ [some (.ref 1), some (.int p), some (.int s)] [] _
    simp only [r_Text_tokenEnd_0, r_Text_tokenEnd_1, r_Text_tokenEnd_60, r_Text_tokenEnd_61, r_Text_tokenEnd_62, r_Text_tokenEnd_65, r_Text_tokenEnd_66, r_Text_tokenEnd_67, r_Text_tokenEnd_68, r_Text_tokenEnd_71, r_Text_tokenEnd_72, r_Text_tokenEnd_73, r_Text_tokenEnd_74, r_Text_tokenEnd_77, r_Text_tokenEnd_78, r_Text_tokenEnd_79, r_Text_tokenEnd_80, r_Text_tokenEnd_81, r_Text_tokenEnd_82, r_Text_tokenEnd_85, r_Text_tokenEnd_88, r_Text_tokenEnd_91, r_Text_tokenEnd_92, r_Text_tokenEnd_93, r_Text_tokenEnd_94, r_Text_tokenEnd_95, r_Text_tokenEnd_98, r_Text_tokenEnd_101, r_Text_tokenEnd_104, r_Text_tokenEnd_105, r_Text_tokenEnd_108, r_Text_tokenEnd_109, r_Text_tokenEnd_110, r_Text_tokenEnd_111, r_Text_tokenEnd_112, r_Text_tokenEnd_113, r_Text_tokenEnd_114, r_Text_tokenEnd_115, r_Text_tokenEnd_116, r_Text_tokenEnd_117, ai_iload, ai_switch, am_sw, ai_aload, ai_callv2, am_push, am_few, ai_iret, ai_const, ai_isub, ai_bin, ai_calls1, ai_ifne, ai_iadd, ai_ifeq, ai_goto, kd_0, fd_0_0, fd_0_1, fd_0_2, fd_0_3, fd_0_4, kd_1, fd_1_0, fd_1_1, ln_2, kd_3, fd_3_0, fd_3_1, fd_3_2, fd_3_3, fd_3_4, fd_3_5, fd_3_6, fd_3_7, fd_3_8, fd_3_9, ln_4, ln_5, ln_6, ln_7, ln_8, ln_9, ln_10, kd_11, fd_11_0, fd_11_1, fd_11_2, fd_11_3, fd_11_4, kd_12, fd_12_0, fd_12_1, fd_12_2, fd_12_3, ln_13, ln_14, ln_15, kd_16, fd_16_0, fd_16_1, fd_16_2, ln_17, kd_18, fd_18_0, fd_18_1, kd_19, fd_19_0, fd_19_1, fd_19_2, fd_19_3, fd_19_4, fd_19_5, fd_19_6, fd_19_7, fd_19_8, fd_19_9, fd_19_10, fd_19_11, fd_19_12, fd_19_13, fd_19_14, fd_19_15, fd_19_16, fd_19_17, fd_19_18, fd_19_19, fd_19_20, ln_20, ln_21, ln_22, ln_23, ln_24, ln_25, ln_26, ln_27, ln_28, ln_29, ln_30, ln_31, ln_32, List.getElem?_cons_zero, List.getElem?_cons_succ, List.set_cons_zero, List.set_cons_succ, true_and, and_true, ↓reduceIte, Int32.reduceLT, Int32.reduceLE, li_10, or_true, true_or, ↓sp_Text_at, ↓sp_Text_isWordByte, ↓sp_Text_numberEnd, ↓sp_Text_nameEnd, ↓sp_Text_stringEnd, e1, f_bt hn (show cl p + 1 < 2 ^ 31 by omega)]
    unfold f_tend at h
    rw [← hp.1] at h
    by_cases c1 : s = 1
    · simp only [c1, ↓reduceIte] at h ⊢; exact ⟨⟨hn, hp, hs c1⟩, h⟩
    by_cases c2 : s = 2
    · simp only [c1, c2, ↓reduceIte] at h ⊢; exact ⟨⟨hn, hp.1, by omega⟩, h⟩
    by_cases c3 : s = 3
    · simp only [c1, c2, c3, ↓reduceIte] at h ⊢; exact ⟨⟨hn, hp⟩, h⟩
    by_cases c9 : s = 9
    · subst c9
      cases w1 : wB (f_at M (p - 1)) <;> cases w2 : wB (bt (M 2) (tl M) (cl p + 1)) <;> simp [w1, w2, b2] at h ⊢ <;> exact h
    by_cases c11 : s = 11
    · subst c11; simp at h ⊢; exact h
    · simp only [c1, c2, c3, c9, c11, ↓reduceIte, ite_self] at h ⊢; exact h
  · cases h
def apd (M : aM) (b : Int32) : aM := am_up (am_up M 2 (tl M) b) 1 1 (nI (tl M + 1))
def sp_Text_append : aS := fun as M K => match as with
  | [.ref a, .int b] => a = 1 ∧ (tx_ok M ∧ tl M < 400) ∧ K none (apd M b)
  | _ => False
set_option maxRecDepth 100000 in
set_option maxHeartbeats 4000000 in
theorem ok_Text_append {G : aG} (hG : am_ok G) : am_Sp G Y_Text_append 0 sp_Text_append := by
  intro as M K h
  unfold sp_Text_append at h
  split at h
  · next a b =>
    obtain ⟨rfl, ⟨hn, ht⟩, h⟩ := h
    have e0 : ¬ M 1 1 < 0 := by rw [hn.1]; exact nI_pos (by omega)
    have e1 : M 1 1 < 400 := by rw [hn.1]; exact nI_lt (b := 400) ht (by decide)
    have e2 : vp_in (M 1 1) 400 := vin_lt e0 e1 (by decide)
    refine am_entry hG (by decide +kernel) (Nat.le_of_ble_eq_true rfl) ?_
    refine am_go (cuts := k_Text_append) tb_Text_append 400 _ _ _ _ ?_
    change am_run _ _ _ _ _ _ [some (.ref 1), some (.int b)] [] _
    simp only [r_Text_append_0, r_Text_append_1, r_Text_append_4, r_Text_append_7, r_Text_append_8, r_Text_append_11, r_Text_append_14, r_Text_append_17, r_Text_append_18, r_Text_append_21, r_Text_append_22, r_Text_append_25, r_Text_append_26, r_Text_append_27, r_Text_append_28, r_Text_append_29, r_Text_append_32, r_Text_append_33, r_Text_append_34, r_Text_append_37, ai_aload, ai_getf, ai_iflt, ai_const, ai_cmpge, ai_iload, ai_iast, ai_dup, am_c1, ai_iadd, ai_bin, ai_putf, ai_vret, kd_0, fd_0_0, fd_0_1, fd_0_2, fd_0_3, fd_0_4, kd_1, fd_1_0, fd_1_1, ln_2, kd_3, fd_3_0, fd_3_1, fd_3_2, fd_3_3, fd_3_4, fd_3_5, fd_3_6, fd_3_7, fd_3_8, fd_3_9, ln_4, ln_5, ln_6, ln_7, ln_8, ln_9, ln_10, kd_11, fd_11_0, fd_11_1, fd_11_2, fd_11_3, fd_11_4, kd_12, fd_12_0, fd_12_1, fd_12_2, fd_12_3, ln_13, ln_14, ln_15, kd_16, fd_16_0, fd_16_1, fd_16_2, ln_17, kd_18, fd_18_0, fd_18_1, kd_19, fd_19_0, fd_19_1, fd_19_2, fd_19_3, fd_19_4, fd_19_5, fd_19_6, fd_19_7, fd_19_8, fd_19_9, fd_19_10, fd_19_11, fd_19_12, fd_19_13, fd_19_14, fd_19_15, fd_19_16, fd_19_17, fd_19_18, fd_19_19, fd_19_20, ln_20, ln_21, ln_22, ln_23, ln_24, ln_25, ln_26, ln_27, ln_28, ln_29, ln_30, ln_31, ln_32, List.getElem?_cons_zero, List.getElem?_cons_succ, List.set_cons_zero, List.set_cons_succ, true_and, and_true, ↓reduceIte, Int32.reduceLT, Int32.reduceLE, li_10, or_true, true_or, e0, e1, e2]
    unfold apd at h
    rw [← nI_1, ← hn.1] at h
    have e3 : am_up M 2 (M 1 1).toNatClampNeg b 1 1 = M 1 1 := by rw [am_up_ne (by decide)]
    rw [e3]
    exact h
  · cases h
end
section
/-! THE TOKENS -/
def tk (M : aM) (c : Nat) (d i : Int32) : Int32 := if i < 0 then d else if i < M 12 3 then (if i < 401 then M c i.toNatClampNeg else d) else d
def sp_Tokens_sortOf : aS := fun as M K => match as with
  | [.ref a, .int i] => a = 12 ∧ K (some (.int (tk M 13 11 i))) M
  | _ => False
set_option maxRecDepth 100000 in
set_option maxHeartbeats 4000000 in
theorem ok_Tokens_sortOf {G : aG} (hG : am_ok G) : am_Sp G Y_Tokens_sortOf 0 sp_Tokens_sortOf := by
  intro as M K h
  unfold sp_Tokens_sortOf at h
  split at h
  · next a i =>
    obtain ⟨rfl, h⟩ := h
    refine am_entry hG (by decide +kernel) (Nat.le_of_ble_eq_true rfl) ?_
    refine am_go (cuts := k_Tokens_sortOf) tb_Tokens_sortOf 400 _ _ _ _ ?_
    change am_run _ _ _ _ _ _ [some (.ref 12), some (.int i)] [] _
    simp only [r_Tokens_sortOf_0, r_Tokens_sortOf_1, r_Tokens_sortOf_4, r_Tokens_sortOf_5, r_Tokens_sortOf_6, r_Tokens_sortOf_9, r_Tokens_sortOf_12, r_Tokens_sortOf_13, r_Tokens_sortOf_14, r_Tokens_sortOf_17, r_Tokens_sortOf_18, r_Tokens_sortOf_21, r_Tokens_sortOf_22, r_Tokens_sortOf_25, r_Tokens_sortOf_26, r_Tokens_sortOf_27, r_Tokens_sortOf_30, r_Tokens_sortOf_32, ai_iload, ai_iflt, ai_aload, ai_getf, ai_cmpge, ai_alen, ai_iald, ai_goto, ai_const, ai_iret, kd_0, fd_0_0, fd_0_1, fd_0_2, fd_0_3, fd_0_4, kd_1, fd_1_0, fd_1_1, ln_2, kd_3, fd_3_0, fd_3_1, fd_3_2, fd_3_3, fd_3_4, fd_3_5, fd_3_6, fd_3_7, fd_3_8, fd_3_9, ln_4, ln_5, ln_6, ln_7, ln_8, ln_9, ln_10, kd_11, fd_11_0, fd_11_1, fd_11_2, fd_11_3, fd_11_4, kd_12, fd_12_0, fd_12_1, fd_12_2, fd_12_3, ln_13, ln_14, ln_15, kd_16, fd_16_0, fd_16_1, fd_16_2, ln_17, kd_18, fd_18_0, fd_18_1, kd_19, fd_19_0, fd_19_1, fd_19_2, fd_19_3, fd_19_4, fd_19_5, fd_19_6, fd_19_7, fd_19_8, fd_19_9, fd_19_10, fd_19_11, fd_19_12, fd_19_13, fd_19_14, fd_19_15, fd_19_16, fd_19_17, fd_19_18, fd_19_19, fd_19_20, ln_20, ln_21, ln_22, ln_23, ln_24, ln_25, ln_26, ln_27, ln_28, ln_29, ln_30, ln_31, ln_32, List.getElem?_cons_zero, List.getElem?_cons_succ, List.set_cons_zero, List.set_cons_succ, true_and, and_true, ↓reduceIte, Int32.reduceLT, Int32.reduceLE, li_10, or_true, true_or]
    unfold tk at h
    by_cases h1 : i < 0
    · simp only [h1, ↓reduceIte] at h ⊢; exact h
    · simp only [h1, ↓reduceIte] at h ⊢
      by_cases h2 : i < M 12 3
      · simp only [h2, ↓reduceIte] at h ⊢
        by_cases h3 : i < 401
        · simp only [h3, ↓reduceIte] at h
          rw [if_pos (show i < Int32.ofNat 401 from h3)]
          exact ⟨vin_lt h1 h3 (by decide), h⟩
        · simp only [h3, ↓reduceIte] at h
          rw [if_neg (show ¬ i < Int32.ofNat 401 from h3)]; exact h
      · simp only [h2, ↓reduceIte] at h ⊢; exact h
  · cases h
def sp_Tokens_startOf : aS := fun as M K => match as with
  | [.ref a, .int i] => a = 12 ∧ K (some (.int (tk M 14 (-1) i))) M
  | _ => False
set_option maxRecDepth 100000 in
set_option maxHeartbeats 4000000 in
theorem ok_Tokens_startOf {G : aG} (hG : am_ok G) : am_Sp G Y_Tokens_startOf 0 sp_Tokens_startOf := by
  intro as M K h
  unfold sp_Tokens_startOf at h
  split at h
  · next a i =>
    obtain ⟨rfl, h⟩ := h
    refine am_entry hG (by decide +kernel) (Nat.le_of_ble_eq_true rfl) ?_
    refine am_go (cuts := k_Tokens_startOf) tb_Tokens_startOf 400 _ _ _ _ ?_
    change am_run _ _ _ _ _ _ [some (.ref 12), some (.int i)] [] _
    simp only [r_Tokens_startOf_0, r_Tokens_startOf_1, r_Tokens_startOf_4, r_Tokens_startOf_5, r_Tokens_startOf_6, r_Tokens_startOf_9, r_Tokens_startOf_12, r_Tokens_startOf_13, r_Tokens_startOf_14, r_Tokens_startOf_17, r_Tokens_startOf_18, r_Tokens_startOf_21, r_Tokens_startOf_22, r_Tokens_startOf_25, r_Tokens_startOf_26, r_Tokens_startOf_27, r_Tokens_startOf_30, r_Tokens_startOf_31, ai_iload, ai_iflt, ai_aload, ai_getf, ai_cmpge, ai_alen, ai_iald, ai_goto, ai_const, ai_iret, kd_0, fd_0_0, fd_0_1, fd_0_2, fd_0_3, fd_0_4, kd_1, fd_1_0, fd_1_1, ln_2, kd_3, fd_3_0, fd_3_1, fd_3_2, fd_3_3, fd_3_4, fd_3_5, fd_3_6, fd_3_7, fd_3_8, fd_3_9, ln_4, ln_5, ln_6, ln_7, ln_8, ln_9, ln_10, kd_11, fd_11_0, fd_11_1, fd_11_2, fd_11_3, fd_11_4, kd_12, fd_12_0, fd_12_1, fd_12_2, fd_12_3, ln_13, ln_14, ln_15, kd_16, fd_16_0, fd_16_1, fd_16_2, ln_17, kd_18, fd_18_0, fd_18_1, kd_19, fd_19_0, fd_19_1, fd_19_2, fd_19_3, fd_19_4, fd_19_5, fd_19_6, fd_19_7, fd_19_8, fd_19_9, fd_19_10, fd_19_11, fd_19_12, fd_19_13, fd_19_14, fd_19_15, fd_19_16, fd_19_17, fd_19_18, fd_19_19, fd_19_20, ln_20, ln_21, ln_22, ln_23, ln_24, ln_25, ln_26, ln_27, ln_28, ln_29, ln_30, ln_31, ln_32, List.getElem?_cons_zero, List.getElem?_cons_succ, List.set_cons_zero, List.set_cons_succ, true_and, and_true, ↓reduceIte, Int32.reduceLT, Int32.reduceLE, li_10, or_true, true_or]
    unfold tk at h
    by_cases h1 : i < 0
    · simp only [h1, ↓reduceIte] at h ⊢; exact h
    · simp only [h1, ↓reduceIte] at h ⊢
      by_cases h2 : i < M 12 3
      · simp only [h2, ↓reduceIte] at h ⊢
        by_cases h3 : i < 401
        · simp only [h3, ↓reduceIte] at h
          rw [if_pos (show i < Int32.ofNat 401 from h3)]
          exact ⟨vin_lt h1 h3 (by decide), h⟩
        · simp only [h3, ↓reduceIte] at h
          rw [if_neg (show ¬ i < Int32.ofNat 401 from h3)]; exact h
      · simp only [h2, ↓reduceIte] at h ⊢; exact h
  · cases h
def sp_Tokens_endOf : aS := fun as M K => match as with
  | [.ref a, .int i] => a = 12 ∧ K (some (.int (tk M 15 (-1) i))) M
  | _ => False
set_option maxRecDepth 100000 in
set_option maxHeartbeats 4000000 in
theorem ok_Tokens_endOf {G : aG} (hG : am_ok G) : am_Sp G Y_Tokens_endOf 0 sp_Tokens_endOf := by
  intro as M K h
  unfold sp_Tokens_endOf at h
  split at h
  · next a i =>
    obtain ⟨rfl, h⟩ := h
    refine am_entry hG (by decide +kernel) (Nat.le_of_ble_eq_true rfl) ?_
    refine am_go (cuts := k_Tokens_endOf) tb_Tokens_endOf 400 _ _ _ _ ?_
    change am_run _ _ _ _ _ _ [some (.ref 12), some (.int i)] [] _
    simp only [r_Tokens_endOf_0, r_Tokens_endOf_1, r_Tokens_endOf_4, r_Tokens_endOf_5, r_Tokens_endOf_6, r_Tokens_endOf_9, r_Tokens_endOf_12, r_Tokens_endOf_13, r_Tokens_endOf_14, r_Tokens_endOf_17, r_Tokens_endOf_18, r_Tokens_endOf_21, r_Tokens_endOf_22, r_Tokens_endOf_25, r_Tokens_endOf_26, r_Tokens_endOf_27, r_Tokens_endOf_30, r_Tokens_endOf_31, ai_iload, ai_iflt, ai_aload, ai_getf, ai_cmpge, ai_alen, ai_iald, ai_goto, ai_const, ai_iret, kd_0, fd_0_0, fd_0_1, fd_0_2, fd_0_3, fd_0_4, kd_1, fd_1_0, fd_1_1, ln_2, kd_3, fd_3_0, fd_3_1, fd_3_2, fd_3_3, fd_3_4, fd_3_5, fd_3_6, fd_3_7, fd_3_8, fd_3_9, ln_4, ln_5, ln_6, ln_7, ln_8, ln_9, ln_10, kd_11, fd_11_0, fd_11_1, fd_11_2, fd_11_3, fd_11_4, kd_12, fd_12_0, fd_12_1, fd_12_2, fd_12_3, ln_13, ln_14, ln_15, kd_16, fd_16_0, fd_16_1, fd_16_2, ln_17, kd_18, fd_18_0, fd_18_1, kd_19, fd_19_0, fd_19_1, fd_19_2, fd_19_3, fd_19_4, fd_19_5, fd_19_6, fd_19_7, fd_19_8, fd_19_9, fd_19_10, fd_19_11, fd_19_12, fd_19_13, fd_19_14, fd_19_15, fd_19_16, fd_19_17, fd_19_18, fd_19_19, fd_19_20, ln_20, ln_21, ln_22, ln_23, ln_24, ln_25, ln_26, ln_27, ln_28, ln_29, ln_30, ln_31, ln_32, List.getElem?_cons_zero, List.getElem?_cons_succ, List.set_cons_zero, List.set_cons_succ, true_and, and_true, ↓reduceIte, Int32.reduceLT, Int32.reduceLE, li_10, or_true, true_or]
    unfold tk at h
    by_cases h1 : i < 0
    · simp only [h1, ↓reduceIte] at h ⊢; exact h
    · simp only [h1, ↓reduceIte] at h ⊢
      by_cases h2 : i < M 12 3
      · simp only [h2, ↓reduceIte] at h ⊢
        by_cases h3 : i < 401
        · simp only [h3, ↓reduceIte] at h
          rw [if_pos (show i < Int32.ofNat 401 from h3)]
          exact ⟨vin_lt h1 h3 (by decide), h⟩
        · simp only [h3, ↓reduceIte] at h
          rw [if_neg (show ¬ i < Int32.ofNat 401 from h3)]; exact h
      · simp only [h2, ↓reduceIte] at h ⊢; exact h
  · cases h
/-- a token ends behind its beginning, and in the text -/
theorem bt_lt {t : Nat → Int32} {n i : Nat} (h : ¬ bt t n i = -1) : i < n := by
  apply Nat.lt_of_not_le
  intro q
  exact h (by unfold bt; rw [if_neg (by omega)])
theorem stE_in (t : Nat → Int32) (n : Nat) : ∀ (k i : Nat), ¬ stE t n k i = -1 → ∃ e, stE t n k i = nI e ∧ i < e ∧ e ≤ n
  | 0, i, h => absurd rfl h
  | k + 1, i, h => by
    have h1 := stE_in t n k (i + 1)
    have h2 := stE_in t n k (i + 2)
    simp only [stE] at h ⊢
    by_cases c1 : bt t n i = 34
    · have := bt_lt (t := t) (n := n) (i := i) (by rw [c1]; decide)
      simp only [c1, ↓reduceIte]
      exact ⟨i + 1, rfl, by omega, by omega⟩
    · simp only [c1, ↓reduceIte] at h ⊢
      by_cases c2 : bt t n i = 92
      · simp only [c2, ↓reduceIte] at h ⊢
        by_cases c3 : bt t n (i + 1) = 34
        · simp only [c3, ↓reduceIte] at h ⊢
          obtain ⟨e, a1, a2, a3⟩ := h2 h
          exact ⟨e, a1, by omega, a3⟩
        · simp only [c3, ↓reduceIte] at h ⊢
          by_cases c4 : bt t n (i + 1) = 92
          · simp only [c4, ↓reduceIte] at h ⊢
            obtain ⟨e, a1, a2, a3⟩ := h2 h
            exact ⟨e, a1, by omega, a3⟩
          · simp only [c4, ↓reduceIte] at h
            exact absurd trivial h
      · simp only [c2, ↓reduceIte] at h ⊢
        by_cases c3 : bt t n i < 32
        · simp only [c3, ↓reduceIte] at h
          exact absurd trivial h
        · simp only [c3, ↓reduceIte] at h ⊢
          by_cases c4 : 126 < bt t n i
          · simp only [c4, ↓reduceIte] at h
            exact absurd trivial h
          · simp only [c4, ↓reduceIte] at h ⊢
            obtain ⟨e, a1, a2, a3⟩ := h1 h
            exact ⟨e, a1, by omega, a3⟩
theorem srt_m1 {b : Int32} (h : ¬ srt b = 10) : ¬ b = -1 := fun q => h (by rw [q]; rfl)
theorem srt_2 {b : Int32} (h : srt b = 2) : wB b = true := by
  unfold srt at h
  by_cases c1 : b = -1
  · simp only [c1, ↓reduceIte] at h; exact absurd h (by decide)
  by_cases c2 : b = 34
  · simp only [c1, c2, ↓reduceIte] at h; exact absurd h (by decide)
  by_cases c3 : b = 39
  · simp only [c1, c2, c3, ↓reduceIte] at h; exact absurd h (by decide)
  by_cases c4 : b = 40
  · simp only [c1, c2, c3, c4, ↓reduceIte] at h; exact absurd h (by decide)
  by_cases c5 : b = 41
  · simp only [c1, c2, c3, c4, c5, ↓reduceIte] at h; exact absurd h (by decide)
  by_cases c6 : b = 46
  · simp only [c1, c2, c3, c4, c5, c6, ↓reduceIte] at h; exact absurd h (by decide)
  by_cases c7 : b = 45
  · simp only [c1, c2, c3, c4, c5, c6, c7, ↓reduceIte] at h; exact absurd h (by decide)
  simp only [c1, c2, c3, c4, c5, c6, c7, ↓reduceIte] at h
  cases c8 : dgB b
  · cases c9 : wB b
    · simp [c8, c9] at h
    · rfl
  · simp [c8] at h
theorem tend_in {M : aM} (hn : tx_ok M) {i : Nat} (h10 : ¬ srt (bt (M 2) (tl M) i) = 10) (h : ¬ f_tend M i (srt (bt (M 2) (tl M) i)) = -1) : ∃ e, f_tend M i (srt (bt (M 2) (tl M) i)) = nI e ∧ i < e ∧ e ≤ tl M := by
  have hi := bt_lt (srt_m1 h10)
  have hn2 := hn.2
  generalize hs : srt (bt (M 2) (tl M) i) = s at h h10 ⊢
  unfold f_tend at h ⊢
  by_cases c1 : s = 1
  · simp only [c1, ↓reduceIte] at h ⊢
    unfold f_num at h ⊢
    have hf : i ≤ nmF (M 2) i ∧ nmF (M 2) i ≤ i + 1 := by unfold nmF; split <;> omega
    generalize nmF (M 2) i = f at h hf ⊢
    have hw := wE_le (M 2) (tl M - f) f
    have hw2 : f_word M f = wE (M 2) (tl M - f) f := rfl
    by_cases d1 : f_word M f - f < 1
    · simp only [d1, ↓reduceIte] at h; exact absurd trivial h
    · simp only [d1, ↓reduceIte] at h ⊢
      by_cases d2 : 9 < f_word M f - f
      · simp only [d2, ↓reduceIte] at h; exact absurd trivial h
      · simp only [d2, ↓reduceIte] at h ⊢
        by_cases d3 : allD (M 2) (f_word M f - f) f = true
        · simp only [d3, ↓reduceIte]
          exact ⟨_, rfl, by omega, by omega⟩
        · rw [if_neg d3] at h; exact absurd rfl h
  by_cases c2 : s = 2
  · rw [if_neg c1, if_pos c2] at h ⊢
    have hw : wB (M 2 i) = true := by
      have q := srt_2 (hs.trans c2)
      unfold bt at q
      rw [if_pos hi] at q
      exact q
    unfold f_name at h ⊢
    have e1 : f_word M i = wE (M 2) (tl M - i - 1) (i + 1) := by
      unfold f_word
      rw [show tl M - i = (tl M - i - 1) + 1 by omega]
      simp only [wE, hw, ↓reduceIte, Nat.add_sub_cancel]
    have hl := wE_le (M 2) (tl M - i - 1) (i + 1)
    split
    · next d1 => rw [if_pos d1] at h; exact absurd rfl h
    · exact ⟨_, rfl, by omega, by omega⟩
  by_cases c3 : s = 3
  · rw [if_neg c1, if_neg c2, if_pos c3] at h ⊢
    obtain ⟨e, a1, a2, a3⟩ := stE_in (M 2) (tl M) 21 (i + 1) h
    exact ⟨e, a1, by omega, a3⟩
  by_cases c9 : s = 9
  · rw [if_neg c1, if_neg c2, if_neg c3, if_pos c9] at h ⊢
    by_cases d1 : wB (f_at M (nI i - 1)) = true
    · simp only [d1, ↓reduceIte] at h; exact absurd trivial h
    · simp only [d1, ↓reduceIte] at h ⊢
      by_cases d2 : wB (bt (M 2) (tl M) (i + 1)) = true
      · simp [d2] at h
      · simp only [d2, Bool.false_eq_true, ↓reduceIte] at h ⊢
        exact ⟨_, rfl, by omega, by omega⟩
  by_cases c11 : s = 11
  · simp only [c11, ↓reduceIte] at h; exact absurd rfl h
  · simp only [c1, c2, c3, c9, c11, ↓reduceIte]
    exact ⟨_, rfl, by omega, by omega⟩
/-- one token, from a place on: its beginning, sort and end -/
def sc_s (M0 : aM) (pos : Nat) : Nat := f_skip M0 pos
def sc_k (M0 : aM) (pos : Nat) : Int32 := srt (bt (M0 2) (tl M0) (sc_s M0 pos))
def sc_e (M0 : aM) (pos : Nat) : Int32 := f_tend M0 (sc_s M0 pos) (sc_k M0 pos)
def sc_put (M0 M : aM) (i pos : Nat) : aM := am_up (am_up (am_up (am_up M 13 i (if sc_e M0 pos = -1 then 11 else sc_k M0 pos)) 14 i (nI (sc_s M0 pos))) 15 i (sc_e M0 pos)) 12 3 (nI (i + 1))
def scanM (M0 : aM) : Nat → Nat → Nat → aM → aM
  | 0, _, _, M => M
  | k + 1, i, pos, M => if sc_e M0 pos = -1 then sc_put M0 M i pos else if sc_k M0 pos = 10 then sc_put M0 M i pos else scanM M0 k (i + 1) (cl (sc_e M0 pos)) (sc_put M0 M i pos)
theorem f_skip_le {M : aM} {pos : Nat} (h : pos ≤ tl M) : pos ≤ f_skip M pos ∧ f_skip M pos ≤ tl M := by
  have := skB_le (M 2) (tl M - pos) false pos
  unfold f_skip
  omega
def sT (M0 M : aM) : Prop := M 1 = M0 1 ∧ M 2 = M0 2
theorem sT.len {M0 M : aM} (h : sT M0 M) : tl M = tl M0 := by unfold tl; rw [h.1]
theorem sT.ok {M0 M : aM} (h : sT M0 M) (hn : tx_ok M0) : tx_ok M := by unfold tx_ok; rw [h.len, h.1]; exact hn
theorem sT.skip {M0 M : aM} (h : sT M0 M) (i : Nat) : f_skip M i = f_skip M0 i := by unfold f_skip; rw [h.len, h.2]
theorem sT.byte {M0 M : aM} (h : sT M0 M) (p : Int32) : f_at M p = f_at M0 p := by unfold f_at; rw [h.1, h.2]
theorem sT.word {M0 M : aM} (h : sT M0 M) (i : Nat) : f_word M i = f_word M0 i := by unfold f_word; rw [h.len, h.2]
theorem sT.tend {M0 M : aM} (h : sT M0 M) (i : Nat) (s : Int32) : f_tend M i s = f_tend M0 i s := by
  unfold f_tend f_num f_name f_str
  simp only [h.word, h.len, h.2, h.byte]
theorem sT.put {M0 M : aM} (h : sT M0 M) (i pos : Nat) : sT M0 (sc_put M0 M i pos) := by
  unfold sc_put
  exact ⟨by rw [am_up_ne (by decide), am_up_ne (by decide), am_up_ne (by decide), am_up_ne (by decide)]; exact h.1, by rw [am_up_ne (by decide), am_up_ne (by decide), am_up_ne (by decide), am_up_ne (by decide)]; exact h.2⟩
def sp_Tokens_scan : aS := fun as M K => match as with
  | [.ref a, .ref b] => a = 12 ∧ b = 1 ∧ tx_ok M ∧ K none (scanM M 401 0 0 (am_up M 12 3 0))
  | _ => False
set_option maxRecDepth 100000 in
set_option maxHeartbeats 4000000 in
theorem lp_Tokens_scan {G : aG} (hG : am_ok G) {K : aR} {M0 : aM} (hn : tx_ok M0) : ∀ (k i pos : Nat) (M : aM) (o4 o5 o6 : Option Value), i + k = 401 → sT M0 M → pos ≤ tl M0 → K none (scanM M0 k i pos M) → am_X G Y_Tokens_scan 4 K 9 [some (.ref 12), some (.ref 1), some (.int (nI pos)), some (.int (nI i)), o4, o5, o6] [] M := by
  intro k
  have hn2 := hn.2
  induction k with
  | zero =>
    intro i pos M o4 o5 o6 hk hT hp h
    have e1 : (400 : Int32) < nI i := nI_lt (a := 400) (by omega) (by omega)
    refine am_from (tb_Tokens_scan (ok_Text_skipBlanks hG) (by decide) (ok_Text_sortAt hG) (by decide) (ok_Text_tokenEnd hG) (by decide)) k_Tokens_scan 400 ?_
    simp only [q_Tokens_scan_9, r_Tokens_scan_0, r_Tokens_scan_1, r_Tokens_scan_2, r_Tokens_scan_5, r_Tokens_scan_6, r_Tokens_scan_7, r_Tokens_scan_8, r_Tokens_scan_9, r_Tokens_scan_10, r_Tokens_scan_13, r_Tokens_scan_16, r_Tokens_scan_17, r_Tokens_scan_18, r_Tokens_scan_21, r_Tokens_scan_23, r_Tokens_scan_24, r_Tokens_scan_26, r_Tokens_scan_29, r_Tokens_scan_31, r_Tokens_scan_32, r_Tokens_scan_34, r_Tokens_scan_36, r_Tokens_scan_39, r_Tokens_scan_41, r_Tokens_scan_42, r_Tokens_scan_45, r_Tokens_scan_46, r_Tokens_scan_48, r_Tokens_scan_49, r_Tokens_scan_52, r_Tokens_scan_54, r_Tokens_scan_57, r_Tokens_scan_59, r_Tokens_scan_60, r_Tokens_scan_61, r_Tokens_scan_64, r_Tokens_scan_65, r_Tokens_scan_67, r_Tokens_scan_68, r_Tokens_scan_69, r_Tokens_scan_72, r_Tokens_scan_73, r_Tokens_scan_75, r_Tokens_scan_76, r_Tokens_scan_77, r_Tokens_scan_78, r_Tokens_scan_79, r_Tokens_scan_80, r_Tokens_scan_83, r_Tokens_scan_85, r_Tokens_scan_86, r_Tokens_scan_89, r_Tokens_scan_91, r_Tokens_scan_93, r_Tokens_scan_96, r_Tokens_scan_97, r_Tokens_scan_99, r_Tokens_scan_100, r_Tokens_scan_103, r_Tokens_scan_106, ai_aload, ai_const, ai_putf, ai_istore, am_cut_0, am_cut_s, am_c1, ai_iload, ai_cmpgt, ai_callv2, am_push, am_few, ai_callv3, ai_getf, ai_cmpne, ai_goto, ai_iast, ai_iadd, ai_bin, ai_cmpeq, ai_vret, ai_iinc, kd_0, fd_0_0, fd_0_1, fd_0_2, fd_0_3, fd_0_4, kd_1, fd_1_0, fd_1_1, ln_2, kd_3, fd_3_0, fd_3_1, fd_3_2, fd_3_3, fd_3_4, fd_3_5, fd_3_6, fd_3_7, fd_3_8, fd_3_9, ln_4, ln_5, ln_6, ln_7, ln_8, ln_9, ln_10, kd_11, fd_11_0, fd_11_1, fd_11_2, fd_11_3, fd_11_4, kd_12, fd_12_0, fd_12_1, fd_12_2, fd_12_3, ln_13, ln_14, ln_15, kd_16, fd_16_0, fd_16_1, fd_16_2, ln_17, kd_18, fd_18_0, fd_18_1, kd_19, fd_19_0, fd_19_1, fd_19_2, fd_19_3, fd_19_4, fd_19_5, fd_19_6, fd_19_7, fd_19_8, fd_19_9, fd_19_10, fd_19_11, fd_19_12, fd_19_13, fd_19_14, fd_19_15, fd_19_16, fd_19_17, fd_19_18, fd_19_19, fd_19_20, ln_20, ln_21, ln_22, ln_23, ln_24, ln_25, ln_26, ln_27, ln_28, ln_29, ln_30, ln_31, ln_32, List.getElem?_cons_zero, List.getElem?_cons_succ, List.set_cons_zero, List.set_cons_succ, true_and, and_true, ↓reduceIte, Int32.reduceLT, Int32.reduceLE, li_10, or_true, true_or, e1]
    exact h
  | succ k ih =>
    intro i pos M o4 o5 o6 hk hT hp h
    have e1 : ¬ (400 : Int32) < nI i := nI_nlt (b := i) (a := 400) (by omega) (by decide)
    have hs := f_skip_le hp
    have hin : vp_in (nI i) 401 := vp_in_nI (by omega) (by decide)
    have ec : cl (nI pos) = pos := nI_clamp (by omega)
    have ec2 : (nI i).toNatClampNeg = i := nI_clamp (by omega)
    have es : cl (nI (f_skip M0 pos)) = f_skip M0 pos := nI_clamp (by omega)
    have hT2 := hT.ok hn
    have eb : f_at M (nI (f_skip M0 pos)) = bt (M0 2) (tl M0) (f_skip M0 pos) := by rw [hT.byte, f_bt hn (by omega)]
    refine am_from (tb_Tokens_scan (ok_Text_skipBlanks hG) (by decide) (ok_Text_sortAt hG) (by decide) (ok_Text_tokenEnd hG) (by decide)) k_Tokens_scan 400 ?_
    simp only [q_Tokens_scan_9, r_Tokens_scan_0, r_Tokens_scan_1, r_Tokens_scan_2, r_Tokens_scan_5, r_Tokens_scan_6, r_Tokens_scan_7, r_Tokens_scan_8, r_Tokens_scan_9, r_Tokens_scan_10, r_Tokens_scan_13, r_Tokens_scan_16, r_Tokens_scan_17, r_Tokens_scan_18, r_Tokens_scan_21, r_Tokens_scan_23, r_Tokens_scan_24, r_Tokens_scan_26, r_Tokens_scan_29, r_Tokens_scan_31, r_Tokens_scan_32, r_Tokens_scan_34, r_Tokens_scan_36, r_Tokens_scan_39, r_Tokens_scan_41, r_Tokens_scan_42, r_Tokens_scan_45, r_Tokens_scan_46, r_Tokens_scan_48, r_Tokens_scan_49, r_Tokens_scan_52, r_Tokens_scan_54, r_Tokens_scan_57, r_Tokens_scan_59, r_Tokens_scan_60, r_Tokens_scan_61, r_Tokens_scan_64, r_Tokens_scan_65, r_Tokens_scan_67, r_Tokens_scan_68, r_Tokens_scan_69, r_Tokens_scan_72, r_Tokens_scan_73, r_Tokens_scan_75, r_Tokens_scan_76, r_Tokens_scan_77, r_Tokens_scan_78, r_Tokens_scan_79, r_Tokens_scan_80, r_Tokens_scan_83, r_Tokens_scan_85, r_Tokens_scan_86, r_Tokens_scan_89, r_Tokens_scan_91, r_Tokens_scan_93, r_Tokens_scan_96, r_Tokens_scan_97, r_Tokens_scan_99, r_Tokens_scan_100, r_Tokens_scan_103, r_Tokens_scan_106, ai_aload, ai_const, ai_putf, ai_istore, am_cut_0, am_cut_s, am_c1, ai_iload, ai_cmpgt, ai_callv2, am_push, am_few, ai_callv3, ai_getf, ai_cmpne, ai_goto, ai_iast, ai_iadd, ai_bin, ai_cmpeq, ai_vret, ai_iinc, kd_0, fd_0_0, fd_0_1, fd_0_2, fd_0_3, fd_0_4, kd_1, fd_1_0, fd_1_1, ln_2, kd_3, fd_3_0, fd_3_1, fd_3_2, fd_3_3, fd_3_4, fd_3_5, fd_3_6, fd_3_7, fd_3_8, fd_3_9, ln_4, ln_5, ln_6, ln_7, ln_8, ln_9, ln_10, kd_11, fd_11_0, fd_11_1, fd_11_2, fd_11_3, fd_11_4, kd_12, fd_12_0, fd_12_1, fd_12_2, fd_12_3, ln_13, ln_14, ln_15, kd_16, fd_16_0, fd_16_1, fd_16_2, ln_17, kd_18, fd_18_0, fd_18_1, kd_19, fd_19_0, fd_19_1, fd_19_2, fd_19_3, fd_19_4, fd_19_5, fd_19_6, fd_19_7, fd_19_8, fd_19_9, fd_19_10, fd_19_11, fd_19_12, fd_19_13, fd_19_14, fd_19_15, fd_19_16, fd_19_17, fd_19_18, fd_19_19, fd_19_20, ln_20, ln_21, ln_22, ln_23, ln_24, ln_25, ln_26, ln_27, ln_28, ln_29, ln_30, ln_31, ln_32, List.getElem?_cons_zero, List.getElem?_cons_succ, List.set_cons_zero, List.set_cons_succ, true_and, and_true, ↓reduceIte, Int32.reduceLT, Int32.reduceLE, li_10, or_true, true_or, ↓sp_Text_skipBlanks, ↓sp_Text_sortAt, ↓sp_Text_tokenEnd, e1, ec, es, hT.skip, hT.tend, hT.len, eb, hin, ec2, nI_1]
    simp only [scanM] at h
    refine ⟨⟨hT2, sm_nI (by omega) (by omega)⟩, ⟨hT2, sm_nI (by omega) (by decide), fun q => ?_⟩, ?_⟩
    · exact bt_lt (srt_m1 (by rw [q]; decide))
    · have ek : sc_k M0 pos = srt (bt (M0 2) (tl M0) (f_skip M0 pos)) := rfl
      have ee : sc_e M0 pos = f_tend M0 (f_skip M0 pos) (srt (bt (M0 2) (tl M0) (f_skip M0 pos))) := rfl
      have ess : sc_s M0 pos = f_skip M0 pos := rfl
      rw [← ek] at ee ⊢
      rw [← ee]
      rw [← ess]
      by_cases c1 : sc_e M0 pos = -1
      · simp only [c1, ↓reduceIte] at h ⊢
        unfold sc_put at h
        simp only [c1, ↓reduceIte] at h
        exact h
      · simp only [c1, ↓reduceIte] at h ⊢
        by_cases c2 : sc_k M0 pos = 10
        · simp only [c2, ↓reduceIte] at h ⊢
          unfold sc_put at h
          simp only [c1, c2, ↓reduceIte] at h
          exact h
        · simp only [c2, ↓reduceIte] at h ⊢
          obtain ⟨e, a1, a2, a3⟩ := tend_in (M := M0) hn (i := f_skip M0 pos) c2 c1
          have a0 : sc_e M0 pos = nI e := a1
          have hM : am_up (am_up (am_up (am_up M 13 i (sc_k M0 pos)) 14 i (nI (sc_s M0 pos))) 15 i (sc_e M0 pos)) 12 3 (nI (i + 1)) = sc_put M0 M i pos := by
            unfold sc_put
            rw [if_neg c1]
          rw [hM]
          have g := ih (i + 1) e (sc_put M0 M i pos) (some (.int (nI (sc_s M0 pos)))) (some (.int (sc_k M0 pos))) (some (.int (sc_e M0 pos))) (by omega) (hT.put i pos) a3
          rw [a0] at g h ⊢
          rw [show cl (nI e) = e from nI_clamp (by omega)] at h
          exact g h
set_option maxRecDepth 100000 in
set_option maxHeartbeats 4000000 in
theorem ok_Tokens_scan {G : aG} (hG : am_ok G) : am_Sp G Y_Tokens_scan 4 sp_Tokens_scan := by
  intro as M K h
  unfold sp_Tokens_scan at h
  split at h
  · next a b =>
    obtain ⟨rfl, rfl, hn, h⟩ := h
    refine am_entry hG (by decide +kernel) (Nat.le_of_ble_eq_true rfl) ?_
    refine am_go (cuts := k_Tokens_scan) (tb_Tokens_scan (ok_Text_skipBlanks hG) (by decide) (ok_Text_sortAt hG) (by decide) (ok_Text_tokenEnd hG) (by decide)) 400 _ _ _ _ ?_
    change am_run _ _ _ _ _ _ [some (.ref 12), some (.ref 1), none, none, none, none, none] [] _
    simp only [q_Tokens_scan_9, r_Tokens_scan_0, r_Tokens_scan_1, r_Tokens_scan_2, r_Tokens_scan_5, r_Tokens_scan_6, r_Tokens_scan_7, r_Tokens_scan_8, r_Tokens_scan_9, r_Tokens_scan_10, r_Tokens_scan_13, r_Tokens_scan_16, r_Tokens_scan_17, r_Tokens_scan_18, r_Tokens_scan_21, r_Tokens_scan_23, r_Tokens_scan_24, r_Tokens_scan_26, r_Tokens_scan_29, r_Tokens_scan_31, r_Tokens_scan_32, r_Tokens_scan_34, r_Tokens_scan_36, r_Tokens_scan_39, r_Tokens_scan_41, r_Tokens_scan_42, r_Tokens_scan_45, r_Tokens_scan_46, r_Tokens_scan_48, r_Tokens_scan_49, r_Tokens_scan_52, r_Tokens_scan_54, r_Tokens_scan_57, r_Tokens_scan_59, r_Tokens_scan_60, r_Tokens_scan_61, r_Tokens_scan_64, r_Tokens_scan_65, r_Tokens_scan_67, r_Tokens_scan_68, r_Tokens_scan_69, r_Tokens_scan_72, r_Tokens_scan_73, r_Tokens_scan_75, r_Tokens_scan_76, r_Tokens_scan_77, r_Tokens_scan_78, r_Tokens_scan_79, r_Tokens_scan_80, r_Tokens_scan_83, r_Tokens_scan_85, r_Tokens_scan_86, r_Tokens_scan_89, r_Tokens_scan_91, r_Tokens_scan_93, r_Tokens_scan_96, r_Tokens_scan_97, r_Tokens_scan_99, r_Tokens_scan_100, r_Tokens_scan_103, r_Tokens_scan_106, ai_aload, ai_const, ai_putf, ai_istore, am_cut_0, am_cut_s, am_c1, ai_iload, ai_cmpgt, ai_callv2, am_push, am_few, ai_callv3, ai_getf, ai_cmpne, ai_goto, ai_iast, ai_iadd, ai_bin, ai_cmpeq, ai_vret, ai_iinc, kd_0, fd_0_0, fd_0_1, fd_0_2, fd_0_3, fd_0_4, kd_1, fd_1_0, fd_1_1, ln_2, kd_3, fd_3_0, fd_3_1, fd_3_2, fd_3_3, fd_3_4, fd_3_5, fd_3_6, fd_3_7, fd_3_8, fd_3_9, ln_4, ln_5, ln_6, ln_7, ln_8, ln_9, ln_10, kd_11, fd_11_0, fd_11_1, fd_11_2, fd_11_3, fd_11_4, kd_12, fd_12_0, fd_12_1, fd_12_2, fd_12_3, ln_13, ln_14, ln_15, kd_16, fd_16_0, fd_16_1, fd_16_2, ln_17, kd_18, fd_18_0, fd_18_1, kd_19, fd_19_0, fd_19_1, fd_19_2, fd_19_3, fd_19_4, fd_19_5, fd_19_6, fd_19_7, fd_19_8, fd_19_9, fd_19_10, fd_19_11, fd_19_12, fd_19_13, fd_19_14, fd_19_15, fd_19_16, fd_19_17, fd_19_18, fd_19_19, fd_19_20, ln_20, ln_21, ln_22, ln_23, ln_24, ln_25, ln_26, ln_27, ln_28, ln_29, ln_30, ln_31, ln_32, List.getElem?_cons_zero, List.getElem?_cons_succ, List.set_cons_zero, List.set_cons_succ, true_and, and_true, ↓reduceIte, Int32.reduceLT, Int32.reduceLE, li_10, or_true, true_or]
    exact lp_Tokens_scan hG hn 401 0 0 (am_up M 12 3 0) none none none rfl ⟨am_up_ne (by decide), am_up_ne (by decide)⟩ (Nat.zero_le _) h
  · cases h
end
section
/-! THE NODES -/
theorem am_up_ap (M : aM) (i j : Nat) (x : Int32) (a b : Nat) : am_up M i j x a b = if a = i then (if b = j then x else M a b) else M a b := by
  unfold am_up
  by_cases h : a = i
  · subst h
    simp [upd]
  · simp [h]
theorem b2_0 (p : Bool) : (b2 p = 0) = (p = false) := by cases p <;> simp [b2]
theorem b2_z (p : Bool) : (b2 p = 0 ∨ b2 p = 1) := by cases p <;> simp [b2]
def hasN (M : aM) (x : Int32) : Bool := !(decide (x < 0)) && decide (x < M 3 5) && decide (x < 200)
theorem hasN_in {M : aM} {x : Int32} (h : hasN M x = true) : vp_in x 200 := by
  simp only [hasN, Bool.and_eq_true, Bool.not_eq_true', decide_eq_false_iff_not, decide_eq_true_eq] at h
  exact vin_lt h.1.1 h.2 (by decide)
def sp_Nodes_has : aS := fun as M K => match as with
  | [.ref a, .int x] => a = 3 ∧ K (some (.int (b2 (hasN M x)))) M
  | _ => False
set_option maxRecDepth 100000 in
set_option maxHeartbeats 4000000 in
theorem ok_Nodes_has {G : aG} (hG : am_ok G) : am_Sp G Y_Nodes_has 0 sp_Nodes_has := by
  intro as M K h
  unfold sp_Nodes_has at h
  split at h
  · next a x =>
    obtain ⟨rfl, h⟩ := h
    refine am_entry hG (by decide +kernel) (Nat.le_of_ble_eq_true rfl) ?_
    refine am_go (cuts := k_Nodes_has) tb_Nodes_has 400 _ _ _ _ ?_
    change am_run _ _ _ _ _ _ [some (.ref 3), some (.int x)] [] _
    simp only [r_Nodes_has_0, r_Nodes_has_1, r_Nodes_has_4, r_Nodes_has_5, r_Nodes_has_6, r_Nodes_has_9, r_Nodes_has_12, r_Nodes_has_13, r_Nodes_has_16, r_Nodes_has_19, r_Nodes_has_20, r_Nodes_has_23, r_Nodes_has_24, ai_iload, ai_iflt, ai_aload, ai_getf, ai_cmpge, ai_const, ai_goto, ai_zret, kd_0, fd_0_0, fd_0_1, fd_0_2, fd_0_3, fd_0_4, kd_1, fd_1_0, fd_1_1, ln_2, kd_3, fd_3_0, fd_3_1, fd_3_2, fd_3_3, fd_3_4, fd_3_5, fd_3_6, fd_3_7, fd_3_8, fd_3_9, ln_4, ln_5, ln_6, ln_7, ln_8, ln_9, ln_10, kd_11, fd_11_0, fd_11_1, fd_11_2, fd_11_3, fd_11_4, kd_12, fd_12_0, fd_12_1, fd_12_2, fd_12_3, ln_13, ln_14, ln_15, kd_16, fd_16_0, fd_16_1, fd_16_2, ln_17, kd_18, fd_18_0, fd_18_1, kd_19, fd_19_0, fd_19_1, fd_19_2, fd_19_3, fd_19_4, fd_19_5, fd_19_6, fd_19_7, fd_19_8, fd_19_9, fd_19_10, fd_19_11, fd_19_12, fd_19_13, fd_19_14, fd_19_15, fd_19_16, fd_19_17, fd_19_18, fd_19_19, fd_19_20, ln_20, ln_21, ln_22, ln_23, ln_24, ln_25, ln_26, ln_27, ln_28, ln_29, ln_30, ln_31, ln_32, List.getElem?_cons_zero, List.getElem?_cons_succ, List.set_cons_zero, List.set_cons_succ, true_and, and_true, ↓reduceIte, Int32.reduceLT, Int32.reduceLE, li_10, or_true, true_or]
    unfold hasN at h
    by_cases c1 : x < 0 <;> by_cases c2 : x < M 3 5 <;> by_cases c3 : x < 200 <;> simp [c1, c2, c3, b2] at h ⊢ <;> exact h
  · cases h
def isN (M : aM) (x k : Int32) : Bool := hasN M x && decide (M 4 (cl x) = k)
def sp_Nodes_isOf : aS := fun as M K => match as with
  | [.ref a, .int x, .int k] => a = 3 ∧ K (some (.int (b2 (isN M x k)))) M
  | _ => False
set_option maxRecDepth 100000 in
set_option maxHeartbeats 4000000 in
theorem ok_Nodes_isOf {G : aG} (hG : am_ok G) : am_Sp G Y_Nodes_isOf 0 sp_Nodes_isOf := by
  intro as M K h
  unfold sp_Nodes_isOf at h
  split at h
  · next a x k =>
    obtain ⟨rfl, h⟩ := h
    refine am_entry hG (by decide +kernel) (Nat.le_of_ble_eq_true rfl) ?_
    refine am_go (cuts := k_Nodes_isOf) tb_Nodes_isOf 400 _ _ _ _ ?_
    change am_run _ _ _ _ _ _ [some (.ref 3), some (.int x), some (.int k)] [] _
    simp only [r_Nodes_isOf_0, r_Nodes_isOf_1, r_Nodes_isOf_4, r_Nodes_isOf_5, r_Nodes_isOf_6, r_Nodes_isOf_9, r_Nodes_isOf_12, r_Nodes_isOf_13, r_Nodes_isOf_16, r_Nodes_isOf_19, r_Nodes_isOf_20, r_Nodes_isOf_23, r_Nodes_isOf_24, r_Nodes_isOf_25, r_Nodes_isOf_26, r_Nodes_isOf_29, r_Nodes_isOf_30, r_Nodes_isOf_33, r_Nodes_isOf_34, ai_iload, ai_iflt, ai_aload, ai_getf, ai_cmpge, ai_const, ai_iald, ai_cmpne, ai_goto, ai_zret, kd_0, fd_0_0, fd_0_1, fd_0_2, fd_0_3, fd_0_4, kd_1, fd_1_0, fd_1_1, ln_2, kd_3, fd_3_0, fd_3_1, fd_3_2, fd_3_3, fd_3_4, fd_3_5, fd_3_6, fd_3_7, fd_3_8, fd_3_9, ln_4, ln_5, ln_6, ln_7, ln_8, ln_9, ln_10, kd_11, fd_11_0, fd_11_1, fd_11_2, fd_11_3, fd_11_4, kd_12, fd_12_0, fd_12_1, fd_12_2, fd_12_3, ln_13, ln_14, ln_15, kd_16, fd_16_0, fd_16_1, fd_16_2, ln_17, kd_18, fd_18_0, fd_18_1, kd_19, fd_19_0, fd_19_1, fd_19_2, fd_19_3, fd_19_4, fd_19_5, fd_19_6, fd_19_7, fd_19_8, fd_19_9, fd_19_10, fd_19_11, fd_19_12, fd_19_13, fd_19_14, fd_19_15, fd_19_16, fd_19_17, fd_19_18, fd_19_19, fd_19_20, ln_20, ln_21, ln_22, ln_23, ln_24, ln_25, ln_26, ln_27, ln_28, ln_29, ln_30, ln_31, ln_32, List.getElem?_cons_zero, List.getElem?_cons_succ, List.set_cons_zero, List.set_cons_succ, true_and, and_true, ↓reduceIte, Int32.reduceLT, Int32.reduceLE, li_10, or_true, true_or]
    unfold isN hasN at h
    by_cases c1 : x < 0
    · simp [c1, b2] at h ⊢; exact h
    by_cases c2 : x < M 3 5
    · by_cases c3 : x < 200
      · have c4 : vp_in x 200 := vin_lt c1 c3 (by decide)
        by_cases c5 : M 4 (cl x) = k <;> simp [c1, c2, c3, c4, c5, b2] at h ⊢ <;> exact h
      · simp [c1, c2, c3, b2] at h ⊢; exact h
    · simp [c1, c2, b2] at h ⊢; exact h
  · cases h
def clrM (M : aM) : aM := am_up (am_up (am_up M 3 5 0) 3 7 0) 3 9 5
def sp_Nodes_clear : aS := fun as M K => match as with
  | [.ref a] => a = 3 ∧ K none (clrM M)
  | _ => False
set_option maxRecDepth 100000 in
set_option maxHeartbeats 4000000 in
theorem ok_Nodes_clear {G : aG} (hG : am_ok G) : am_Sp G Y_Nodes_clear 0 sp_Nodes_clear := by
  intro as M K h
  unfold sp_Nodes_clear at h
  split at h
  · next a =>
    obtain ⟨rfl, h⟩ := h
    refine am_entry hG (by decide +kernel) (Nat.le_of_ble_eq_true rfl) ?_
    refine am_go (cuts := k_Nodes_clear) tb_Nodes_clear 400 _ _ _ _ ?_
    change am_run _ _ _ _ _ _ [some (.ref 3)] [] _
    simp only [r_Nodes_clear_0, r_Nodes_clear_1, r_Nodes_clear_2, r_Nodes_clear_5, r_Nodes_clear_6, r_Nodes_clear_7, r_Nodes_clear_10, r_Nodes_clear_11, r_Nodes_clear_14, r_Nodes_clear_15, r_Nodes_clear_18, ai_aload, ai_const, ai_putf, ai_gets, ai_xlen, ai_vret, kd_0, fd_0_0, fd_0_1, fd_0_2, fd_0_3, fd_0_4, kd_1, fd_1_0, fd_1_1, ln_2, kd_3, fd_3_0, fd_3_1, fd_3_2, fd_3_3, fd_3_4, fd_3_5, fd_3_6, fd_3_7, fd_3_8, fd_3_9, ln_4, ln_5, ln_6, ln_7, ln_8, ln_9, ln_10, kd_11, fd_11_0, fd_11_1, fd_11_2, fd_11_3, fd_11_4, kd_12, fd_12_0, fd_12_1, fd_12_2, fd_12_3, ln_13, ln_14, ln_15, kd_16, fd_16_0, fd_16_1, fd_16_2, ln_17, kd_18, fd_18_0, fd_18_1, kd_19, fd_19_0, fd_19_1, fd_19_2, fd_19_3, fd_19_4, fd_19_5, fd_19_6, fd_19_7, fd_19_8, fd_19_9, fd_19_10, fd_19_11, fd_19_12, fd_19_13, fd_19_14, fd_19_15, fd_19_16, fd_19_17, fd_19_18, fd_19_19, fd_19_20, ln_20, ln_21, ln_22, ln_23, ln_24, ln_25, ln_26, ln_27, ln_28, ln_29, ln_30, ln_31, ln_32, List.getElem?_cons_zero, List.getElem?_cons_succ, List.set_cons_zero, List.set_cons_succ, true_and, and_true, ↓reduceIte, Int32.reduceLT, Int32.reduceLE, li_10, or_true, true_or]
    exact h
  · cases h
def n_add (M : aM) (k : Int32) : Int32 × aM := if M 3 5 < 0 then (-1, M) else if M 3 5 < 200 then (M 3 5, am_up (am_up (am_up (am_up (am_up (am_up M 4 (cl (M 3 5)) k) 5 (cl (M 3 5)) 0) 6 (cl (M 3 5)) (M 3 9)) 7 (cl (M 3 5)) (-1)) 8 (cl (M 3 5)) (-1)) 3 5 (M 3 5 + 1)) else (-1, M)
def sp_Nodes_add : aS := fun as M K => match as with
  | [.ref a, .int k] => a = 3 ∧ K (some (.int (n_add M k).1)) (n_add M k).2
  | _ => False
set_option maxRecDepth 100000 in
set_option maxHeartbeats 4000000 in
theorem ok_Nodes_add {G : aG} (hG : am_ok G) : am_Sp G Y_Nodes_add 0 sp_Nodes_add := by
  intro as M K h
  unfold sp_Nodes_add at h
  split at h
  · next a k =>
    obtain ⟨rfl, h⟩ := h
    unfold n_add at h
    by_cases c1 : M 3 5 < 0
    · rw [if_pos c1] at h
      refine am_entry hG (by decide +kernel) (Nat.le_of_ble_eq_true rfl) ?_
      refine am_go (cuts := k_Nodes_add) tb_Nodes_add 400 _ _ _ _ ?_
      change am_run _ _ _ _ _ _ [some (.ref 3), some (.int k), none] [] _
      simp only [r_Nodes_add_0, r_Nodes_add_1, r_Nodes_add_4, r_Nodes_add_7, r_Nodes_add_8, r_Nodes_add_11, r_Nodes_add_14, r_Nodes_add_17, r_Nodes_add_18, r_Nodes_add_19, r_Nodes_add_20, r_Nodes_add_23, r_Nodes_add_24, r_Nodes_add_25, r_Nodes_add_28, r_Nodes_add_29, r_Nodes_add_30, r_Nodes_add_31, r_Nodes_add_32, r_Nodes_add_35, r_Nodes_add_36, r_Nodes_add_37, r_Nodes_add_38, r_Nodes_add_39, r_Nodes_add_42, r_Nodes_add_43, r_Nodes_add_44, r_Nodes_add_47, r_Nodes_add_48, r_Nodes_add_49, r_Nodes_add_52, r_Nodes_add_53, r_Nodes_add_54, r_Nodes_add_55, r_Nodes_add_56, r_Nodes_add_59, r_Nodes_add_60, r_Nodes_add_61, r_Nodes_add_62, r_Nodes_add_63, r_Nodes_add_64, r_Nodes_add_67, r_Nodes_add_68, r_Nodes_add_69, r_Nodes_add_72, r_Nodes_add_73, ai_aload, ai_getf, ai_iflt, ai_const, ai_cmplt, ai_iret, ai_istore, am_cut_0, am_cut_s, am_c1, ai_iload, ai_iast, ai_dup, ai_iadd, ai_bin, ai_putf, kd_0, fd_0_0, fd_0_1, fd_0_2, fd_0_3, fd_0_4, kd_1, fd_1_0, fd_1_1, ln_2, kd_3, fd_3_0, fd_3_1, fd_3_2, fd_3_3, fd_3_4, fd_3_5, fd_3_6, fd_3_7, fd_3_8, fd_3_9, ln_4, ln_5, ln_6, ln_7, ln_8, ln_9, ln_10, kd_11, fd_11_0, fd_11_1, fd_11_2, fd_11_3, fd_11_4, kd_12, fd_12_0, fd_12_1, fd_12_2, fd_12_3, ln_13, ln_14, ln_15, kd_16, fd_16_0, fd_16_1, fd_16_2, ln_17, kd_18, fd_18_0, fd_18_1, kd_19, fd_19_0, fd_19_1, fd_19_2, fd_19_3, fd_19_4, fd_19_5, fd_19_6, fd_19_7, fd_19_8, fd_19_9, fd_19_10, fd_19_11, fd_19_12, fd_19_13, fd_19_14, fd_19_15, fd_19_16, fd_19_17, fd_19_18, fd_19_19, fd_19_20, ln_20, ln_21, ln_22, ln_23, ln_24, ln_25, ln_26, ln_27, ln_28, ln_29, ln_30, ln_31, ln_32, List.getElem?_cons_zero, List.getElem?_cons_succ, List.set_cons_zero, List.set_cons_succ, true_and, and_true, ↓reduceIte, Int32.reduceLT, Int32.reduceLE, li_10, or_true, true_or, c1]
      exact h
    · rw [if_neg c1] at h
      by_cases c2 : M 3 5 < 200
      · rw [if_pos c2] at h
        have e5 : vp_in (M 3 5) 200 := vin_lt c1 c2 (by decide)
        refine am_entry hG (by decide +kernel) (Nat.le_of_ble_eq_true rfl) ?_
        refine am_go (cuts := k_Nodes_add) tb_Nodes_add 400 _ _ _ _ ?_
        change am_run _ _ _ _ _ _ [some (.ref 3), some (.int k), none] [] _
        simp only [r_Nodes_add_0, r_Nodes_add_1, r_Nodes_add_4, r_Nodes_add_7, r_Nodes_add_8, r_Nodes_add_11, r_Nodes_add_14, r_Nodes_add_17, r_Nodes_add_18, r_Nodes_add_19, r_Nodes_add_20, r_Nodes_add_23, r_Nodes_add_24, r_Nodes_add_25, r_Nodes_add_28, r_Nodes_add_29, r_Nodes_add_30, r_Nodes_add_31, r_Nodes_add_32, r_Nodes_add_35, r_Nodes_add_36, r_Nodes_add_37, r_Nodes_add_38, r_Nodes_add_39, r_Nodes_add_42, r_Nodes_add_43, r_Nodes_add_44, r_Nodes_add_47, r_Nodes_add_48, r_Nodes_add_49, r_Nodes_add_52, r_Nodes_add_53, r_Nodes_add_54, r_Nodes_add_55, r_Nodes_add_56, r_Nodes_add_59, r_Nodes_add_60, r_Nodes_add_61, r_Nodes_add_62, r_Nodes_add_63, r_Nodes_add_64, r_Nodes_add_67, r_Nodes_add_68, r_Nodes_add_69, r_Nodes_add_72, r_Nodes_add_73, ai_aload, ai_getf, ai_iflt, ai_const, ai_cmplt, ai_iret, ai_istore, am_cut_0, am_cut_s, am_c1, ai_iload, ai_iast, ai_dup, ai_iadd, ai_bin, ai_putf, kd_0, fd_0_0, fd_0_1, fd_0_2, fd_0_3, fd_0_4, kd_1, fd_1_0, fd_1_1, ln_2, kd_3, fd_3_0, fd_3_1, fd_3_2, fd_3_3, fd_3_4, fd_3_5, fd_3_6, fd_3_7, fd_3_8, fd_3_9, ln_4, ln_5, ln_6, ln_7, ln_8, ln_9, ln_10, kd_11, fd_11_0, fd_11_1, fd_11_2, fd_11_3, fd_11_4, kd_12, fd_12_0, fd_12_1, fd_12_2, fd_12_3, ln_13, ln_14, ln_15, kd_16, fd_16_0, fd_16_1, fd_16_2, ln_17, kd_18, fd_18_0, fd_18_1, kd_19, fd_19_0, fd_19_1, fd_19_2, fd_19_3, fd_19_4, fd_19_5, fd_19_6, fd_19_7, fd_19_8, fd_19_9, fd_19_10, fd_19_11, fd_19_12, fd_19_13, fd_19_14, fd_19_15, fd_19_16, fd_19_17, fd_19_18, fd_19_19, fd_19_20, ln_20, ln_21, ln_22, ln_23, ln_24, ln_25, ln_26, ln_27, ln_28, ln_29, ln_30, ln_31, ln_32, List.getElem?_cons_zero, List.getElem?_cons_succ, List.set_cons_zero, List.set_cons_succ, true_and, and_true, ↓reduceIte, Int32.reduceLT, Int32.reduceLE, li_10, or_true, true_or, c1, c2, e5, am_up_ap, Nat.reduceEqDiff]
        exact h
      · rw [if_neg c2] at h
        refine am_entry hG (by decide +kernel) (Nat.le_of_ble_eq_true rfl) ?_
        refine am_go (cuts := k_Nodes_add) tb_Nodes_add 400 _ _ _ _ ?_
        change am_run _ _ _ _ _ _ [some (.ref 3), some (.int k), none] [] _
        simp only [r_Nodes_add_0, r_Nodes_add_1, r_Nodes_add_4, r_Nodes_add_7, r_Nodes_add_8, r_Nodes_add_11, r_Nodes_add_14, r_Nodes_add_17, r_Nodes_add_18, r_Nodes_add_19, r_Nodes_add_20, r_Nodes_add_23, r_Nodes_add_24, r_Nodes_add_25, r_Nodes_add_28, r_Nodes_add_29, r_Nodes_add_30, r_Nodes_add_31, r_Nodes_add_32, r_Nodes_add_35, r_Nodes_add_36, r_Nodes_add_37, r_Nodes_add_38, r_Nodes_add_39, r_Nodes_add_42, r_Nodes_add_43, r_Nodes_add_44, r_Nodes_add_47, r_Nodes_add_48, r_Nodes_add_49, r_Nodes_add_52, r_Nodes_add_53, r_Nodes_add_54, r_Nodes_add_55, r_Nodes_add_56, r_Nodes_add_59, r_Nodes_add_60, r_Nodes_add_61, r_Nodes_add_62, r_Nodes_add_63, r_Nodes_add_64, r_Nodes_add_67, r_Nodes_add_68, r_Nodes_add_69, r_Nodes_add_72, r_Nodes_add_73, ai_aload, ai_getf, ai_iflt, ai_const, ai_cmplt, ai_iret, ai_istore, am_cut_0, am_cut_s, am_c1, ai_iload, ai_iast, ai_dup, ai_iadd, ai_bin, ai_putf, kd_0, fd_0_0, fd_0_1, fd_0_2, fd_0_3, fd_0_4, kd_1, fd_1_0, fd_1_1, ln_2, kd_3, fd_3_0, fd_3_1, fd_3_2, fd_3_3, fd_3_4, fd_3_5, fd_3_6, fd_3_7, fd_3_8, fd_3_9, ln_4, ln_5, ln_6, ln_7, ln_8, ln_9, ln_10, kd_11, fd_11_0, fd_11_1, fd_11_2, fd_11_3, fd_11_4, kd_12, fd_12_0, fd_12_1, fd_12_2, fd_12_3, ln_13, ln_14, ln_15, kd_16, fd_16_0, fd_16_1, fd_16_2, ln_17, kd_18, fd_18_0, fd_18_1, kd_19, fd_19_0, fd_19_1, fd_19_2, fd_19_3, fd_19_4, fd_19_5, fd_19_6, fd_19_7, fd_19_8, fd_19_9, fd_19_10, fd_19_11, fd_19_12, fd_19_13, fd_19_14, fd_19_15, fd_19_16, fd_19_17, fd_19_18, fd_19_19, fd_19_20, ln_20, ln_21, ln_22, ln_23, ln_24, ln_25, ln_26, ln_27, ln_28, ln_29, ln_30, ln_31, ln_32, List.getElem?_cons_zero, List.getElem?_cons_succ, List.set_cons_zero, List.set_cons_succ, true_and, and_true, ↓reduceIte, Int32.reduceLT, Int32.reduceLE, li_10, or_true, true_or, c1, c2]
        exact h
  · cases h
def n_addD (M : aM) (x : Int32) : aM := if M 3 7 < 0 then M else if M 3 7 < 200 then am_up (am_up M 9 (cl (M 3 7)) x) 3 7 (M 3 7 + 1) else M
def sp_Nodes_addDatum : aS := fun as M K => match as with
  | [.ref a, .int x] => a = 3 ∧ K none (n_addD M x)
  | _ => False
set_option maxRecDepth 100000 in
set_option maxHeartbeats 4000000 in
theorem ok_Nodes_addDatum {G : aG} (hG : am_ok G) : am_Sp G Y_Nodes_addDatum 0 sp_Nodes_addDatum := by
  intro as M K h
  unfold sp_Nodes_addDatum at h
  split at h
  · next a x =>
    obtain ⟨rfl, h⟩ := h
    unfold n_addD at h
    by_cases c1 : M 3 7 < 0
    · rw [if_pos c1] at h
      refine am_entry hG (by decide +kernel) (Nat.le_of_ble_eq_true rfl) ?_
      refine am_go (cuts := k_Nodes_addDatum) tb_Nodes_addDatum 400 _ _ _ _ ?_
      change am_run _ _ _ _ _ _ [some (.ref 3), some (.int x)] [] _
      simp only [r_Nodes_addDatum_0, r_Nodes_addDatum_1, r_Nodes_addDatum_4, r_Nodes_addDatum_7, r_Nodes_addDatum_8, r_Nodes_addDatum_11, r_Nodes_addDatum_14, r_Nodes_addDatum_17, r_Nodes_addDatum_18, r_Nodes_addDatum_21, r_Nodes_addDatum_22, r_Nodes_addDatum_25, r_Nodes_addDatum_26, r_Nodes_addDatum_27, r_Nodes_addDatum_28, r_Nodes_addDatum_29, r_Nodes_addDatum_32, r_Nodes_addDatum_33, r_Nodes_addDatum_34, r_Nodes_addDatum_37, ai_aload, ai_getf, ai_iflt, ai_const, ai_cmpge, ai_iload, ai_iast, ai_dup, am_c1, ai_iadd, ai_bin, ai_putf, ai_vret, kd_0, fd_0_0, fd_0_1, fd_0_2, fd_0_3, fd_0_4, kd_1, fd_1_0, fd_1_1, ln_2, kd_3, fd_3_0, fd_3_1, fd_3_2, fd_3_3, fd_3_4, fd_3_5, fd_3_6, fd_3_7, fd_3_8, fd_3_9, ln_4, ln_5, ln_6, ln_7, ln_8, ln_9, ln_10, kd_11, fd_11_0, fd_11_1, fd_11_2, fd_11_3, fd_11_4, kd_12, fd_12_0, fd_12_1, fd_12_2, fd_12_3, ln_13, ln_14, ln_15, kd_16, fd_16_0, fd_16_1, fd_16_2, ln_17, kd_18, fd_18_0, fd_18_1, kd_19, fd_19_0, fd_19_1, fd_19_2, fd_19_3, fd_19_4, fd_19_5, fd_19_6, fd_19_7, fd_19_8, fd_19_9, fd_19_10, fd_19_11, fd_19_12, fd_19_13, fd_19_14, fd_19_15, fd_19_16, fd_19_17, fd_19_18, fd_19_19, fd_19_20, ln_20, ln_21, ln_22, ln_23, ln_24, ln_25, ln_26, ln_27, ln_28, ln_29, ln_30, ln_31, ln_32, List.getElem?_cons_zero, List.getElem?_cons_succ, List.set_cons_zero, List.set_cons_succ, true_and, and_true, ↓reduceIte, Int32.reduceLT, Int32.reduceLE, li_10, or_true, true_or, c1]
      exact h
    · rw [if_neg c1] at h
      by_cases c2 : M 3 7 < 200
      · rw [if_pos c2] at h
        have e5 : vp_in (M 3 7) 200 := vin_lt c1 c2 (by decide)
        refine am_entry hG (by decide +kernel) (Nat.le_of_ble_eq_true rfl) ?_
        refine am_go (cuts := k_Nodes_addDatum) tb_Nodes_addDatum 400 _ _ _ _ ?_
        change am_run _ _ _ _ _ _ [some (.ref 3), some (.int x)] [] _
        simp only [r_Nodes_addDatum_0, r_Nodes_addDatum_1, r_Nodes_addDatum_4, r_Nodes_addDatum_7, r_Nodes_addDatum_8, r_Nodes_addDatum_11, r_Nodes_addDatum_14, r_Nodes_addDatum_17, r_Nodes_addDatum_18, r_Nodes_addDatum_21, r_Nodes_addDatum_22, r_Nodes_addDatum_25, r_Nodes_addDatum_26, r_Nodes_addDatum_27, r_Nodes_addDatum_28, r_Nodes_addDatum_29, r_Nodes_addDatum_32, r_Nodes_addDatum_33, r_Nodes_addDatum_34, r_Nodes_addDatum_37, ai_aload, ai_getf, ai_iflt, ai_const, ai_cmpge, ai_iload, ai_iast, ai_dup, am_c1, ai_iadd, ai_bin, ai_putf, ai_vret, kd_0, fd_0_0, fd_0_1, fd_0_2, fd_0_3, fd_0_4, kd_1, fd_1_0, fd_1_1, ln_2, kd_3, fd_3_0, fd_3_1, fd_3_2, fd_3_3, fd_3_4, fd_3_5, fd_3_6, fd_3_7, fd_3_8, fd_3_9, ln_4, ln_5, ln_6, ln_7, ln_8, ln_9, ln_10, kd_11, fd_11_0, fd_11_1, fd_11_2, fd_11_3, fd_11_4, kd_12, fd_12_0, fd_12_1, fd_12_2, fd_12_3, ln_13, ln_14, ln_15, kd_16, fd_16_0, fd_16_1, fd_16_2, ln_17, kd_18, fd_18_0, fd_18_1, kd_19, fd_19_0, fd_19_1, fd_19_2, fd_19_3, fd_19_4, fd_19_5, fd_19_6, fd_19_7, fd_19_8, fd_19_9, fd_19_10, fd_19_11, fd_19_12, fd_19_13, fd_19_14, fd_19_15, fd_19_16, fd_19_17, fd_19_18, fd_19_19, fd_19_20, ln_20, ln_21, ln_22, ln_23, ln_24, ln_25, ln_26, ln_27, ln_28, ln_29, ln_30, ln_31, ln_32, List.getElem?_cons_zero, List.getElem?_cons_succ, List.set_cons_zero, List.set_cons_succ, true_and, and_true, ↓reduceIte, Int32.reduceLT, Int32.reduceLE, li_10, or_true, true_or, c1, c2, e5, am_up_ap, Nat.reduceEqDiff]
        exact h
      · rw [if_neg c2] at h
        refine am_entry hG (by decide +kernel) (Nat.le_of_ble_eq_true rfl) ?_
        refine am_go (cuts := k_Nodes_addDatum) tb_Nodes_addDatum 400 _ _ _ _ ?_
        change am_run _ _ _ _ _ _ [some (.ref 3), some (.int x)] [] _
        simp only [r_Nodes_addDatum_0, r_Nodes_addDatum_1, r_Nodes_addDatum_4, r_Nodes_addDatum_7, r_Nodes_addDatum_8, r_Nodes_addDatum_11, r_Nodes_addDatum_14, r_Nodes_addDatum_17, r_Nodes_addDatum_18, r_Nodes_addDatum_21, r_Nodes_addDatum_22, r_Nodes_addDatum_25, r_Nodes_addDatum_26, r_Nodes_addDatum_27, r_Nodes_addDatum_28, r_Nodes_addDatum_29, r_Nodes_addDatum_32, r_Nodes_addDatum_33, r_Nodes_addDatum_34, r_Nodes_addDatum_37, ai_aload, ai_getf, ai_iflt, ai_const, ai_cmpge, ai_iload, ai_iast, ai_dup, am_c1, ai_iadd, ai_bin, ai_putf, ai_vret, kd_0, fd_0_0, fd_0_1, fd_0_2, fd_0_3, fd_0_4, kd_1, fd_1_0, fd_1_1, ln_2, kd_3, fd_3_0, fd_3_1, fd_3_2, fd_3_3, fd_3_4, fd_3_5, fd_3_6, fd_3_7, fd_3_8, fd_3_9, ln_4, ln_5, ln_6, ln_7, ln_8, ln_9, ln_10, kd_11, fd_11_0, fd_11_1, fd_11_2, fd_11_3, fd_11_4, kd_12, fd_12_0, fd_12_1, fd_12_2, fd_12_3, ln_13, ln_14, ln_15, kd_16, fd_16_0, fd_16_1, fd_16_2, ln_17, kd_18, fd_18_0, fd_18_1, kd_19, fd_19_0, fd_19_1, fd_19_2, fd_19_3, fd_19_4, fd_19_5, fd_19_6, fd_19_7, fd_19_8, fd_19_9, fd_19_10, fd_19_11, fd_19_12, fd_19_13, fd_19_14, fd_19_15, fd_19_16, fd_19_17, fd_19_18, fd_19_19, fd_19_20, ln_20, ln_21, ln_22, ln_23, ln_24, ln_25, ln_26, ln_27, ln_28, ln_29, ln_30, ln_31, ln_32, List.getElem?_cons_zero, List.getElem?_cons_succ, List.set_cons_zero, List.set_cons_succ, true_and, and_true, ↓reduceIte, Int32.reduceLT, Int32.reduceLE, li_10, or_true, true_or, c1, c2]
        exact h
  · cases h
def n_ltr (M : aM) (x b : Int32) : aM := if hasN M x = true then (if M 3 9 < 0 then M else if M 3 9 < 405 then am_up (am_up (am_up M 10 (cl (M 3 9)) b) 3 9 (M 3 9 + 1)) 5 (cl x) (M 5 (cl x) + 1) else M) else M
def sp_Nodes_addLetter : aS := fun as M K => match as with
  | [.ref a, .int x, .int b] => a = 3 ∧ K none (n_ltr M x b)
  | _ => False
set_option maxRecDepth 100000 in
set_option maxHeartbeats 4000000 in
theorem ok_Nodes_addLetter {G : aG} (hG : am_ok G) : am_Sp G Y_Nodes_addLetter 1 sp_Nodes_addLetter := by
  intro as M K h
  unfold sp_Nodes_addLetter at h
  split at h
  · next a x b =>
    obtain ⟨rfl, h⟩ := h
    unfold n_ltr at h
    cases c : hasN M x
    · rw [c, if_neg (by decide)] at h
      refine am_entry hG (by decide +kernel) (Nat.le_of_ble_eq_true rfl) ?_
      refine am_go (cuts := k_Nodes_addLetter) (tb_Nodes_addLetter (ok_Nodes_has hG) (by decide)) 400 _ _ _ _ ?_
      change am_run _ _ _ _ _ _ [some (.ref 3), some (.int x), some (.int b)] [] _
      simp only [r_Nodes_addLetter_0, r_Nodes_addLetter_1, r_Nodes_addLetter_2, r_Nodes_addLetter_5, r_Nodes_addLetter_8, r_Nodes_addLetter_9, r_Nodes_addLetter_12, r_Nodes_addLetter_15, r_Nodes_addLetter_16, r_Nodes_addLetter_19, r_Nodes_addLetter_20, r_Nodes_addLetter_23, r_Nodes_addLetter_24, r_Nodes_addLetter_27, r_Nodes_addLetter_28, r_Nodes_addLetter_31, r_Nodes_addLetter_32, r_Nodes_addLetter_35, r_Nodes_addLetter_36, r_Nodes_addLetter_37, r_Nodes_addLetter_38, r_Nodes_addLetter_39, r_Nodes_addLetter_42, r_Nodes_addLetter_43, r_Nodes_addLetter_44, r_Nodes_addLetter_47, r_Nodes_addLetter_48, r_Nodes_addLetter_51, r_Nodes_addLetter_52, r_Nodes_addLetter_53, r_Nodes_addLetter_54, r_Nodes_addLetter_55, r_Nodes_addLetter_56, r_Nodes_addLetter_57, ai_aload, ai_iload, ai_callv2, am_push, am_few, ai_ifeq, ai_getf, ai_iflt, ai_alen, ai_cmpge, ai_iast, ai_dup, am_c1, ai_const, ai_iadd, ai_bin, ai_putf, ai_dup2, ai_iald, ai_vret, kd_0, fd_0_0, fd_0_1, fd_0_2, fd_0_3, fd_0_4, kd_1, fd_1_0, fd_1_1, ln_2, kd_3, fd_3_0, fd_3_1, fd_3_2, fd_3_3, fd_3_4, fd_3_5, fd_3_6, fd_3_7, fd_3_8, fd_3_9, ln_4, ln_5, ln_6, ln_7, ln_8, ln_9, ln_10, kd_11, fd_11_0, fd_11_1, fd_11_2, fd_11_3, fd_11_4, kd_12, fd_12_0, fd_12_1, fd_12_2, fd_12_3, ln_13, ln_14, ln_15, kd_16, fd_16_0, fd_16_1, fd_16_2, ln_17, kd_18, fd_18_0, fd_18_1, kd_19, fd_19_0, fd_19_1, fd_19_2, fd_19_3, fd_19_4, fd_19_5, fd_19_6, fd_19_7, fd_19_8, fd_19_9, fd_19_10, fd_19_11, fd_19_12, fd_19_13, fd_19_14, fd_19_15, fd_19_16, fd_19_17, fd_19_18, fd_19_19, fd_19_20, ln_20, ln_21, ln_22, ln_23, ln_24, ln_25, ln_26, ln_27, ln_28, ln_29, ln_30, ln_31, ln_32, List.getElem?_cons_zero, List.getElem?_cons_succ, List.set_cons_zero, List.set_cons_succ, true_and, and_true, ↓reduceIte, Int32.reduceLT, Int32.reduceLE, li_10, or_true, true_or, ↓sp_Nodes_has, b2_0, c]
      exact h
    · rw [if_pos c] at h
      by_cases c1 : M 3 9 < 0
      · rw [if_pos c1] at h
        refine am_entry hG (by decide +kernel) (Nat.le_of_ble_eq_true rfl) ?_
        refine am_go (cuts := k_Nodes_addLetter) (tb_Nodes_addLetter (ok_Nodes_has hG) (by decide)) 400 _ _ _ _ ?_
        change am_run _ _ _ _ _ _ [some (.ref 3), some (.int x), some (.int b)] [] _
        simp only [r_Nodes_addLetter_0, r_Nodes_addLetter_1, r_Nodes_addLetter_2, r_Nodes_addLetter_5, r_Nodes_addLetter_8, r_Nodes_addLetter_9, r_Nodes_addLetter_12, r_Nodes_addLetter_15, r_Nodes_addLetter_16, r_Nodes_addLetter_19, r_Nodes_addLetter_20, r_Nodes_addLetter_23, r_Nodes_addLetter_24, r_Nodes_addLetter_27, r_Nodes_addLetter_28, r_Nodes_addLetter_31, r_Nodes_addLetter_32, r_Nodes_addLetter_35, r_Nodes_addLetter_36, r_Nodes_addLetter_37, r_Nodes_addLetter_38, r_Nodes_addLetter_39, r_Nodes_addLetter_42, r_Nodes_addLetter_43, r_Nodes_addLetter_44, r_Nodes_addLetter_47, r_Nodes_addLetter_48, r_Nodes_addLetter_51, r_Nodes_addLetter_52, r_Nodes_addLetter_53, r_Nodes_addLetter_54, r_Nodes_addLetter_55, r_Nodes_addLetter_56, r_Nodes_addLetter_57, ai_aload, ai_iload, ai_callv2, am_push, am_few, ai_ifeq, ai_getf, ai_iflt, ai_alen, ai_cmpge, ai_iast, ai_dup, am_c1, ai_const, ai_iadd, ai_bin, ai_putf, ai_dup2, ai_iald, ai_vret, kd_0, fd_0_0, fd_0_1, fd_0_2, fd_0_3, fd_0_4, kd_1, fd_1_0, fd_1_1, ln_2, kd_3, fd_3_0, fd_3_1, fd_3_2, fd_3_3, fd_3_4, fd_3_5, fd_3_6, fd_3_7, fd_3_8, fd_3_9, ln_4, ln_5, ln_6, ln_7, ln_8, ln_9, ln_10, kd_11, fd_11_0, fd_11_1, fd_11_2, fd_11_3, fd_11_4, kd_12, fd_12_0, fd_12_1, fd_12_2, fd_12_3, ln_13, ln_14, ln_15, kd_16, fd_16_0, fd_16_1, fd_16_2, ln_17, kd_18, fd_18_0, fd_18_1, kd_19, fd_19_0, fd_19_1, fd_19_2, fd_19_3, fd_19_4, fd_19_5, fd_19_6, fd_19_7, fd_19_8, fd_19_9, fd_19_10, fd_19_11, fd_19_12, fd_19_13, fd_19_14, fd_19_15, fd_19_16, fd_19_17, fd_19_18, fd_19_19, fd_19_20, ln_20, ln_21, ln_22, ln_23, ln_24, ln_25, ln_26, ln_27, ln_28, ln_29, ln_30, ln_31, ln_32, List.getElem?_cons_zero, List.getElem?_cons_succ, List.set_cons_zero, List.set_cons_succ, true_and, and_true, ↓reduceIte, Int32.reduceLT, Int32.reduceLE, li_10, or_true, true_or, ↓sp_Nodes_has, b2_0, c, Bool.true_eq_false, c1]
        exact h
      · rw [if_neg c1] at h
        by_cases c2 : M 3 9 < 405
        · rw [if_pos c2] at h
          have e4 : M 3 9 < Int32.ofNat 405 := c2
          have e5 : vp_in (M 3 9) 405 := vin_lt c1 c2 (by decide)
          refine am_entry hG (by decide +kernel) (Nat.le_of_ble_eq_true rfl) ?_
          refine am_go (cuts := k_Nodes_addLetter) (tb_Nodes_addLetter (ok_Nodes_has hG) (by decide)) 400 _ _ _ _ ?_
          change am_run _ _ _ _ _ _ [some (.ref 3), some (.int x), some (.int b)] [] _
          simp only [r_Nodes_addLetter_0, r_Nodes_addLetter_1, r_Nodes_addLetter_2, r_Nodes_addLetter_5, r_Nodes_addLetter_8, r_Nodes_addLetter_9, r_Nodes_addLetter_12, r_Nodes_addLetter_15, r_Nodes_addLetter_16, r_Nodes_addLetter_19, r_Nodes_addLetter_20, r_Nodes_addLetter_23, r_Nodes_addLetter_24, r_Nodes_addLetter_27, r_Nodes_addLetter_28, r_Nodes_addLetter_31, r_Nodes_addLetter_32, r_Nodes_addLetter_35, r_Nodes_addLetter_36, r_Nodes_addLetter_37, r_Nodes_addLetter_38, r_Nodes_addLetter_39, r_Nodes_addLetter_42, r_Nodes_addLetter_43, r_Nodes_addLetter_44, r_Nodes_addLetter_47, r_Nodes_addLetter_48, r_Nodes_addLetter_51, r_Nodes_addLetter_52, r_Nodes_addLetter_53, r_Nodes_addLetter_54, r_Nodes_addLetter_55, r_Nodes_addLetter_56, r_Nodes_addLetter_57, ai_aload, ai_iload, ai_callv2, am_push, am_few, ai_ifeq, ai_getf, ai_iflt, ai_alen, ai_cmpge, ai_iast, ai_dup, am_c1, ai_const, ai_iadd, ai_bin, ai_putf, ai_dup2, ai_iald, ai_vret, kd_0, fd_0_0, fd_0_1, fd_0_2, fd_0_3, fd_0_4, kd_1, fd_1_0, fd_1_1, ln_2, kd_3, fd_3_0, fd_3_1, fd_3_2, fd_3_3, fd_3_4, fd_3_5, fd_3_6, fd_3_7, fd_3_8, fd_3_9, ln_4, ln_5, ln_6, ln_7, ln_8, ln_9, ln_10, kd_11, fd_11_0, fd_11_1, fd_11_2, fd_11_3, fd_11_4, kd_12, fd_12_0, fd_12_1, fd_12_2, fd_12_3, ln_13, ln_14, ln_15, kd_16, fd_16_0, fd_16_1, fd_16_2, ln_17, kd_18, fd_18_0, fd_18_1, kd_19, fd_19_0, fd_19_1, fd_19_2, fd_19_3, fd_19_4, fd_19_5, fd_19_6, fd_19_7, fd_19_8, fd_19_9, fd_19_10, fd_19_11, fd_19_12, fd_19_13, fd_19_14, fd_19_15, fd_19_16, fd_19_17, fd_19_18, fd_19_19, fd_19_20, ln_20, ln_21, ln_22, ln_23, ln_24, ln_25, ln_26, ln_27, ln_28, ln_29, ln_30, ln_31, ln_32, List.getElem?_cons_zero, List.getElem?_cons_succ, List.set_cons_zero, List.set_cons_succ, true_and, and_true, ↓reduceIte, Int32.reduceLT, Int32.reduceLE, li_10, or_true, true_or, ↓sp_Nodes_has, b2_0, c, Bool.true_eq_false, c1, e4, e5, hasN_in c, am_up_ap, Nat.reduceEqDiff]
          exact h
        · rw [if_neg c2] at h
          have e4 : ¬ M 3 9 < Int32.ofNat 405 := c2
          refine am_entry hG (by decide +kernel) (Nat.le_of_ble_eq_true rfl) ?_
          refine am_go (cuts := k_Nodes_addLetter) (tb_Nodes_addLetter (ok_Nodes_has hG) (by decide)) 400 _ _ _ _ ?_
          change am_run _ _ _ _ _ _ [some (.ref 3), some (.int x), some (.int b)] [] _
          simp only [r_Nodes_addLetter_0, r_Nodes_addLetter_1, r_Nodes_addLetter_2, r_Nodes_addLetter_5, r_Nodes_addLetter_8, r_Nodes_addLetter_9, r_Nodes_addLetter_12, r_Nodes_addLetter_15, r_Nodes_addLetter_16, r_Nodes_addLetter_19, r_Nodes_addLetter_20, r_Nodes_addLetter_23, r_Nodes_addLetter_24, r_Nodes_addLetter_27, r_Nodes_addLetter_28, r_Nodes_addLetter_31, r_Nodes_addLetter_32, r_Nodes_addLetter_35, r_Nodes_addLetter_36, r_Nodes_addLetter_37, r_Nodes_addLetter_38, r_Nodes_addLetter_39, r_Nodes_addLetter_42, r_Nodes_addLetter_43, r_Nodes_addLetter_44, r_Nodes_addLetter_47, r_Nodes_addLetter_48, r_Nodes_addLetter_51, r_Nodes_addLetter_52, r_Nodes_addLetter_53, r_Nodes_addLetter_54, r_Nodes_addLetter_55, r_Nodes_addLetter_56, r_Nodes_addLetter_57, ai_aload, ai_iload, ai_callv2, am_push, am_few, ai_ifeq, ai_getf, ai_iflt, ai_alen, ai_cmpge, ai_iast, ai_dup, am_c1, ai_const, ai_iadd, ai_bin, ai_putf, ai_dup2, ai_iald, ai_vret, kd_0, fd_0_0, fd_0_1, fd_0_2, fd_0_3, fd_0_4, kd_1, fd_1_0, fd_1_1, ln_2, kd_3, fd_3_0, fd_3_1, fd_3_2, fd_3_3, fd_3_4, fd_3_5, fd_3_6, fd_3_7, fd_3_8, fd_3_9, ln_4, ln_5, ln_6, ln_7, ln_8, ln_9, ln_10, kd_11, fd_11_0, fd_11_1, fd_11_2, fd_11_3, fd_11_4, kd_12, fd_12_0, fd_12_1, fd_12_2, fd_12_3, ln_13, ln_14, ln_15, kd_16, fd_16_0, fd_16_1, fd_16_2, ln_17, kd_18, fd_18_0, fd_18_1, kd_19, fd_19_0, fd_19_1, fd_19_2, fd_19_3, fd_19_4, fd_19_5, fd_19_6, fd_19_7, fd_19_8, fd_19_9, fd_19_10, fd_19_11, fd_19_12, fd_19_13, fd_19_14, fd_19_15, fd_19_16, fd_19_17, fd_19_18, fd_19_19, fd_19_20, ln_20, ln_21, ln_22, ln_23, ln_24, ln_25, ln_26, ln_27, ln_28, ln_29, ln_30, ln_31, ln_32, List.getElem?_cons_zero, List.getElem?_cons_succ, List.set_cons_zero, List.set_cons_succ, true_and, and_true, ↓reduceIte, Int32.reduceLT, Int32.reduceLE, li_10, or_true, true_or, ↓sp_Nodes_has, b2_0, c, Bool.true_eq_false, c1, e4]
          exact h
  · cases h
def nqM (M : aM) (x : Int32) : aM := am_up (am_up M 6 (cl x) 0) 5 (cl x) 5
def sp_Nodes_nameQuote : aS := fun as M K => match as with
  | [.ref a, .int x] => a = 3 ∧ K none (if hasN M x = true then nqM M x else M)
  | _ => False
set_option maxRecDepth 100000 in
set_option maxHeartbeats 4000000 in
theorem ok_Nodes_nameQuote {G : aG} (hG : am_ok G) : am_Sp G Y_Nodes_nameQuote 1 sp_Nodes_nameQuote := by
  intro as M K h
  unfold sp_Nodes_nameQuote at h
  split at h
  · next a x =>
    obtain ⟨rfl, h⟩ := h
    cases c : hasN M x
    · rw [c, if_neg (by decide)] at h
      refine am_entry hG (by decide +kernel) (Nat.le_of_ble_eq_true rfl) ?_
      refine am_go (cuts := k_Nodes_nameQuote) (tb_Nodes_nameQuote (ok_Nodes_has hG) (by decide)) 400 _ _ _ _ ?_
      change am_run _ _ _ _ _ _ [some (.ref 3), some (.int x)] [] _
      simp only [r_Nodes_nameQuote_0, r_Nodes_nameQuote_1, r_Nodes_nameQuote_2, r_Nodes_nameQuote_5, r_Nodes_nameQuote_8, r_Nodes_nameQuote_9, r_Nodes_nameQuote_12, r_Nodes_nameQuote_13, r_Nodes_nameQuote_14, r_Nodes_nameQuote_15, r_Nodes_nameQuote_16, r_Nodes_nameQuote_19, r_Nodes_nameQuote_20, r_Nodes_nameQuote_23, r_Nodes_nameQuote_24, r_Nodes_nameQuote_25, ai_aload, ai_iload, ai_callv2, am_push, am_few, ai_ifeq, ai_getf, ai_const, ai_iast, ai_gets, ai_xlen, ai_vret, kd_0, fd_0_0, fd_0_1, fd_0_2, fd_0_3, fd_0_4, kd_1, fd_1_0, fd_1_1, ln_2, kd_3, fd_3_0, fd_3_1, fd_3_2, fd_3_3, fd_3_4, fd_3_5, fd_3_6, fd_3_7, fd_3_8, fd_3_9, ln_4, ln_5, ln_6, ln_7, ln_8, ln_9, ln_10, kd_11, fd_11_0, fd_11_1, fd_11_2, fd_11_3, fd_11_4, kd_12, fd_12_0, fd_12_1, fd_12_2, fd_12_3, ln_13, ln_14, ln_15, kd_16, fd_16_0, fd_16_1, fd_16_2, ln_17, kd_18, fd_18_0, fd_18_1, kd_19, fd_19_0, fd_19_1, fd_19_2, fd_19_3, fd_19_4, fd_19_5, fd_19_6, fd_19_7, fd_19_8, fd_19_9, fd_19_10, fd_19_11, fd_19_12, fd_19_13, fd_19_14, fd_19_15, fd_19_16, fd_19_17, fd_19_18, fd_19_19, fd_19_20, ln_20, ln_21, ln_22, ln_23, ln_24, ln_25, ln_26, ln_27, ln_28, ln_29, ln_30, ln_31, ln_32, List.getElem?_cons_zero, List.getElem?_cons_succ, List.set_cons_zero, List.set_cons_succ, true_and, and_true, ↓reduceIte, Int32.reduceLT, Int32.reduceLE, li_10, or_true, true_or, ↓sp_Nodes_has, b2_0, c]
      exact h
    · rw [if_pos c] at h
      refine am_entry hG (by decide +kernel) (Nat.le_of_ble_eq_true rfl) ?_
      refine am_go (cuts := k_Nodes_nameQuote) (tb_Nodes_nameQuote (ok_Nodes_has hG) (by decide)) 400 _ _ _ _ ?_
      change am_run _ _ _ _ _ _ [some (.ref 3), some (.int x)] [] _
      simp only [r_Nodes_nameQuote_0, r_Nodes_nameQuote_1, r_Nodes_nameQuote_2, r_Nodes_nameQuote_5, r_Nodes_nameQuote_8, r_Nodes_nameQuote_9, r_Nodes_nameQuote_12, r_Nodes_nameQuote_13, r_Nodes_nameQuote_14, r_Nodes_nameQuote_15, r_Nodes_nameQuote_16, r_Nodes_nameQuote_19, r_Nodes_nameQuote_20, r_Nodes_nameQuote_23, r_Nodes_nameQuote_24, r_Nodes_nameQuote_25, ai_aload, ai_iload, ai_callv2, am_push, am_few, ai_ifeq, ai_getf, ai_const, ai_iast, ai_gets, ai_xlen, ai_vret, kd_0, fd_0_0, fd_0_1, fd_0_2, fd_0_3, fd_0_4, kd_1, fd_1_0, fd_1_1, ln_2, kd_3, fd_3_0, fd_3_1, fd_3_2, fd_3_3, fd_3_4, fd_3_5, fd_3_6, fd_3_7, fd_3_8, fd_3_9, ln_4, ln_5, ln_6, ln_7, ln_8, ln_9, ln_10, kd_11, fd_11_0, fd_11_1, fd_11_2, fd_11_3, fd_11_4, kd_12, fd_12_0, fd_12_1, fd_12_2, fd_12_3, ln_13, ln_14, ln_15, kd_16, fd_16_0, fd_16_1, fd_16_2, ln_17, kd_18, fd_18_0, fd_18_1, kd_19, fd_19_0, fd_19_1, fd_19_2, fd_19_3, fd_19_4, fd_19_5, fd_19_6, fd_19_7, fd_19_8, fd_19_9, fd_19_10, fd_19_11, fd_19_12, fd_19_13, fd_19_14, fd_19_15, fd_19_16, fd_19_17, fd_19_18, fd_19_19, fd_19_20, ln_20, ln_21, ln_22, ln_23, ln_24, ln_25, ln_26, ln_27, ln_28, ln_29, ln_30, ln_31, ln_32, List.getElem?_cons_zero, List.getElem?_cons_succ, List.set_cons_zero, List.set_cons_succ, true_and, and_true, ↓reduceIte, Int32.reduceLT, Int32.reduceLE, li_10, or_true, true_or, ↓sp_Nodes_has, b2_0, c, Bool.true_eq_false, hasN_in c]
      exact h
  · cases h
def n_set (c : Nat) (M : aM) (x v : Int32) : aM := if hasN M x = true then am_up M c (cl x) v else M
def sp_Nodes_setAmount : aS := fun as M K => match as with
  | [.ref a, .int x, .int v] => a = 3 ∧ K none (n_set 5 M x v)
  | _ => False
set_option maxRecDepth 100000 in
set_option maxHeartbeats 4000000 in
theorem ok_Nodes_setAmount {G : aG} (hG : am_ok G) : am_Sp G Y_Nodes_setAmount 1 sp_Nodes_setAmount := by
  intro as M K h
  unfold sp_Nodes_setAmount at h
  split at h
  · next a x v =>
    obtain ⟨rfl, h⟩ := h
    unfold n_set at h
    cases c : hasN M x
    · rw [c, if_neg (by decide)] at h
      refine am_entry hG (by decide +kernel) (Nat.le_of_ble_eq_true rfl) ?_
      refine am_go (cuts := k_Nodes_setAmount) (tb_Nodes_setAmount (ok_Nodes_has hG) (by decide)) 400 _ _ _ _ ?_
      change am_run _ _ _ _ _ _ [some (.ref 3), some (.int x), some (.int v)] [] _
      simp only [r_Nodes_setAmount_0, r_Nodes_setAmount_1, r_Nodes_setAmount_2, r_Nodes_setAmount_5, r_Nodes_setAmount_8, r_Nodes_setAmount_9, r_Nodes_setAmount_12, r_Nodes_setAmount_13, r_Nodes_setAmount_14, r_Nodes_setAmount_15, ai_aload, ai_iload, ai_callv2, am_push, am_few, ai_ifeq, ai_getf, ai_iast, ai_vret, kd_0, fd_0_0, fd_0_1, fd_0_2, fd_0_3, fd_0_4, kd_1, fd_1_0, fd_1_1, ln_2, kd_3, fd_3_0, fd_3_1, fd_3_2, fd_3_3, fd_3_4, fd_3_5, fd_3_6, fd_3_7, fd_3_8, fd_3_9, ln_4, ln_5, ln_6, ln_7, ln_8, ln_9, ln_10, kd_11, fd_11_0, fd_11_1, fd_11_2, fd_11_3, fd_11_4, kd_12, fd_12_0, fd_12_1, fd_12_2, fd_12_3, ln_13, ln_14, ln_15, kd_16, fd_16_0, fd_16_1, fd_16_2, ln_17, kd_18, fd_18_0, fd_18_1, kd_19, fd_19_0, fd_19_1, fd_19_2, fd_19_3, fd_19_4, fd_19_5, fd_19_6, fd_19_7, fd_19_8, fd_19_9, fd_19_10, fd_19_11, fd_19_12, fd_19_13, fd_19_14, fd_19_15, fd_19_16, fd_19_17, fd_19_18, fd_19_19, fd_19_20, ln_20, ln_21, ln_22, ln_23, ln_24, ln_25, ln_26, ln_27, ln_28, ln_29, ln_30, ln_31, ln_32, List.getElem?_cons_zero, List.getElem?_cons_succ, List.set_cons_zero, List.set_cons_succ, true_and, and_true, ↓reduceIte, Int32.reduceLT, Int32.reduceLE, li_10, or_true, true_or, ↓sp_Nodes_has, b2_0, c]
      exact h
    · rw [if_pos c] at h
      refine am_entry hG (by decide +kernel) (Nat.le_of_ble_eq_true rfl) ?_
      refine am_go (cuts := k_Nodes_setAmount) (tb_Nodes_setAmount (ok_Nodes_has hG) (by decide)) 400 _ _ _ _ ?_
      change am_run _ _ _ _ _ _ [some (.ref 3), some (.int x), some (.int v)] [] _
      simp only [r_Nodes_setAmount_0, r_Nodes_setAmount_1, r_Nodes_setAmount_2, r_Nodes_setAmount_5, r_Nodes_setAmount_8, r_Nodes_setAmount_9, r_Nodes_setAmount_12, r_Nodes_setAmount_13, r_Nodes_setAmount_14, r_Nodes_setAmount_15, ai_aload, ai_iload, ai_callv2, am_push, am_few, ai_ifeq, ai_getf, ai_iast, ai_vret, kd_0, fd_0_0, fd_0_1, fd_0_2, fd_0_3, fd_0_4, kd_1, fd_1_0, fd_1_1, ln_2, kd_3, fd_3_0, fd_3_1, fd_3_2, fd_3_3, fd_3_4, fd_3_5, fd_3_6, fd_3_7, fd_3_8, fd_3_9, ln_4, ln_5, ln_6, ln_7, ln_8, ln_9, ln_10, kd_11, fd_11_0, fd_11_1, fd_11_2, fd_11_3, fd_11_4, kd_12, fd_12_0, fd_12_1, fd_12_2, fd_12_3, ln_13, ln_14, ln_15, kd_16, fd_16_0, fd_16_1, fd_16_2, ln_17, kd_18, fd_18_0, fd_18_1, kd_19, fd_19_0, fd_19_1, fd_19_2, fd_19_3, fd_19_4, fd_19_5, fd_19_6, fd_19_7, fd_19_8, fd_19_9, fd_19_10, fd_19_11, fd_19_12, fd_19_13, fd_19_14, fd_19_15, fd_19_16, fd_19_17, fd_19_18, fd_19_19, fd_19_20, ln_20, ln_21, ln_22, ln_23, ln_24, ln_25, ln_26, ln_27, ln_28, ln_29, ln_30, ln_31, ln_32, List.getElem?_cons_zero, List.getElem?_cons_succ, List.set_cons_zero, List.set_cons_succ, true_and, and_true, ↓reduceIte, Int32.reduceLT, Int32.reduceLE, li_10, or_true, true_or, ↓sp_Nodes_has, b2_0, c, Bool.true_eq_false, hasN_in c]
      exact h
  · cases h
def sp_Nodes_setHead : aS := fun as M K => match as with
  | [.ref a, .int x, .int v] => a = 3 ∧ K none (n_set 7 M x v)
  | _ => False
set_option maxRecDepth 100000 in
set_option maxHeartbeats 4000000 in
theorem ok_Nodes_setHead {G : aG} (hG : am_ok G) : am_Sp G Y_Nodes_setHead 1 sp_Nodes_setHead := by
  intro as M K h
  unfold sp_Nodes_setHead at h
  split at h
  · next a x v =>
    obtain ⟨rfl, h⟩ := h
    unfold n_set at h
    cases c : hasN M x
    · rw [c, if_neg (by decide)] at h
      refine am_entry hG (by decide +kernel) (Nat.le_of_ble_eq_true rfl) ?_
      refine am_go (cuts := k_Nodes_setHead) (tb_Nodes_setHead (ok_Nodes_has hG) (by decide)) 400 _ _ _ _ ?_
      change am_run _ _ _ _ _ _ [some (.ref 3), some (.int x), some (.int v)] [] _
      simp only [r_Nodes_setHead_0, r_Nodes_setHead_1, r_Nodes_setHead_2, r_Nodes_setHead_5, r_Nodes_setHead_8, r_Nodes_setHead_9, r_Nodes_setHead_12, r_Nodes_setHead_13, r_Nodes_setHead_14, r_Nodes_setHead_15, ai_aload, ai_iload, ai_callv2, am_push, am_few, ai_ifeq, ai_getf, ai_iast, ai_vret, kd_0, fd_0_0, fd_0_1, fd_0_2, fd_0_3, fd_0_4, kd_1, fd_1_0, fd_1_1, ln_2, kd_3, fd_3_0, fd_3_1, fd_3_2, fd_3_3, fd_3_4, fd_3_5, fd_3_6, fd_3_7, fd_3_8, fd_3_9, ln_4, ln_5, ln_6, ln_7, ln_8, ln_9, ln_10, kd_11, fd_11_0, fd_11_1, fd_11_2, fd_11_3, fd_11_4, kd_12, fd_12_0, fd_12_1, fd_12_2, fd_12_3, ln_13, ln_14, ln_15, kd_16, fd_16_0, fd_16_1, fd_16_2, ln_17, kd_18, fd_18_0, fd_18_1, kd_19, fd_19_0, fd_19_1, fd_19_2, fd_19_3, fd_19_4, fd_19_5, fd_19_6, fd_19_7, fd_19_8, fd_19_9, fd_19_10, fd_19_11, fd_19_12, fd_19_13, fd_19_14, fd_19_15, fd_19_16, fd_19_17, fd_19_18, fd_19_19, fd_19_20, ln_20, ln_21, ln_22, ln_23, ln_24, ln_25, ln_26, ln_27, ln_28, ln_29, ln_30, ln_31, ln_32, List.getElem?_cons_zero, List.getElem?_cons_succ, List.set_cons_zero, List.set_cons_succ, true_and, and_true, ↓reduceIte, Int32.reduceLT, Int32.reduceLE, li_10, or_true, true_or, ↓sp_Nodes_has, b2_0, c]
      exact h
    · rw [if_pos c] at h
      refine am_entry hG (by decide +kernel) (Nat.le_of_ble_eq_true rfl) ?_
      refine am_go (cuts := k_Nodes_setHead) (tb_Nodes_setHead (ok_Nodes_has hG) (by decide)) 400 _ _ _ _ ?_
      change am_run _ _ _ _ _ _ [some (.ref 3), some (.int x), some (.int v)] [] _
      simp only [r_Nodes_setHead_0, r_Nodes_setHead_1, r_Nodes_setHead_2, r_Nodes_setHead_5, r_Nodes_setHead_8, r_Nodes_setHead_9, r_Nodes_setHead_12, r_Nodes_setHead_13, r_Nodes_setHead_14, r_Nodes_setHead_15, ai_aload, ai_iload, ai_callv2, am_push, am_few, ai_ifeq, ai_getf, ai_iast, ai_vret, kd_0, fd_0_0, fd_0_1, fd_0_2, fd_0_3, fd_0_4, kd_1, fd_1_0, fd_1_1, ln_2, kd_3, fd_3_0, fd_3_1, fd_3_2, fd_3_3, fd_3_4, fd_3_5, fd_3_6, fd_3_7, fd_3_8, fd_3_9, ln_4, ln_5, ln_6, ln_7, ln_8, ln_9, ln_10, kd_11, fd_11_0, fd_11_1, fd_11_2, fd_11_3, fd_11_4, kd_12, fd_12_0, fd_12_1, fd_12_2, fd_12_3, ln_13, ln_14, ln_15, kd_16, fd_16_0, fd_16_1, fd_16_2, ln_17, kd_18, fd_18_0, fd_18_1, kd_19, fd_19_0, fd_19_1, fd_19_2, fd_19_3, fd_19_4, fd_19_5, fd_19_6, fd_19_7, fd_19_8, fd_19_9, fd_19_10, fd_19_11, fd_19_12, fd_19_13, fd_19_14, fd_19_15, fd_19_16, fd_19_17, fd_19_18, fd_19_19, fd_19_20, ln_20, ln_21, ln_22, ln_23, ln_24, ln_25, ln_26, ln_27, ln_28, ln_29, ln_30, ln_31, ln_32, List.getElem?_cons_zero, List.getElem?_cons_succ, List.set_cons_zero, List.set_cons_succ, true_and, and_true, ↓reduceIte, Int32.reduceLT, Int32.reduceLE, li_10, or_true, true_or, ↓sp_Nodes_has, b2_0, c, Bool.true_eq_false, hasN_in c]
      exact h
  · cases h
def sp_Nodes_setTail : aS := fun as M K => match as with
  | [.ref a, .int x, .int v] => a = 3 ∧ K none (n_set 8 M x v)
  | _ => False
set_option maxRecDepth 100000 in
set_option maxHeartbeats 4000000 in
theorem ok_Nodes_setTail {G : aG} (hG : am_ok G) : am_Sp G Y_Nodes_setTail 1 sp_Nodes_setTail := by
  intro as M K h
  unfold sp_Nodes_setTail at h
  split at h
  · next a x v =>
    obtain ⟨rfl, h⟩ := h
    unfold n_set at h
    cases c : hasN M x
    · rw [c, if_neg (by decide)] at h
      refine am_entry hG (by decide +kernel) (Nat.le_of_ble_eq_true rfl) ?_
      refine am_go (cuts := k_Nodes_setTail) (tb_Nodes_setTail (ok_Nodes_has hG) (by decide)) 400 _ _ _ _ ?_
      change am_run _ _ _ _ _ _ [some (.ref 3), some (.int x), some (.int v)] [] _
      simp only [r_Nodes_setTail_0, r_Nodes_setTail_1, r_Nodes_setTail_2, r_Nodes_setTail_5, r_Nodes_setTail_8, r_Nodes_setTail_9, r_Nodes_setTail_12, r_Nodes_setTail_13, r_Nodes_setTail_14, r_Nodes_setTail_15, ai_aload, ai_iload, ai_callv2, am_push, am_few, ai_ifeq, ai_getf, ai_iast, ai_vret, kd_0, fd_0_0, fd_0_1, fd_0_2, fd_0_3, fd_0_4, kd_1, fd_1_0, fd_1_1, ln_2, kd_3, fd_3_0, fd_3_1, fd_3_2, fd_3_3, fd_3_4, fd_3_5, fd_3_6, fd_3_7, fd_3_8, fd_3_9, ln_4, ln_5, ln_6, ln_7, ln_8, ln_9, ln_10, kd_11, fd_11_0, fd_11_1, fd_11_2, fd_11_3, fd_11_4, kd_12, fd_12_0, fd_12_1, fd_12_2, fd_12_3, ln_13, ln_14, ln_15, kd_16, fd_16_0, fd_16_1, fd_16_2, ln_17, kd_18, fd_18_0, fd_18_1, kd_19, fd_19_0, fd_19_1, fd_19_2, fd_19_3, fd_19_4, fd_19_5, fd_19_6, fd_19_7, fd_19_8, fd_19_9, fd_19_10, fd_19_11, fd_19_12, fd_19_13, fd_19_14, fd_19_15, fd_19_16, fd_19_17, fd_19_18, fd_19_19, fd_19_20, ln_20, ln_21, ln_22, ln_23, ln_24, ln_25, ln_26, ln_27, ln_28, ln_29, ln_30, ln_31, ln_32, List.getElem?_cons_zero, List.getElem?_cons_succ, List.set_cons_zero, List.set_cons_succ, true_and, and_true, ↓reduceIte, Int32.reduceLT, Int32.reduceLE, li_10, or_true, true_or, ↓sp_Nodes_has, b2_0, c]
      exact h
    · rw [if_pos c] at h
      refine am_entry hG (by decide +kernel) (Nat.le_of_ble_eq_true rfl) ?_
      refine am_go (cuts := k_Nodes_setTail) (tb_Nodes_setTail (ok_Nodes_has hG) (by decide)) 400 _ _ _ _ ?_
      change am_run _ _ _ _ _ _ [some (.ref 3), some (.int x), some (.int v)] [] _
      simp only [r_Nodes_setTail_0, r_Nodes_setTail_1, r_Nodes_setTail_2, r_Nodes_setTail_5, r_Nodes_setTail_8, r_Nodes_setTail_9, r_Nodes_setTail_12, r_Nodes_setTail_13, r_Nodes_setTail_14, r_Nodes_setTail_15, ai_aload, ai_iload, ai_callv2, am_push, am_few, ai_ifeq, ai_getf, ai_iast, ai_vret, kd_0, fd_0_0, fd_0_1, fd_0_2, fd_0_3, fd_0_4, kd_1, fd_1_0, fd_1_1, ln_2, kd_3, fd_3_0, fd_3_1, fd_3_2, fd_3_3, fd_3_4, fd_3_5, fd_3_6, fd_3_7, fd_3_8, fd_3_9, ln_4, ln_5, ln_6, ln_7, ln_8, ln_9, ln_10, kd_11, fd_11_0, fd_11_1, fd_11_2, fd_11_3, fd_11_4, kd_12, fd_12_0, fd_12_1, fd_12_2, fd_12_3, ln_13, ln_14, ln_15, kd_16, fd_16_0, fd_16_1, fd_16_2, ln_17, kd_18, fd_18_0, fd_18_1, kd_19, fd_19_0, fd_19_1, fd_19_2, fd_19_3, fd_19_4, fd_19_5, fd_19_6, fd_19_7, fd_19_8, fd_19_9, fd_19_10, fd_19_11, fd_19_12, fd_19_13, fd_19_14, fd_19_15, fd_19_16, fd_19_17, fd_19_18, fd_19_19, fd_19_20, ln_20, ln_21, ln_22, ln_23, ln_24, ln_25, ln_26, ln_27, ln_28, ln_29, ln_30, ln_31, ln_32, List.getElem?_cons_zero, List.getElem?_cons_succ, List.set_cons_zero, List.set_cons_succ, true_and, and_true, ↓reduceIte, Int32.reduceLT, Int32.reduceLE, li_10, or_true, true_or, ↓sp_Nodes_has, b2_0, c, Bool.true_eq_false, hasN_in c]
      exact h
  · cases h
def n_data (M : aM) (k : Int32) : Int32 := if k < 0 then -1 else if k < M 3 7 then (if k < 200 then M 9 (cl k) else -1) else -1
def sp_Nodes_datumNode : aS := fun as M K => match as with
  | [.ref a, .int k] => a = 3 ∧ K (some (.int (n_data M k))) M
  | _ => False
set_option maxRecDepth 100000 in
set_option maxHeartbeats 4000000 in
theorem ok_Nodes_datumNode {G : aG} (hG : am_ok G) : am_Sp G Y_Nodes_datumNode 0 sp_Nodes_datumNode := by
  intro as M K h
  unfold sp_Nodes_datumNode at h
  split at h
  · next a k =>
    obtain ⟨rfl, h⟩ := h
    refine am_entry hG (by decide +kernel) (Nat.le_of_ble_eq_true rfl) ?_
    refine am_go (cuts := k_Nodes_datumNode) tb_Nodes_datumNode 400 _ _ _ _ ?_
    change am_run _ _ _ _ _ _ [some (.ref 3), some (.int k)] [] _
    simp only [r_Nodes_datumNode_0, r_Nodes_datumNode_1, r_Nodes_datumNode_4, r_Nodes_datumNode_5, r_Nodes_datumNode_6, r_Nodes_datumNode_9, r_Nodes_datumNode_12, r_Nodes_datumNode_13, r_Nodes_datumNode_16, r_Nodes_datumNode_19, r_Nodes_datumNode_20, r_Nodes_datumNode_23, r_Nodes_datumNode_24, r_Nodes_datumNode_25, r_Nodes_datumNode_28, r_Nodes_datumNode_29, ai_iload, ai_iflt, ai_aload, ai_getf, ai_cmpge, ai_const, ai_iald, ai_goto, ai_iret, kd_0, fd_0_0, fd_0_1, fd_0_2, fd_0_3, fd_0_4, kd_1, fd_1_0, fd_1_1, ln_2, kd_3, fd_3_0, fd_3_1, fd_3_2, fd_3_3, fd_3_4, fd_3_5, fd_3_6, fd_3_7, fd_3_8, fd_3_9, ln_4, ln_5, ln_6, ln_7, ln_8, ln_9, ln_10, kd_11, fd_11_0, fd_11_1, fd_11_2, fd_11_3, fd_11_4, kd_12, fd_12_0, fd_12_1, fd_12_2, fd_12_3, ln_13, ln_14, ln_15, kd_16, fd_16_0, fd_16_1, fd_16_2, ln_17, kd_18, fd_18_0, fd_18_1, kd_19, fd_19_0, fd_19_1, fd_19_2, fd_19_3, fd_19_4, fd_19_5, fd_19_6, fd_19_7, fd_19_8, fd_19_9, fd_19_10, fd_19_11, fd_19_12, fd_19_13, fd_19_14, fd_19_15, fd_19_16, fd_19_17, fd_19_18, fd_19_19, fd_19_20, ln_20, ln_21, ln_22, ln_23, ln_24, ln_25, ln_26, ln_27, ln_28, ln_29, ln_30, ln_31, ln_32, List.getElem?_cons_zero, List.getElem?_cons_succ, List.set_cons_zero, List.set_cons_succ, true_and, and_true, ↓reduceIte, Int32.reduceLT, Int32.reduceLE, li_10, or_true, true_or]
    unfold n_data at h
    by_cases c1 : k < 0
    · simp only [c1, ↓reduceIte] at h ⊢; exact h
    by_cases c2 : k < M 3 7
    · by_cases c3 : k < 200
      · have c4 : vp_in k 200 := vin_lt c1 c3 (by decide)
        simp only [c1, c2, c3, c4, ↓reduceIte, true_and] at h ⊢; exact h
      · simp only [c1, c2, c3, ↓reduceIte] at h ⊢; exact h
    · simp only [c1, c2, ↓reduceIte] at h ⊢; exact h
  · cases h
def n_kind (M : aM) (x : Int32) : Int32 := if hasN M x = true then M 4 (cl x) else 0
def sp_Nodes_kindOf : aS := fun as M K => match as with
  | [.ref a, .int x] => a = 3 ∧ K (some (.int (n_kind M x))) M
  | _ => False
set_option maxRecDepth 100000 in
set_option maxHeartbeats 4000000 in
theorem ok_Nodes_kindOf {G : aG} (hG : am_ok G) : am_Sp G Y_Nodes_kindOf 1 sp_Nodes_kindOf := by
  intro as M K h
  unfold sp_Nodes_kindOf at h
  split at h
  · next a x =>
    obtain ⟨rfl, h⟩ := h
    unfold n_kind at h
    cases c : hasN M x
    · rw [c, if_neg (by decide)] at h
      refine am_entry hG (by decide +kernel) (Nat.le_of_ble_eq_true rfl) ?_
      refine am_go (cuts := k_Nodes_kindOf) (tb_Nodes_kindOf (ok_Nodes_has hG) (by decide)) 400 _ _ _ _ ?_
      change am_run _ _ _ _ _ _ [some (.ref 3), some (.int x)] [] _
      simp only [r_Nodes_kindOf_0, r_Nodes_kindOf_1, r_Nodes_kindOf_2, r_Nodes_kindOf_5, r_Nodes_kindOf_8, r_Nodes_kindOf_9, r_Nodes_kindOf_12, r_Nodes_kindOf_13, r_Nodes_kindOf_14, r_Nodes_kindOf_17, r_Nodes_kindOf_18, ai_aload, ai_iload, ai_callv2, am_push, am_few, ai_ifeq, ai_getf, ai_iald, ai_goto, ai_const, ai_iret, kd_0, fd_0_0, fd_0_1, fd_0_2, fd_0_3, fd_0_4, kd_1, fd_1_0, fd_1_1, ln_2, kd_3, fd_3_0, fd_3_1, fd_3_2, fd_3_3, fd_3_4, fd_3_5, fd_3_6, fd_3_7, fd_3_8, fd_3_9, ln_4, ln_5, ln_6, ln_7, ln_8, ln_9, ln_10, kd_11, fd_11_0, fd_11_1, fd_11_2, fd_11_3, fd_11_4, kd_12, fd_12_0, fd_12_1, fd_12_2, fd_12_3, ln_13, ln_14, ln_15, kd_16, fd_16_0, fd_16_1, fd_16_2, ln_17, kd_18, fd_18_0, fd_18_1, kd_19, fd_19_0, fd_19_1, fd_19_2, fd_19_3, fd_19_4, fd_19_5, fd_19_6, fd_19_7, fd_19_8, fd_19_9, fd_19_10, fd_19_11, fd_19_12, fd_19_13, fd_19_14, fd_19_15, fd_19_16, fd_19_17, fd_19_18, fd_19_19, fd_19_20, ln_20, ln_21, ln_22, ln_23, ln_24, ln_25, ln_26, ln_27, ln_28, ln_29, ln_30, ln_31, ln_32, List.getElem?_cons_zero, List.getElem?_cons_succ, List.set_cons_zero, List.set_cons_succ, true_and, and_true, ↓reduceIte, Int32.reduceLT, Int32.reduceLE, li_10, or_true, true_or, ↓sp_Nodes_has, b2_0, c]
      exact h
    · rw [if_pos c] at h
      refine am_entry hG (by decide +kernel) (Nat.le_of_ble_eq_true rfl) ?_
      refine am_go (cuts := k_Nodes_kindOf) (tb_Nodes_kindOf (ok_Nodes_has hG) (by decide)) 400 _ _ _ _ ?_
      change am_run _ _ _ _ _ _ [some (.ref 3), some (.int x)] [] _
      simp only [r_Nodes_kindOf_0, r_Nodes_kindOf_1, r_Nodes_kindOf_2, r_Nodes_kindOf_5, r_Nodes_kindOf_8, r_Nodes_kindOf_9, r_Nodes_kindOf_12, r_Nodes_kindOf_13, r_Nodes_kindOf_14, r_Nodes_kindOf_17, r_Nodes_kindOf_18, ai_aload, ai_iload, ai_callv2, am_push, am_few, ai_ifeq, ai_getf, ai_iald, ai_goto, ai_const, ai_iret, kd_0, fd_0_0, fd_0_1, fd_0_2, fd_0_3, fd_0_4, kd_1, fd_1_0, fd_1_1, ln_2, kd_3, fd_3_0, fd_3_1, fd_3_2, fd_3_3, fd_3_4, fd_3_5, fd_3_6, fd_3_7, fd_3_8, fd_3_9, ln_4, ln_5, ln_6, ln_7, ln_8, ln_9, ln_10, kd_11, fd_11_0, fd_11_1, fd_11_2, fd_11_3, fd_11_4, kd_12, fd_12_0, fd_12_1, fd_12_2, fd_12_3, ln_13, ln_14, ln_15, kd_16, fd_16_0, fd_16_1, fd_16_2, ln_17, kd_18, fd_18_0, fd_18_1, kd_19, fd_19_0, fd_19_1, fd_19_2, fd_19_3, fd_19_4, fd_19_5, fd_19_6, fd_19_7, fd_19_8, fd_19_9, fd_19_10, fd_19_11, fd_19_12, fd_19_13, fd_19_14, fd_19_15, fd_19_16, fd_19_17, fd_19_18, fd_19_19, fd_19_20, ln_20, ln_21, ln_22, ln_23, ln_24, ln_25, ln_26, ln_27, ln_28, ln_29, ln_30, ln_31, ln_32, List.getElem?_cons_zero, List.getElem?_cons_succ, List.set_cons_zero, List.set_cons_succ, true_and, and_true, ↓reduceIte, Int32.reduceLT, Int32.reduceLE, li_10, or_true, true_or, ↓sp_Nodes_has, b2_0, c, Bool.true_eq_false, hasN_in c]
      exact h
  · cases h
def n_amt (M : aM) (x : Int32) : Int32 := if hasN M x = true then M 5 (cl x) else 0
def sp_Nodes_amountOf : aS := fun as M K => match as with
  | [.ref a, .int x] => a = 3 ∧ K (some (.int (n_amt M x))) M
  | _ => False
set_option maxRecDepth 100000 in
set_option maxHeartbeats 4000000 in
theorem ok_Nodes_amountOf {G : aG} (hG : am_ok G) : am_Sp G Y_Nodes_amountOf 1 sp_Nodes_amountOf := by
  intro as M K h
  unfold sp_Nodes_amountOf at h
  split at h
  · next a x =>
    obtain ⟨rfl, h⟩ := h
    unfold n_amt at h
    cases c : hasN M x
    · rw [c, if_neg (by decide)] at h
      refine am_entry hG (by decide +kernel) (Nat.le_of_ble_eq_true rfl) ?_
      refine am_go (cuts := k_Nodes_amountOf) (tb_Nodes_amountOf (ok_Nodes_has hG) (by decide)) 400 _ _ _ _ ?_
      change am_run _ _ _ _ _ _ [some (.ref 3), some (.int x)] [] _
      simp only [r_Nodes_amountOf_0, r_Nodes_amountOf_1, r_Nodes_amountOf_2, r_Nodes_amountOf_5, r_Nodes_amountOf_8, r_Nodes_amountOf_9, r_Nodes_amountOf_12, r_Nodes_amountOf_13, r_Nodes_amountOf_14, r_Nodes_amountOf_17, r_Nodes_amountOf_18, ai_aload, ai_iload, ai_callv2, am_push, am_few, ai_ifeq, ai_getf, ai_iald, ai_goto, ai_const, ai_iret, kd_0, fd_0_0, fd_0_1, fd_0_2, fd_0_3, fd_0_4, kd_1, fd_1_0, fd_1_1, ln_2, kd_3, fd_3_0, fd_3_1, fd_3_2, fd_3_3, fd_3_4, fd_3_5, fd_3_6, fd_3_7, fd_3_8, fd_3_9, ln_4, ln_5, ln_6, ln_7, ln_8, ln_9, ln_10, kd_11, fd_11_0, fd_11_1, fd_11_2, fd_11_3, fd_11_4, kd_12, fd_12_0, fd_12_1, fd_12_2, fd_12_3, ln_13, ln_14, ln_15, kd_16, fd_16_0, fd_16_1, fd_16_2, ln_17, kd_18, fd_18_0, fd_18_1, kd_19, fd_19_0, fd_19_1, fd_19_2, fd_19_3, fd_19_4, fd_19_5, fd_19_6, fd_19_7, fd_19_8, fd_19_9, fd_19_10, fd_19_11, fd_19_12, fd_19_13, fd_19_14, fd_19_15, fd_19_16, fd_19_17, fd_19_18, fd_19_19, fd_19_20, ln_20, ln_21, ln_22, ln_23, ln_24, ln_25, ln_26, ln_27, ln_28, ln_29, ln_30, ln_31, ln_32, List.getElem?_cons_zero, List.getElem?_cons_succ, List.set_cons_zero, List.set_cons_succ, true_and, and_true, ↓reduceIte, Int32.reduceLT, Int32.reduceLE, li_10, or_true, true_or, ↓sp_Nodes_has, b2_0, c]
      exact h
    · rw [if_pos c] at h
      refine am_entry hG (by decide +kernel) (Nat.le_of_ble_eq_true rfl) ?_
      refine am_go (cuts := k_Nodes_amountOf) (tb_Nodes_amountOf (ok_Nodes_has hG) (by decide)) 400 _ _ _ _ ?_
      change am_run _ _ _ _ _ _ [some (.ref 3), some (.int x)] [] _
      simp only [r_Nodes_amountOf_0, r_Nodes_amountOf_1, r_Nodes_amountOf_2, r_Nodes_amountOf_5, r_Nodes_amountOf_8, r_Nodes_amountOf_9, r_Nodes_amountOf_12, r_Nodes_amountOf_13, r_Nodes_amountOf_14, r_Nodes_amountOf_17, r_Nodes_amountOf_18, ai_aload, ai_iload, ai_callv2, am_push, am_few, ai_ifeq, ai_getf, ai_iald, ai_goto, ai_const, ai_iret, kd_0, fd_0_0, fd_0_1, fd_0_2, fd_0_3, fd_0_4, kd_1, fd_1_0, fd_1_1, ln_2, kd_3, fd_3_0, fd_3_1, fd_3_2, fd_3_3, fd_3_4, fd_3_5, fd_3_6, fd_3_7, fd_3_8, fd_3_9, ln_4, ln_5, ln_6, ln_7, ln_8, ln_9, ln_10, kd_11, fd_11_0, fd_11_1, fd_11_2, fd_11_3, fd_11_4, kd_12, fd_12_0, fd_12_1, fd_12_2, fd_12_3, ln_13, ln_14, ln_15, kd_16, fd_16_0, fd_16_1, fd_16_2, ln_17, kd_18, fd_18_0, fd_18_1, kd_19, fd_19_0, fd_19_1, fd_19_2, fd_19_3, fd_19_4, fd_19_5, fd_19_6, fd_19_7, fd_19_8, fd_19_9, fd_19_10, fd_19_11, fd_19_12, fd_19_13, fd_19_14, fd_19_15, fd_19_16, fd_19_17, fd_19_18, fd_19_19, fd_19_20, ln_20, ln_21, ln_22, ln_23, ln_24, ln_25, ln_26, ln_27, ln_28, ln_29, ln_30, ln_31, ln_32, List.getElem?_cons_zero, List.getElem?_cons_succ, List.set_cons_zero, List.set_cons_succ, true_and, and_true, ↓reduceIte, Int32.reduceLT, Int32.reduceLE, li_10, or_true, true_or, ↓sp_Nodes_has, b2_0, c, Bool.true_eq_false, hasN_in c]
      exact h
  · cases h
theorem isN_in {M : aM} {x k : Int32} (h : isN M x k = true) : vp_in x 200 := by
  unfold isN at h
  rw [Bool.and_eq_true] at h
  exact hasN_in h.1
def n_byte (M : aM) (x k : Int32) : Int32 := if (isN M x 2 || isN M x 3) = true then (if k < 0 then -1 else if k < M 5 (cl x) then (if M 6 (cl x) + k < 0 then -1 else if M 6 (cl x) + k < 405 then M 10 (cl (M 6 (cl x) + k)) else -1) else -1) else -1
def sp_Nodes_byteOf : aS := fun as M K => match as with
  | [.ref a, .int x, .int k] => a = 3 ∧ K (some (.int (n_byte M x k))) M
  | _ => False
set_option maxRecDepth 100000 in
set_option maxHeartbeats 4000000 in
theorem ok_Nodes_byteOf {G : aG} (hG : am_ok G) : am_Sp G Y_Nodes_byteOf 1 sp_Nodes_byteOf := by
  intro as M K h
  unfold sp_Nodes_byteOf at h
  split at h
  · next a x k =>
    obtain ⟨rfl, h⟩ := h
    unfold n_byte at h
    refine am_entry hG (by decide +kernel) (Nat.le_of_ble_eq_true rfl) ?_
    refine am_go (cuts := k_Nodes_byteOf) (tb_Nodes_byteOf (ok_Nodes_isOf hG) (by decide)) 400 _ _ _ _ ?_
    change am_run _ _ _ _ _ _ [some (.ref 3), some (.int x), some (.int k), none] [] _
    simp only [r_Nodes_byteOf_0, r_Nodes_byteOf_1, r_Nodes_byteOf_2, r_Nodes_byteOf_3, r_Nodes_byteOf_6, r_Nodes_byteOf_9, r_Nodes_byteOf_10, r_Nodes_byteOf_11, r_Nodes_byteOf_12, r_Nodes_byteOf_15, r_Nodes_byteOf_18, r_Nodes_byteOf_19, r_Nodes_byteOf_22, r_Nodes_byteOf_23, r_Nodes_byteOf_24, r_Nodes_byteOf_27, r_Nodes_byteOf_28, r_Nodes_byteOf_29, r_Nodes_byteOf_32, r_Nodes_byteOf_33, r_Nodes_byteOf_34, r_Nodes_byteOf_35, r_Nodes_byteOf_38, r_Nodes_byteOf_39, r_Nodes_byteOf_40, r_Nodes_byteOf_41, r_Nodes_byteOf_42, r_Nodes_byteOf_43, r_Nodes_byteOf_44, r_Nodes_byteOf_47, r_Nodes_byteOf_48, r_Nodes_byteOf_49, r_Nodes_byteOf_52, r_Nodes_byteOf_53, r_Nodes_byteOf_56, r_Nodes_byteOf_57, r_Nodes_byteOf_60, r_Nodes_byteOf_61, r_Nodes_byteOf_62, r_Nodes_byteOf_65, r_Nodes_byteOf_66, ai_aload, ai_iload, ai_const, ai_callv3, am_push, am_few, ai_ifne, ai_ifeq, ai_iflt, ai_getf, ai_iald, ai_cmplt, ai_iret, ai_iadd, ai_bin, ai_istore, am_cut_0, am_cut_s, am_c1, ai_alen, ai_cmpge, ai_goto, kd_0, fd_0_0, fd_0_1, fd_0_2, fd_0_3, fd_0_4, kd_1, fd_1_0, fd_1_1, ln_2, kd_3, fd_3_0, fd_3_1, fd_3_2, fd_3_3, fd_3_4, fd_3_5, fd_3_6, fd_3_7, fd_3_8, fd_3_9, ln_4, ln_5, ln_6, ln_7, ln_8, ln_9, ln_10, kd_11, fd_11_0, fd_11_1, fd_11_2, fd_11_3, fd_11_4, kd_12, fd_12_0, fd_12_1, fd_12_2, fd_12_3, ln_13, ln_14, ln_15, kd_16, fd_16_0, fd_16_1, fd_16_2, ln_17, kd_18, fd_18_0, fd_18_1, kd_19, fd_19_0, fd_19_1, fd_19_2, fd_19_3, fd_19_4, fd_19_5, fd_19_6, fd_19_7, fd_19_8, fd_19_9, fd_19_10, fd_19_11, fd_19_12, fd_19_13, fd_19_14, fd_19_15, fd_19_16, fd_19_17, fd_19_18, fd_19_19, fd_19_20, ln_20, ln_21, ln_22, ln_23, ln_24, ln_25, ln_26, ln_27, ln_28, ln_29, ln_30, ln_31, ln_32, List.getElem?_cons_zero, List.getElem?_cons_succ, List.set_cons_zero, List.set_cons_succ, true_and, and_true, ↓reduceIte, Int32.reduceLT, Int32.reduceLE, li_10, or_true, true_or, ↓sp_Nodes_isOf, b2_0]
    have key : vp_in x 200 → K (some (.int (if k < 0 then -1 else if k < M 5 (cl x) then (if M 6 (cl x) + k < 0 then -1 else if M 6 (cl x) + k < 405 then M 10 (cl (M 6 (cl x) + k)) else -1) else -1))) M → (if k < 0 then K (some (.int (-1))) M else vp_in x 200 ∧ (if k < M 5 (cl x) then vp_in x 200 ∧ (if M 6 (cl x) + k < 0 then K (some (.int (-1))) M else if M 6 (cl x) + k < Int32.ofNat 405 then vp_in (M 6 (cl x) + k) 405 ∧ K (some (.int (M 10 (cl (M 6 (cl x) + k))))) M else K (some (.int (-1))) M) else K (some (.int (-1))) M)) := by
      intro hx hk
      by_cases c1 : k < 0
      · simp only [c1, ↓reduceIte] at hk ⊢; exact hk
      · simp only [c1, ↓reduceIte] at hk ⊢
        refine ⟨hx, ?_⟩
        by_cases c2 : k < M 5 (cl x)
        · simp only [c2, ↓reduceIte] at hk ⊢
          refine ⟨hx, ?_⟩
          by_cases c3 : M 6 (cl x) + k < 0
          · simp only [c3, ↓reduceIte] at hk ⊢; exact hk
          · simp only [c3, ↓reduceIte] at hk ⊢
            by_cases c4 : M 6 (cl x) + k < 405
            · simp only [c4, ↓reduceIte] at hk
              rw [if_pos (show M 6 (cl x) + k < Int32.ofNat 405 from c4)]
              exact ⟨vin_lt c3 c4 (by decide), hk⟩
            · simp only [c4, ↓reduceIte] at hk
              rw [if_neg (show ¬ M 6 (cl x) + k < Int32.ofNat 405 from c4)]
              exact hk
        · simp only [c2, ↓reduceIte] at hk ⊢; exact hk
    cases c2 : isN M x 2
    · cases c3 : isN M x 3
      · simp only [c2, c3, Bool.or_false, Bool.false_eq_true, ↓reduceIte] at h ⊢; exact h
      · simp only [c2, c3, Bool.or_true, Bool.true_eq_false, ↓reduceIte] at h ⊢
        exact key (isN_in c3) h
    · simp only [c2, Bool.true_or, Bool.true_eq_false, ↓reduceIte] at h ⊢
      exact key (isN_in c2) h
  · cases h
def n_head (M : aM) (x : Int32) : Int32 := if isN M x 4 = true then M 7 (cl x) else -1
def sp_Nodes_headOf : aS := fun as M K => match as with
  | [.ref a, .int x] => a = 3 ∧ K (some (.int (n_head M x))) M
  | _ => False
set_option maxRecDepth 100000 in
set_option maxHeartbeats 4000000 in
theorem ok_Nodes_headOf {G : aG} (hG : am_ok G) : am_Sp G Y_Nodes_headOf 1 sp_Nodes_headOf := by
  intro as M K h
  unfold sp_Nodes_headOf at h
  split at h
  · next a x =>
    obtain ⟨rfl, h⟩ := h
    unfold n_head at h
    cases c : isN M x 4
    · rw [c, if_neg (by decide)] at h
      refine am_entry hG (by decide +kernel) (Nat.le_of_ble_eq_true rfl) ?_
      refine am_go (cuts := k_Nodes_headOf) (tb_Nodes_headOf (ok_Nodes_isOf hG) (by decide)) 400 _ _ _ _ ?_
      change am_run _ _ _ _ _ _ [some (.ref 3), some (.int x)] [] _
      simp only [r_Nodes_headOf_0, r_Nodes_headOf_1, r_Nodes_headOf_2, r_Nodes_headOf_3, r_Nodes_headOf_6, r_Nodes_headOf_9, r_Nodes_headOf_10, r_Nodes_headOf_13, r_Nodes_headOf_14, r_Nodes_headOf_15, r_Nodes_headOf_18, r_Nodes_headOf_19, ai_aload, ai_iload, ai_const, ai_callv3, am_push, am_few, ai_ifeq, ai_getf, ai_iald, ai_goto, ai_iret, kd_0, fd_0_0, fd_0_1, fd_0_2, fd_0_3, fd_0_4, kd_1, fd_1_0, fd_1_1, ln_2, kd_3, fd_3_0, fd_3_1, fd_3_2, fd_3_3, fd_3_4, fd_3_5, fd_3_6, fd_3_7, fd_3_8, fd_3_9, ln_4, ln_5, ln_6, ln_7, ln_8, ln_9, ln_10, kd_11, fd_11_0, fd_11_1, fd_11_2, fd_11_3, fd_11_4, kd_12, fd_12_0, fd_12_1, fd_12_2, fd_12_3, ln_13, ln_14, ln_15, kd_16, fd_16_0, fd_16_1, fd_16_2, ln_17, kd_18, fd_18_0, fd_18_1, kd_19, fd_19_0, fd_19_1, fd_19_2, fd_19_3, fd_19_4, fd_19_5, fd_19_6, fd_19_7, fd_19_8, fd_19_9, fd_19_10, fd_19_11, fd_19_12, fd_19_13, fd_19_14, fd_19_15, fd_19_16, fd_19_17, fd_19_18, fd_19_19, fd_19_20, ln_20, ln_21, ln_22, ln_23, ln_24, ln_25, ln_26, ln_27, ln_28, ln_29, ln_30, ln_31, ln_32, List.getElem?_cons_zero, List.getElem?_cons_succ, List.set_cons_zero, List.set_cons_succ, true_and, and_true, ↓reduceIte, Int32.reduceLT, Int32.reduceLE, li_10, or_true, true_or, ↓sp_Nodes_isOf, b2_0, c]
      exact h
    · rw [if_pos c] at h
      refine am_entry hG (by decide +kernel) (Nat.le_of_ble_eq_true rfl) ?_
      refine am_go (cuts := k_Nodes_headOf) (tb_Nodes_headOf (ok_Nodes_isOf hG) (by decide)) 400 _ _ _ _ ?_
      change am_run _ _ _ _ _ _ [some (.ref 3), some (.int x)] [] _
      simp only [r_Nodes_headOf_0, r_Nodes_headOf_1, r_Nodes_headOf_2, r_Nodes_headOf_3, r_Nodes_headOf_6, r_Nodes_headOf_9, r_Nodes_headOf_10, r_Nodes_headOf_13, r_Nodes_headOf_14, r_Nodes_headOf_15, r_Nodes_headOf_18, r_Nodes_headOf_19, ai_aload, ai_iload, ai_const, ai_callv3, am_push, am_few, ai_ifeq, ai_getf, ai_iald, ai_goto, ai_iret, kd_0, fd_0_0, fd_0_1, fd_0_2, fd_0_3, fd_0_4, kd_1, fd_1_0, fd_1_1, ln_2, kd_3, fd_3_0, fd_3_1, fd_3_2, fd_3_3, fd_3_4, fd_3_5, fd_3_6, fd_3_7, fd_3_8, fd_3_9, ln_4, ln_5, ln_6, ln_7, ln_8, ln_9, ln_10, kd_11, fd_11_0, fd_11_1, fd_11_2, fd_11_3, fd_11_4, kd_12, fd_12_0, fd_12_1, fd_12_2, fd_12_3, ln_13, ln_14, ln_15, kd_16, fd_16_0, fd_16_1, fd_16_2, ln_17, kd_18, fd_18_0, fd_18_1, kd_19, fd_19_0, fd_19_1, fd_19_2, fd_19_3, fd_19_4, fd_19_5, fd_19_6, fd_19_7, fd_19_8, fd_19_9, fd_19_10, fd_19_11, fd_19_12, fd_19_13, fd_19_14, fd_19_15, fd_19_16, fd_19_17, fd_19_18, fd_19_19, fd_19_20, ln_20, ln_21, ln_22, ln_23, ln_24, ln_25, ln_26, ln_27, ln_28, ln_29, ln_30, ln_31, ln_32, List.getElem?_cons_zero, List.getElem?_cons_succ, List.set_cons_zero, List.set_cons_succ, true_and, and_true, ↓reduceIte, Int32.reduceLT, Int32.reduceLE, li_10, or_true, true_or, ↓sp_Nodes_isOf, b2_0, c, Bool.true_eq_false, isN_in c]
      exact h
  · cases h
def n_tail (M : aM) (x : Int32) : Int32 := if isN M x 4 = true then M 8 (cl x) else -1
def sp_Nodes_tailOf : aS := fun as M K => match as with
  | [.ref a, .int x] => a = 3 ∧ K (some (.int (n_tail M x))) M
  | _ => False
set_option maxRecDepth 100000 in
set_option maxHeartbeats 4000000 in
theorem ok_Nodes_tailOf {G : aG} (hG : am_ok G) : am_Sp G Y_Nodes_tailOf 1 sp_Nodes_tailOf := by
  intro as M K h
  unfold sp_Nodes_tailOf at h
  split at h
  · next a x =>
    obtain ⟨rfl, h⟩ := h
    unfold n_tail at h
    cases c : isN M x 4
    · rw [c, if_neg (by decide)] at h
      refine am_entry hG (by decide +kernel) (Nat.le_of_ble_eq_true rfl) ?_
      refine am_go (cuts := k_Nodes_tailOf) (tb_Nodes_tailOf (ok_Nodes_isOf hG) (by decide)) 400 _ _ _ _ ?_
      change am_run _ _ _ _ _ _ [some (.ref 3), some (.int x)] [] _
      simp only [r_Nodes_tailOf_0, r_Nodes_tailOf_1, r_Nodes_tailOf_2, r_Nodes_tailOf_3, r_Nodes_tailOf_6, r_Nodes_tailOf_9, r_Nodes_tailOf_10, r_Nodes_tailOf_13, r_Nodes_tailOf_14, r_Nodes_tailOf_15, r_Nodes_tailOf_18, r_Nodes_tailOf_19, ai_aload, ai_iload, ai_const, ai_callv3, am_push, am_few, ai_ifeq, ai_getf, ai_iald, ai_goto, ai_iret, kd_0, fd_0_0, fd_0_1, fd_0_2, fd_0_3, fd_0_4, kd_1, fd_1_0, fd_1_1, ln_2, kd_3, fd_3_0, fd_3_1, fd_3_2, fd_3_3, fd_3_4, fd_3_5, fd_3_6, fd_3_7, fd_3_8, fd_3_9, ln_4, ln_5, ln_6, ln_7, ln_8, ln_9, ln_10, kd_11, fd_11_0, fd_11_1, fd_11_2, fd_11_3, fd_11_4, kd_12, fd_12_0, fd_12_1, fd_12_2, fd_12_3, ln_13, ln_14, ln_15, kd_16, fd_16_0, fd_16_1, fd_16_2, ln_17, kd_18, fd_18_0, fd_18_1, kd_19, fd_19_0, fd_19_1, fd_19_2, fd_19_3, fd_19_4, fd_19_5, fd_19_6, fd_19_7, fd_19_8, fd_19_9, fd_19_10, fd_19_11, fd_19_12, fd_19_13, fd_19_14, fd_19_15, fd_19_16, fd_19_17, fd_19_18, fd_19_19, fd_19_20, ln_20, ln_21, ln_22, ln_23, ln_24, ln_25, ln_26, ln_27, ln_28, ln_29, ln_30, ln_31, ln_32, List.getElem?_cons_zero, List.getElem?_cons_succ, List.set_cons_zero, List.set_cons_succ, true_and, and_true, ↓reduceIte, Int32.reduceLT, Int32.reduceLE, li_10, or_true, true_or, ↓sp_Nodes_isOf, b2_0, c]
      exact h
    · rw [if_pos c] at h
      refine am_entry hG (by decide +kernel) (Nat.le_of_ble_eq_true rfl) ?_
      refine am_go (cuts := k_Nodes_tailOf) (tb_Nodes_tailOf (ok_Nodes_isOf hG) (by decide)) 400 _ _ _ _ ?_
      change am_run _ _ _ _ _ _ [some (.ref 3), some (.int x)] [] _
      simp only [r_Nodes_tailOf_0, r_Nodes_tailOf_1, r_Nodes_tailOf_2, r_Nodes_tailOf_3, r_Nodes_tailOf_6, r_Nodes_tailOf_9, r_Nodes_tailOf_10, r_Nodes_tailOf_13, r_Nodes_tailOf_14, r_Nodes_tailOf_15, r_Nodes_tailOf_18, r_Nodes_tailOf_19, ai_aload, ai_iload, ai_const, ai_callv3, am_push, am_few, ai_ifeq, ai_getf, ai_iald, ai_goto, ai_iret, kd_0, fd_0_0, fd_0_1, fd_0_2, fd_0_3, fd_0_4, kd_1, fd_1_0, fd_1_1, ln_2, kd_3, fd_3_0, fd_3_1, fd_3_2, fd_3_3, fd_3_4, fd_3_5, fd_3_6, fd_3_7, fd_3_8, fd_3_9, ln_4, ln_5, ln_6, ln_7, ln_8, ln_9, ln_10, kd_11, fd_11_0, fd_11_1, fd_11_2, fd_11_3, fd_11_4, kd_12, fd_12_0, fd_12_1, fd_12_2, fd_12_3, ln_13, ln_14, ln_15, kd_16, fd_16_0, fd_16_1, fd_16_2, ln_17, kd_18, fd_18_0, fd_18_1, kd_19, fd_19_0, fd_19_1, fd_19_2, fd_19_3, fd_19_4, fd_19_5, fd_19_6, fd_19_7, fd_19_8, fd_19_9, fd_19_10, fd_19_11, fd_19_12, fd_19_13, fd_19_14, fd_19_15, fd_19_16, fd_19_17, fd_19_18, fd_19_19, fd_19_20, ln_20, ln_21, ln_22, ln_23, ln_24, ln_25, ln_26, ln_27, ln_28, ln_29, ln_30, ln_31, ln_32, List.getElem?_cons_zero, List.getElem?_cons_succ, List.set_cons_zero, List.set_cons_succ, true_and, and_true, ↓reduceIte, Int32.reduceLT, Int32.reduceLE, li_10, or_true, true_or, ↓sp_Nodes_isOf, b2_0, c, Bool.true_eq_false, isN_in c]
      exact h
  · cases h
end
section
/-! THE NODES: likeness, quotes -/
def qL (M : aM) (x : Int32) : Nat → Nat → Bool
  | 0, _ => true
  | r + 1, k => decide (n_byte M x (nI k) = QF k) && qL M x r (k + 1)
def isQ (M : aM) (x : Int32) : Bool := isN M x 2 && decide (M 5 (cl x) = 5) && qL M x 5 0
def sp_Nodes_isQuoteName : aS := fun as M K => match as with
  | [.ref a, .int x] => a = 3 ∧ K (some (.int (b2 (isQ M x)))) M
  | _ => False
set_option maxRecDepth 100000 in
set_option maxHeartbeats 4000000 in
theorem lp_Nodes_isQuoteName {G : aG} (hG : am_ok G) {K : aR} {M : aM} {x : Int32} : ∀ (r k : Nat), k + r = 5 → K (some (.int (b2 (qL M x r k)))) M → am_X G Y_Nodes_isQuoteName 2 K 26 [some (.ref 3), some (.int x), some (.int (nI k))] [] M := by
  intro r
  induction r with
  | zero =>
    intro k hk h
    have e1 : ¬ nI k < Int32.ofNat 5 := nI_nlt (b := 5) (a := k) (by omega) (by omega)
    refine am_from (tb_Nodes_isQuoteName (ok_Nodes_isOf hG) (by decide) (ok_Nodes_byteOf hG) (by decide)) k_Nodes_isQuoteName 400 ?_
    simp only [q_Nodes_isQuoteName_26, r_Nodes_isQuoteName_0, r_Nodes_isQuoteName_1, r_Nodes_isQuoteName_2, r_Nodes_isQuoteName_3, r_Nodes_isQuoteName_6, r_Nodes_isQuoteName_9, r_Nodes_isQuoteName_10, r_Nodes_isQuoteName_13, r_Nodes_isQuoteName_14, r_Nodes_isQuoteName_15, r_Nodes_isQuoteName_18, r_Nodes_isQuoteName_19, r_Nodes_isQuoteName_22, r_Nodes_isQuoteName_23, r_Nodes_isQuoteName_24, r_Nodes_isQuoteName_25, r_Nodes_isQuoteName_26, r_Nodes_isQuoteName_27, r_Nodes_isQuoteName_30, r_Nodes_isQuoteName_31, r_Nodes_isQuoteName_34, r_Nodes_isQuoteName_35, r_Nodes_isQuoteName_36, r_Nodes_isQuoteName_37, r_Nodes_isQuoteName_40, r_Nodes_isQuoteName_43, r_Nodes_isQuoteName_44, r_Nodes_isQuoteName_45, r_Nodes_isQuoteName_48, r_Nodes_isQuoteName_49, r_Nodes_isQuoteName_50, r_Nodes_isQuoteName_53, r_Nodes_isQuoteName_56, r_Nodes_isQuoteName_57, ai_aload, ai_iload, ai_const, ai_callv3, am_push, am_few, ai_ifeq, ai_getf, ai_iald, ai_gets, ai_xlen, ai_cmpeq, ai_zret, ai_istore, am_cut_0, am_cut_s, am_c1, ai_cmpge, ai_xald, ai_iinc, ai_goto, kd_0, fd_0_0, fd_0_1, fd_0_2, fd_0_3, fd_0_4, kd_1, fd_1_0, fd_1_1, ln_2, kd_3, fd_3_0, fd_3_1, fd_3_2, fd_3_3, fd_3_4, fd_3_5, fd_3_6, fd_3_7, fd_3_8, fd_3_9, ln_4, ln_5, ln_6, ln_7, ln_8, ln_9, ln_10, kd_11, fd_11_0, fd_11_1, fd_11_2, fd_11_3, fd_11_4, kd_12, fd_12_0, fd_12_1, fd_12_2, fd_12_3, ln_13, ln_14, ln_15, kd_16, fd_16_0, fd_16_1, fd_16_2, ln_17, kd_18, fd_18_0, fd_18_1, kd_19, fd_19_0, fd_19_1, fd_19_2, fd_19_3, fd_19_4, fd_19_5, fd_19_6, fd_19_7, fd_19_8, fd_19_9, fd_19_10, fd_19_11, fd_19_12, fd_19_13, fd_19_14, fd_19_15, fd_19_16, fd_19_17, fd_19_18, fd_19_19, fd_19_20, ln_20, ln_21, ln_22, ln_23, ln_24, ln_25, ln_26, ln_27, ln_28, ln_29, ln_30, ln_31, ln_32, List.getElem?_cons_zero, List.getElem?_cons_succ, List.set_cons_zero, List.set_cons_succ, true_and, and_true, ↓reduceIte, Int32.reduceLT, Int32.reduceLE, li_10, or_true, true_or, e1]
    exact h
  | succ r ih =>
    intro k hk h
    have e1 : nI k < Int32.ofNat 5 := nI_lt (b := 5) (by omega) (by decide)
    have e2 : vp_in (nI k) 5 := vp_in_nI (by omega) (by decide)
    have e3 : (nI k).toNatClampNeg = k := nI_clamp (by omega)
    refine am_from (tb_Nodes_isQuoteName (ok_Nodes_isOf hG) (by decide) (ok_Nodes_byteOf hG) (by decide)) k_Nodes_isQuoteName 400 ?_
    simp only [q_Nodes_isQuoteName_26, r_Nodes_isQuoteName_0, r_Nodes_isQuoteName_1, r_Nodes_isQuoteName_2, r_Nodes_isQuoteName_3, r_Nodes_isQuoteName_6, r_Nodes_isQuoteName_9, r_Nodes_isQuoteName_10, r_Nodes_isQuoteName_13, r_Nodes_isQuoteName_14, r_Nodes_isQuoteName_15, r_Nodes_isQuoteName_18, r_Nodes_isQuoteName_19, r_Nodes_isQuoteName_22, r_Nodes_isQuoteName_23, r_Nodes_isQuoteName_24, r_Nodes_isQuoteName_25, r_Nodes_isQuoteName_26, r_Nodes_isQuoteName_27, r_Nodes_isQuoteName_30, r_Nodes_isQuoteName_31, r_Nodes_isQuoteName_34, r_Nodes_isQuoteName_35, r_Nodes_isQuoteName_36, r_Nodes_isQuoteName_37, r_Nodes_isQuoteName_40, r_Nodes_isQuoteName_43, r_Nodes_isQuoteName_44, r_Nodes_isQuoteName_45, r_Nodes_isQuoteName_48, r_Nodes_isQuoteName_49, r_Nodes_isQuoteName_50, r_Nodes_isQuoteName_53, r_Nodes_isQuoteName_56, r_Nodes_isQuoteName_57, ai_aload, ai_iload, ai_const, ai_callv3, am_push, am_few, ai_ifeq, ai_getf, ai_iald, ai_gets, ai_xlen, ai_cmpeq, ai_zret, ai_istore, am_cut_0, am_cut_s, am_c1, ai_cmpge, ai_xald, ai_iinc, ai_goto, kd_0, fd_0_0, fd_0_1, fd_0_2, fd_0_3, fd_0_4, kd_1, fd_1_0, fd_1_1, ln_2, kd_3, fd_3_0, fd_3_1, fd_3_2, fd_3_3, fd_3_4, fd_3_5, fd_3_6, fd_3_7, fd_3_8, fd_3_9, ln_4, ln_5, ln_6, ln_7, ln_8, ln_9, ln_10, kd_11, fd_11_0, fd_11_1, fd_11_2, fd_11_3, fd_11_4, kd_12, fd_12_0, fd_12_1, fd_12_2, fd_12_3, ln_13, ln_14, ln_15, kd_16, fd_16_0, fd_16_1, fd_16_2, ln_17, kd_18, fd_18_0, fd_18_1, kd_19, fd_19_0, fd_19_1, fd_19_2, fd_19_3, fd_19_4, fd_19_5, fd_19_6, fd_19_7, fd_19_8, fd_19_9, fd_19_10, fd_19_11, fd_19_12, fd_19_13, fd_19_14, fd_19_15, fd_19_16, fd_19_17, fd_19_18, fd_19_19, fd_19_20, ln_20, ln_21, ln_22, ln_23, ln_24, ln_25, ln_26, ln_27, ln_28, ln_29, ln_30, ln_31, ln_32, List.getElem?_cons_zero, List.getElem?_cons_succ, List.set_cons_zero, List.set_cons_succ, true_and, and_true, ↓reduceIte, Int32.reduceLT, Int32.reduceLE, li_10, or_true, true_or, ↓sp_Nodes_byteOf, e1, e2, e3, nI_1]
    simp only [qL] at h
    have g := ih (k + 1) (by omega)
    by_cases c : n_byte M x (nI k) = QF k
    · simp only [c, ↓reduceIte, decide_true, Bool.true_and] at h ⊢; exact g h
    · simp only [c, ↓reduceIte, decide_false, Bool.false_and] at h ⊢; exact h
set_option maxRecDepth 100000 in
set_option maxHeartbeats 4000000 in
theorem ok_Nodes_isQuoteName {G : aG} (hG : am_ok G) : am_Sp G Y_Nodes_isQuoteName 2 sp_Nodes_isQuoteName := by
  intro as M K h
  unfold sp_Nodes_isQuoteName at h
  split at h
  · next a x =>
    obtain ⟨rfl, h⟩ := h
    unfold isQ at h
    cases c : isN M x 2
    · refine am_entry hG (by decide +kernel) (Nat.le_of_ble_eq_true rfl) ?_
      refine am_go (cuts := k_Nodes_isQuoteName) (tb_Nodes_isQuoteName (ok_Nodes_isOf hG) (by decide) (ok_Nodes_byteOf hG) (by decide)) 400 _ _ _ _ ?_
      change am_run _ _ _ _ _ _ [some (.ref 3), some (.int x), none] [] _
      simp only [q_Nodes_isQuoteName_26, r_Nodes_isQuoteName_0, r_Nodes_isQuoteName_1, r_Nodes_isQuoteName_2, r_Nodes_isQuoteName_3, r_Nodes_isQuoteName_6, r_Nodes_isQuoteName_9, r_Nodes_isQuoteName_10, r_Nodes_isQuoteName_13, r_Nodes_isQuoteName_14, r_Nodes_isQuoteName_15, r_Nodes_isQuoteName_18, r_Nodes_isQuoteName_19, r_Nodes_isQuoteName_22, r_Nodes_isQuoteName_23, r_Nodes_isQuoteName_24, r_Nodes_isQuoteName_25, r_Nodes_isQuoteName_26, r_Nodes_isQuoteName_27, r_Nodes_isQuoteName_30, r_Nodes_isQuoteName_31, r_Nodes_isQuoteName_34, r_Nodes_isQuoteName_35, r_Nodes_isQuoteName_36, r_Nodes_isQuoteName_37, r_Nodes_isQuoteName_40, r_Nodes_isQuoteName_43, r_Nodes_isQuoteName_44, r_Nodes_isQuoteName_45, r_Nodes_isQuoteName_48, r_Nodes_isQuoteName_49, r_Nodes_isQuoteName_50, r_Nodes_isQuoteName_53, r_Nodes_isQuoteName_56, r_Nodes_isQuoteName_57, ai_aload, ai_iload, ai_const, ai_callv3, am_push, am_few, ai_ifeq, ai_getf, ai_iald, ai_gets, ai_xlen, ai_cmpeq, ai_zret, ai_istore, am_cut_0, am_cut_s, am_c1, ai_cmpge, ai_xald, ai_iinc, ai_goto, kd_0, fd_0_0, fd_0_1, fd_0_2, fd_0_3, fd_0_4, kd_1, fd_1_0, fd_1_1, ln_2, kd_3, fd_3_0, fd_3_1, fd_3_2, fd_3_3, fd_3_4, fd_3_5, fd_3_6, fd_3_7, fd_3_8, fd_3_9, ln_4, ln_5, ln_6, ln_7, ln_8, ln_9, ln_10, kd_11, fd_11_0, fd_11_1, fd_11_2, fd_11_3, fd_11_4, kd_12, fd_12_0, fd_12_1, fd_12_2, fd_12_3, ln_13, ln_14, ln_15, kd_16, fd_16_0, fd_16_1, fd_16_2, ln_17, kd_18, fd_18_0, fd_18_1, kd_19, fd_19_0, fd_19_1, fd_19_2, fd_19_3, fd_19_4, fd_19_5, fd_19_6, fd_19_7, fd_19_8, fd_19_9, fd_19_10, fd_19_11, fd_19_12, fd_19_13, fd_19_14, fd_19_15, fd_19_16, fd_19_17, fd_19_18, fd_19_19, fd_19_20, ln_20, ln_21, ln_22, ln_23, ln_24, ln_25, ln_26, ln_27, ln_28, ln_29, ln_30, ln_31, ln_32, List.getElem?_cons_zero, List.getElem?_cons_succ, List.set_cons_zero, List.set_cons_succ, true_and, and_true, ↓reduceIte, Int32.reduceLT, Int32.reduceLE, li_10, or_true, true_or, ↓sp_Nodes_isOf, b2_0, c]
      rw [c] at h; exact h
    · refine am_entry hG (by decide +kernel) (Nat.le_of_ble_eq_true rfl) ?_
      refine am_go (cuts := k_Nodes_isQuoteName) (tb_Nodes_isQuoteName (ok_Nodes_isOf hG) (by decide) (ok_Nodes_byteOf hG) (by decide)) 400 _ _ _ _ ?_
      change am_run _ _ _ _ _ _ [some (.ref 3), some (.int x), none] [] _
      simp only [q_Nodes_isQuoteName_26, r_Nodes_isQuoteName_0, r_Nodes_isQuoteName_1, r_Nodes_isQuoteName_2, r_Nodes_isQuoteName_3, r_Nodes_isQuoteName_6, r_Nodes_isQuoteName_9, r_Nodes_isQuoteName_10, r_Nodes_isQuoteName_13, r_Nodes_isQuoteName_14, r_Nodes_isQuoteName_15, r_Nodes_isQuoteName_18, r_Nodes_isQuoteName_19, r_Nodes_isQuoteName_22, r_Nodes_isQuoteName_23, r_Nodes_isQuoteName_24, r_Nodes_isQuoteName_25, r_Nodes_isQuoteName_26, r_Nodes_isQuoteName_27, r_Nodes_isQuoteName_30, r_Nodes_isQuoteName_31, r_Nodes_isQuoteName_34, r_Nodes_isQuoteName_35, r_Nodes_isQuoteName_36, r_Nodes_isQuoteName_37, r_Nodes_isQuoteName_40, r_Nodes_isQuoteName_43, r_Nodes_isQuoteName_44, r_Nodes_isQuoteName_45, r_Nodes_isQuoteName_48, r_Nodes_isQuoteName_49, r_Nodes_isQuoteName_50, r_Nodes_isQuoteName_53, r_Nodes_isQuoteName_56, r_Nodes_isQuoteName_57, ai_aload, ai_iload, ai_const, ai_callv3, am_push, am_few, ai_ifeq, ai_getf, ai_iald, ai_gets, ai_xlen, ai_cmpeq, ai_zret, ai_istore, am_cut_0, am_cut_s, am_c1, ai_cmpge, ai_xald, ai_iinc, ai_goto, kd_0, fd_0_0, fd_0_1, fd_0_2, fd_0_3, fd_0_4, kd_1, fd_1_0, fd_1_1, ln_2, kd_3, fd_3_0, fd_3_1, fd_3_2, fd_3_3, fd_3_4, fd_3_5, fd_3_6, fd_3_7, fd_3_8, fd_3_9, ln_4, ln_5, ln_6, ln_7, ln_8, ln_9, ln_10, kd_11, fd_11_0, fd_11_1, fd_11_2, fd_11_3, fd_11_4, kd_12, fd_12_0, fd_12_1, fd_12_2, fd_12_3, ln_13, ln_14, ln_15, kd_16, fd_16_0, fd_16_1, fd_16_2, ln_17, kd_18, fd_18_0, fd_18_1, kd_19, fd_19_0, fd_19_1, fd_19_2, fd_19_3, fd_19_4, fd_19_5, fd_19_6, fd_19_7, fd_19_8, fd_19_9, fd_19_10, fd_19_11, fd_19_12, fd_19_13, fd_19_14, fd_19_15, fd_19_16, fd_19_17, fd_19_18, fd_19_19, fd_19_20, ln_20, ln_21, ln_22, ln_23, ln_24, ln_25, ln_26, ln_27, ln_28, ln_29, ln_30, ln_31, ln_32, List.getElem?_cons_zero, List.getElem?_cons_succ, List.set_cons_zero, List.set_cons_succ, true_and, and_true, ↓reduceIte, Int32.reduceLT, Int32.reduceLE, li_10, or_true, true_or, ↓sp_Nodes_isOf, b2_0, c, Bool.true_eq_false, isN_in c]
      rw [c] at h
      by_cases c2 : M 5 (cl x) = 5
      · rw [if_pos (show M 5 (cl x) = Int32.ofNat 5 from c2)]
        simp only [c2, decide_true, Bool.true_and] at h
        exact lp_Nodes_isQuoteName hG 5 0 rfl h
      · rw [if_neg (show ¬ M 5 (cl x) = Int32.ofNat 5 from c2)]
        simp only [c2, decide_false, Bool.true_and, Bool.false_and] at h
        exact h
  · cases h
def n_quo (M : aM) (x : Int32) : Int32 := if isQ M (n_head M x) = true then (if isN M (n_tail M (n_tail M x)) 5 = true then n_head M (n_tail M x) else -1) else -1
def sp_Nodes_quotedIn : aS := fun as M K => match as with
  | [.ref a, .int x] => a = 3 ∧ K (some (.int (n_quo M x))) M
  | _ => False
set_option maxRecDepth 100000 in
set_option maxHeartbeats 4000000 in
theorem ok_Nodes_quotedIn {G : aG} (hG : am_ok G) : am_Sp G Y_Nodes_quotedIn 3 sp_Nodes_quotedIn := by
  intro as M K h
  unfold sp_Nodes_quotedIn at h
  split at h
  · next a x =>
    obtain ⟨rfl, h⟩ := h
    unfold n_quo at h
    refine am_entry hG (by decide +kernel) (Nat.le_of_ble_eq_true rfl) ?_
    refine am_go (cuts := k_Nodes_quotedIn) (tb_Nodes_quotedIn (ok_Nodes_tailOf hG) (by decide) (ok_Nodes_headOf hG) (by decide) (ok_Nodes_isQuoteName hG) (by decide) (ok_Nodes_isOf hG) (by decide)) 400 _ _ _ _ ?_
    change am_run _ _ _ _ _ _ [some (.ref 3), some (.int x), none] [] _
    simp only [r_Nodes_quotedIn_0, r_Nodes_quotedIn_1, r_Nodes_quotedIn_2, r_Nodes_quotedIn_5, r_Nodes_quotedIn_6, r_Nodes_quotedIn_7, r_Nodes_quotedIn_8, r_Nodes_quotedIn_9, r_Nodes_quotedIn_12, r_Nodes_quotedIn_15, r_Nodes_quotedIn_18, r_Nodes_quotedIn_19, r_Nodes_quotedIn_20, r_Nodes_quotedIn_21, r_Nodes_quotedIn_24, r_Nodes_quotedIn_25, r_Nodes_quotedIn_28, r_Nodes_quotedIn_31, r_Nodes_quotedIn_32, r_Nodes_quotedIn_33, r_Nodes_quotedIn_34, r_Nodes_quotedIn_35, r_Nodes_quotedIn_38, ai_aload, ai_iload, ai_callv2, am_push, am_few, ai_istore, am_cut_0, am_cut_s, am_c1, ai_ifeq, ai_const, ai_callv3, ai_ifne, ai_iret, kd_0, fd_0_0, fd_0_1, fd_0_2, fd_0_3, fd_0_4, kd_1, fd_1_0, fd_1_1, ln_2, kd_3, fd_3_0, fd_3_1, fd_3_2, fd_3_3, fd_3_4, fd_3_5, fd_3_6, fd_3_7, fd_3_8, fd_3_9, ln_4, ln_5, ln_6, ln_7, ln_8, ln_9, ln_10, kd_11, fd_11_0, fd_11_1, fd_11_2, fd_11_3, fd_11_4, kd_12, fd_12_0, fd_12_1, fd_12_2, fd_12_3, ln_13, ln_14, ln_15, kd_16, fd_16_0, fd_16_1, fd_16_2, ln_17, kd_18, fd_18_0, fd_18_1, kd_19, fd_19_0, fd_19_1, fd_19_2, fd_19_3, fd_19_4, fd_19_5, fd_19_6, fd_19_7, fd_19_8, fd_19_9, fd_19_10, fd_19_11, fd_19_12, fd_19_13, fd_19_14, fd_19_15, fd_19_16, fd_19_17, fd_19_18, fd_19_19, fd_19_20, ln_20, ln_21, ln_22, ln_23, ln_24, ln_25, ln_26, ln_27, ln_28, ln_29, ln_30, ln_31, ln_32, List.getElem?_cons_zero, List.getElem?_cons_succ, List.set_cons_zero, List.set_cons_succ, true_and, and_true, ↓reduceIte, Int32.reduceLT, Int32.reduceLE, li_10, or_true, true_or, ↓sp_Nodes_isOf, ↓sp_Nodes_tailOf, ↓sp_Nodes_headOf, ↓sp_Nodes_isQuoteName, b2_0]
    cases c1 : isQ M (n_head M x)
    · simp only [c1, Bool.false_eq_true, ↓reduceIte] at h ⊢; exact h
    · cases c2 : isN M (n_tail M (n_tail M x)) 5
      · simp only [c1, c2, Bool.false_eq_true, Bool.true_eq_false, ↓reduceIte] at h ⊢; exact h
      · simp only [c1, c2, Bool.true_eq_false, ↓reduceIte] at h ⊢; exact h
  · cases h
def sameL (M : aM) (x y : Int32) : Nat → Nat → Bool
  | 0, _ => true
  | r + 1, k => decide (n_byte M x (nI k) = n_byte M y (nI k)) && sameL M x y r (k + 1)
def n_same (M : aM) (x y : Int32) : Bool := decide (n_amt M x = n_amt M y) && (isN M x 1 || sameL M x y (cl (n_amt M x)) 0)
def sp_Nodes_sameContent : aS := fun as M K => match as with
  | [.ref a, .int x, .int y] => a = 3 ∧ K (some (.int (b2 (n_same M x y)))) M
  | _ => False
theorem cl_lt (x : Int32) : cl x < 2 ^ 31 := by
  have h := Int32.toInt_lt x
  unfold cl
  rw [Int32.toNatClampNeg]
  omega
theorem lt_cl {k : Nat} {x : Int32} (hk : k < 2 ^ 31) : (nI k < x) = (k < cl x) := by
  by_cases h0 : x < 0
  · have h1 : ¬ nI k < x := fun q => nI_pos hk (Int32.lt_trans q h0)
    have h2 : cl x = 0 := by
      have : x.toInt < 0 := by simpa [Int32.lt_iff_toInt_lt] using h0
      unfold cl
      rw [Int32.toNatClampNeg]
      omega
    simp [h1, h2]
  · obtain ⟨j, hj, rfl⟩ := nI_of h0
    rw [show cl (nI j) = j from nI_clamp hj]
    exact propext (nI_ltI hk hj)
set_option maxRecDepth 100000 in
set_option maxHeartbeats 4000000 in
theorem lp_Nodes_sameContent {G : aG} (hG : am_ok G) {K : aR} {M : aM} {x y am : Int32} : ∀ (r k : Nat), cl am - k = r → k ≤ cl am → K (some (.int (b2 (sameL M x y r k)))) M → am_X G Y_Nodes_sameContent 2 K 31 [some (.ref 3), some (.int x), some (.int y), some (.int am), some (.int (nI k))] [] M := by
  intro r
  have hcl := cl_lt am
  induction r with
  | zero =>
    intro k hk hk2 h
    have e1 : ¬ nI k < am := by rw [lt_cl (by omega)]; omega
    refine am_from (tb_Nodes_sameContent (ok_Nodes_amountOf hG) (by decide) (ok_Nodes_isOf hG) (by decide) (ok_Nodes_byteOf hG) (by decide)) k_Nodes_sameContent 400 ?_
    simp only [q_Nodes_sameContent_31, r_Nodes_sameContent_0, r_Nodes_sameContent_1, r_Nodes_sameContent_2, r_Nodes_sameContent_5, r_Nodes_sameContent_6, r_Nodes_sameContent_7, r_Nodes_sameContent_8, r_Nodes_sameContent_9, r_Nodes_sameContent_12, r_Nodes_sameContent_15, r_Nodes_sameContent_16, r_Nodes_sameContent_17, r_Nodes_sameContent_18, r_Nodes_sameContent_19, r_Nodes_sameContent_20, r_Nodes_sameContent_23, r_Nodes_sameContent_26, r_Nodes_sameContent_27, r_Nodes_sameContent_28, r_Nodes_sameContent_29, r_Nodes_sameContent_31, r_Nodes_sameContent_33, r_Nodes_sameContent_34, r_Nodes_sameContent_37, r_Nodes_sameContent_38, r_Nodes_sameContent_39, r_Nodes_sameContent_41, r_Nodes_sameContent_44, r_Nodes_sameContent_45, r_Nodes_sameContent_46, r_Nodes_sameContent_48, r_Nodes_sameContent_51, r_Nodes_sameContent_54, r_Nodes_sameContent_55, r_Nodes_sameContent_56, r_Nodes_sameContent_59, r_Nodes_sameContent_62, r_Nodes_sameContent_63, ai_aload, ai_iload, ai_callv2, am_push, am_few, ai_istore, am_cut_0, am_cut_s, am_c1, ai_cmpeq, ai_const, ai_zret, ai_callv3, ai_ifeq, ai_cmpge, ai_iinc, ai_goto, kd_0, fd_0_0, fd_0_1, fd_0_2, fd_0_3, fd_0_4, kd_1, fd_1_0, fd_1_1, ln_2, kd_3, fd_3_0, fd_3_1, fd_3_2, fd_3_3, fd_3_4, fd_3_5, fd_3_6, fd_3_7, fd_3_8, fd_3_9, ln_4, ln_5, ln_6, ln_7, ln_8, ln_9, ln_10, kd_11, fd_11_0, fd_11_1, fd_11_2, fd_11_3, fd_11_4, kd_12, fd_12_0, fd_12_1, fd_12_2, fd_12_3, ln_13, ln_14, ln_15, kd_16, fd_16_0, fd_16_1, fd_16_2, ln_17, kd_18, fd_18_0, fd_18_1, kd_19, fd_19_0, fd_19_1, fd_19_2, fd_19_3, fd_19_4, fd_19_5, fd_19_6, fd_19_7, fd_19_8, fd_19_9, fd_19_10, fd_19_11, fd_19_12, fd_19_13, fd_19_14, fd_19_15, fd_19_16, fd_19_17, fd_19_18, fd_19_19, fd_19_20, ln_20, ln_21, ln_22, ln_23, ln_24, ln_25, ln_26, ln_27, ln_28, ln_29, ln_30, ln_31, ln_32, List.getElem?_cons_zero, List.getElem?_cons_succ, List.set_cons_zero, List.set_cons_succ, true_and, and_true, ↓reduceIte, Int32.reduceLT, Int32.reduceLE, li_10, or_true, true_or, e1]
    exact h
  | succ r ih =>
    intro k hk hk2 h
    have e1 : nI k < am := by rw [lt_cl (by omega)]; omega
    refine am_from (tb_Nodes_sameContent (ok_Nodes_amountOf hG) (by decide) (ok_Nodes_isOf hG) (by decide) (ok_Nodes_byteOf hG) (by decide)) k_Nodes_sameContent 400 ?_
    simp only [q_Nodes_sameContent_31, r_Nodes_sameContent_0, r_Nodes_sameContent_1, r_Nodes_sameContent_2, r_Nodes_sameContent_5, r_Nodes_sameContent_6, r_Nodes_sameContent_7, r_Nodes_sameContent_8, r_Nodes_sameContent_9, r_Nodes_sameContent_12, r_Nodes_sameContent_15, r_Nodes_sameContent_16, r_Nodes_sameContent_17, r_Nodes_sameContent_18, r_Nodes_sameContent_19, r_Nodes_sameContent_20, r_Nodes_sameContent_23, r_Nodes_sameContent_26, r_Nodes_sameContent_27, r_Nodes_sameContent_28, r_Nodes_sameContent_29, r_Nodes_sameContent_31, r_Nodes_sameContent_33, r_Nodes_sameContent_34, r_Nodes_sameContent_37, r_Nodes_sameContent_38, r_Nodes_sameContent_39, r_Nodes_sameContent_41, r_Nodes_sameContent_44, r_Nodes_sameContent_45, r_Nodes_sameContent_46, r_Nodes_sameContent_48, r_Nodes_sameContent_51, r_Nodes_sameContent_54, r_Nodes_sameContent_55, r_Nodes_sameContent_56, r_Nodes_sameContent_59, r_Nodes_sameContent_62, r_Nodes_sameContent_63, ai_aload, ai_iload, ai_callv2, am_push, am_few, ai_istore, am_cut_0, am_cut_s, am_c1, ai_cmpeq, ai_const, ai_zret, ai_callv3, ai_ifeq, ai_cmpge, ai_iinc, ai_goto, kd_0, fd_0_0, fd_0_1, fd_0_2, fd_0_3, fd_0_4, kd_1, fd_1_0, fd_1_1, ln_2, kd_3, fd_3_0, fd_3_1, fd_3_2, fd_3_3, fd_3_4, fd_3_5, fd_3_6, fd_3_7, fd_3_8, fd_3_9, ln_4, ln_5, ln_6, ln_7, ln_8, ln_9, ln_10, kd_11, fd_11_0, fd_11_1, fd_11_2, fd_11_3, fd_11_4, kd_12, fd_12_0, fd_12_1, fd_12_2, fd_12_3, ln_13, ln_14, ln_15, kd_16, fd_16_0, fd_16_1, fd_16_2, ln_17, kd_18, fd_18_0, fd_18_1, kd_19, fd_19_0, fd_19_1, fd_19_2, fd_19_3, fd_19_4, fd_19_5, fd_19_6, fd_19_7, fd_19_8, fd_19_9, fd_19_10, fd_19_11, fd_19_12, fd_19_13, fd_19_14, fd_19_15, fd_19_16, fd_19_17, fd_19_18, fd_19_19, fd_19_20, ln_20, ln_21, ln_22, ln_23, ln_24, ln_25, ln_26, ln_27, ln_28, ln_29, ln_30, ln_31, ln_32, List.getElem?_cons_zero, List.getElem?_cons_succ, List.set_cons_zero, List.set_cons_succ, true_and, and_true, ↓reduceIte, Int32.reduceLT, Int32.reduceLE, li_10, or_true, true_or, ↓sp_Nodes_byteOf, e1, nI_1]
    simp only [sameL] at h
    have g := ih (k + 1) (by omega) (by omega)
    by_cases c : n_byte M x (nI k) = n_byte M y (nI k)
    · simp only [c, ↓reduceIte, decide_true, Bool.true_and] at h ⊢; exact g h
    · simp only [c, ↓reduceIte, decide_false, Bool.false_and] at h ⊢; exact h
set_option maxRecDepth 100000 in
set_option maxHeartbeats 4000000 in
theorem ok_Nodes_sameContent {G : aG} (hG : am_ok G) : am_Sp G Y_Nodes_sameContent 2 sp_Nodes_sameContent := by
  intro as M K h
  unfold sp_Nodes_sameContent at h
  split at h
  · next a x y =>
    obtain ⟨rfl, h⟩ := h
    unfold n_same at h
    refine am_entry hG (by decide +kernel) (Nat.le_of_ble_eq_true rfl) ?_
    refine am_go (cuts := k_Nodes_sameContent) (tb_Nodes_sameContent (ok_Nodes_amountOf hG) (by decide) (ok_Nodes_isOf hG) (by decide) (ok_Nodes_byteOf hG) (by decide)) 400 _ _ _ _ ?_
    change am_run _ _ _ _ _ _ [some (.ref 3), some (.int x), some (.int y), none, none] [] _
    simp only [q_Nodes_sameContent_31, r_Nodes_sameContent_0, r_Nodes_sameContent_1, r_Nodes_sameContent_2, r_Nodes_sameContent_5, r_Nodes_sameContent_6, r_Nodes_sameContent_7, r_Nodes_sameContent_8, r_Nodes_sameContent_9, r_Nodes_sameContent_12, r_Nodes_sameContent_15, r_Nodes_sameContent_16, r_Nodes_sameContent_17, r_Nodes_sameContent_18, r_Nodes_sameContent_19, r_Nodes_sameContent_20, r_Nodes_sameContent_23, r_Nodes_sameContent_26, r_Nodes_sameContent_27, r_Nodes_sameContent_28, r_Nodes_sameContent_29, r_Nodes_sameContent_31, r_Nodes_sameContent_33, r_Nodes_sameContent_34, r_Nodes_sameContent_37, r_Nodes_sameContent_38, r_Nodes_sameContent_39, r_Nodes_sameContent_41, r_Nodes_sameContent_44, r_Nodes_sameContent_45, r_Nodes_sameContent_46, r_Nodes_sameContent_48, r_Nodes_sameContent_51, r_Nodes_sameContent_54, r_Nodes_sameContent_55, r_Nodes_sameContent_56, r_Nodes_sameContent_59, r_Nodes_sameContent_62, r_Nodes_sameContent_63, ai_aload, ai_iload, ai_callv2, am_push, am_few, ai_istore, am_cut_0, am_cut_s, am_c1, ai_cmpeq, ai_const, ai_zret, ai_callv3, ai_ifeq, ai_cmpge, ai_iinc, ai_goto, kd_0, fd_0_0, fd_0_1, fd_0_2, fd_0_3, fd_0_4, kd_1, fd_1_0, fd_1_1, ln_2, kd_3, fd_3_0, fd_3_1, fd_3_2, fd_3_3, fd_3_4, fd_3_5, fd_3_6, fd_3_7, fd_3_8, fd_3_9, ln_4, ln_5, ln_6, ln_7, ln_8, ln_9, ln_10, kd_11, fd_11_0, fd_11_1, fd_11_2, fd_11_3, fd_11_4, kd_12, fd_12_0, fd_12_1, fd_12_2, fd_12_3, ln_13, ln_14, ln_15, kd_16, fd_16_0, fd_16_1, fd_16_2, ln_17, kd_18, fd_18_0, fd_18_1, kd_19, fd_19_0, fd_19_1, fd_19_2, fd_19_3, fd_19_4, fd_19_5, fd_19_6, fd_19_7, fd_19_8, fd_19_9, fd_19_10, fd_19_11, fd_19_12, fd_19_13, fd_19_14, fd_19_15, fd_19_16, fd_19_17, fd_19_18, fd_19_19, fd_19_20, ln_20, ln_21, ln_22, ln_23, ln_24, ln_25, ln_26, ln_27, ln_28, ln_29, ln_30, ln_31, ln_32, List.getElem?_cons_zero, List.getElem?_cons_succ, List.set_cons_zero, List.set_cons_succ, true_and, and_true, ↓reduceIte, Int32.reduceLT, Int32.reduceLE, li_10, or_true, true_or, ↓sp_Nodes_amountOf, ↓sp_Nodes_isOf, b2_0]
    by_cases c1 : n_amt M x = n_amt M y
    · cases c2 : isN M x 1
      · simp only [c1, c2, ↓reduceIte, decide_true, Bool.true_and, Bool.false_or] at h ⊢
        exact lp_Nodes_sameContent hG (cl (n_amt M y)) 0 (by omega) (Nat.zero_le _) h
      · simp only [c1, c2, ↓reduceIte, decide_true, Bool.true_and, Bool.true_or, Bool.true_eq_false] at h ⊢
        exact h
    · simp only [c1, ↓reduceIte, decide_false, Bool.false_and] at h ⊢
      exact h
  · cases h
/-- likeness: a run along the tails, at most r; f says it of the heads -/
def alL (M : aM) (f : Int32 → Int32 → Bool) : Nat → Int32 → Int32 → Bool
  | 0, _, _ => false
  | r + 1, x, y => if (isN M x 4 && isN M y 4) = true then (f (M 7 (cl x)) (M 7 (cl y)) && alL M f r (M 8 (cl x)) (M 8 (cl y))) else (decide (n_kind M x = n_kind M y) && n_same M x y)
def alk (M : aM) : Nat → Int32 → Int32 → Bool
  | 0, _, _ => false
  | j + 1, x, y => alL M (alk M j) 200 x y
def sp_Nodes_alike (j : Nat) : aS := fun as M K => match as with
  | [.ref a, .int x, .int y, .int d] => a = 3 ∧ (d = nI (16 - j) ∧ j ≤ 16) ∧ K (some (.int (b2 (alk M j x y)))) M
  | _ => False
set_option maxRecDepth 100000 in
set_option maxHeartbeats 4000000 in
theorem lp_Nodes_alike {G : aG} (hG : am_ok G) {K : aR} {M : aM} {x0 y0 : Int32} {j : Nat} (hj : j + 1 ≤ 16) (hI : am_Sp G Y_Nodes_alike (3 + j) (sp_Nodes_alike j)) : ∀ (r k : Nat) (x y : Int32), k + r = 200 → K (some (.int (b2 (alL M (alk M j) r x y)))) M → am_X G Y_Nodes_alike (3 + (j + 1)) K 17 [some (.ref 3), some (.int x0), some (.int y0), some (.int (nI (16 - (j + 1)))), some (.int x), some (.int y), some (.int (nI k))] [] M := by
  intro r
  induction r with
  | zero =>
    intro k x y hk h
    have e1 : ¬ nI k < 200 := nI_nlt (b := 200) (a := k) (by omega) (by omega)
    refine am_from (tb_Nodes_alike (ok_Nodes_isOf hG) (by omega) (ok_Nodes_kindOf hG) (by omega) (ok_Nodes_sameContent hG) (by omega) hI (by omega)) k_Nodes_alike 400 ?_
    simp only [q_Nodes_alike_17, r_Nodes_alike_0, r_Nodes_alike_1, r_Nodes_alike_3, r_Nodes_alike_6, r_Nodes_alike_7, r_Nodes_alike_8, r_Nodes_alike_9, r_Nodes_alike_11, r_Nodes_alike_12, r_Nodes_alike_14, r_Nodes_alike_15, r_Nodes_alike_17, r_Nodes_alike_19, r_Nodes_alike_22, r_Nodes_alike_25, r_Nodes_alike_26, r_Nodes_alike_28, r_Nodes_alike_29, r_Nodes_alike_32, r_Nodes_alike_35, r_Nodes_alike_36, r_Nodes_alike_38, r_Nodes_alike_39, r_Nodes_alike_42, r_Nodes_alike_45, r_Nodes_alike_46, r_Nodes_alike_48, r_Nodes_alike_51, r_Nodes_alike_52, r_Nodes_alike_54, r_Nodes_alike_57, r_Nodes_alike_60, r_Nodes_alike_61, r_Nodes_alike_63, r_Nodes_alike_65, r_Nodes_alike_68, r_Nodes_alike_71, r_Nodes_alike_72, r_Nodes_alike_75, r_Nodes_alike_76, r_Nodes_alike_77, r_Nodes_alike_78, r_Nodes_alike_79, r_Nodes_alike_82, r_Nodes_alike_84, r_Nodes_alike_85, r_Nodes_alike_86, r_Nodes_alike_89, r_Nodes_alike_91, r_Nodes_alike_92, r_Nodes_alike_93, r_Nodes_alike_94, r_Nodes_alike_95, r_Nodes_alike_98, r_Nodes_alike_101, r_Nodes_alike_102, r_Nodes_alike_103, r_Nodes_alike_104, r_Nodes_alike_107, r_Nodes_alike_109, r_Nodes_alike_110, r_Nodes_alike_112, r_Nodes_alike_113, r_Nodes_alike_116, r_Nodes_alike_118, r_Nodes_alike_119, r_Nodes_alike_121, r_Nodes_alike_124, r_Nodes_alike_127, r_Nodes_alike_128, ai_iload, ai_const, ai_cmple, ai_zret, ai_istore, am_cut_0, am_cut_s, am_c1, ai_cmpge, ai_aload, ai_callv3, am_push, am_few, ai_ifeq, ai_ifne, ai_callv2, ai_cmpne, ai_goto, ai_getf, ai_iald, ai_iadd, ai_bin, ai_callv4, ai_iinc, kd_0, fd_0_0, fd_0_1, fd_0_2, fd_0_3, fd_0_4, kd_1, fd_1_0, fd_1_1, ln_2, kd_3, fd_3_0, fd_3_1, fd_3_2, fd_3_3, fd_3_4, fd_3_5, fd_3_6, fd_3_7, fd_3_8, fd_3_9, ln_4, ln_5, ln_6, ln_7, ln_8, ln_9, ln_10, kd_11, fd_11_0, fd_11_1, fd_11_2, fd_11_3, fd_11_4, kd_12, fd_12_0, fd_12_1, fd_12_2, fd_12_3, ln_13, ln_14, ln_15, kd_16, fd_16_0, fd_16_1, fd_16_2, ln_17, kd_18, fd_18_0, fd_18_1, kd_19, fd_19_0, fd_19_1, fd_19_2, fd_19_3, fd_19_4, fd_19_5, fd_19_6, fd_19_7, fd_19_8, fd_19_9, fd_19_10, fd_19_11, fd_19_12, fd_19_13, fd_19_14, fd_19_15, fd_19_16, fd_19_17, fd_19_18, fd_19_19, fd_19_20, ln_20, ln_21, ln_22, ln_23, ln_24, ln_25, ln_26, ln_27, ln_28, ln_29, ln_30, ln_31, ln_32, List.getElem?_cons_zero, List.getElem?_cons_succ, List.set_cons_zero, List.set_cons_succ, true_and, and_true, ↓reduceIte, Int32.reduceLT, Int32.reduceLE, li_10, or_true, true_or, e1]
    exact h
  | succ r ih =>
    intro k x y hk h
    have e1 : nI k < 200 := nI_lt (b := 200) (by omega) (by decide)
    have e3 : nI (16 - (j + 1)) + 1 = nI (16 - j) := by rw [nI_1, show 16 - (j + 1) + 1 = 16 - j by omega]
    refine am_from (tb_Nodes_alike (ok_Nodes_isOf hG) (by omega) (ok_Nodes_kindOf hG) (by omega) (ok_Nodes_sameContent hG) (by omega) hI (by omega)) k_Nodes_alike 400 ?_
    simp only [q_Nodes_alike_17, r_Nodes_alike_0, r_Nodes_alike_1, r_Nodes_alike_3, r_Nodes_alike_6, r_Nodes_alike_7, r_Nodes_alike_8, r_Nodes_alike_9, r_Nodes_alike_11, r_Nodes_alike_12, r_Nodes_alike_14, r_Nodes_alike_15, r_Nodes_alike_17, r_Nodes_alike_19, r_Nodes_alike_22, r_Nodes_alike_25, r_Nodes_alike_26, r_Nodes_alike_28, r_Nodes_alike_29, r_Nodes_alike_32, r_Nodes_alike_35, r_Nodes_alike_36, r_Nodes_alike_38, r_Nodes_alike_39, r_Nodes_alike_42, r_Nodes_alike_45, r_Nodes_alike_46, r_Nodes_alike_48, r_Nodes_alike_51, r_Nodes_alike_52, r_Nodes_alike_54, r_Nodes_alike_57, r_Nodes_alike_60, r_Nodes_alike_61, r_Nodes_alike_63, r_Nodes_alike_65, r_Nodes_alike_68, r_Nodes_alike_71, r_Nodes_alike_72, r_Nodes_alike_75, r_Nodes_alike_76, r_Nodes_alike_77, r_Nodes_alike_78, r_Nodes_alike_79, r_Nodes_alike_82, r_Nodes_alike_84, r_Nodes_alike_85, r_Nodes_alike_86, r_Nodes_alike_89, r_Nodes_alike_91, r_Nodes_alike_92, r_Nodes_alike_93, r_Nodes_alike_94, r_Nodes_alike_95, r_Nodes_alike_98, r_Nodes_alike_101, r_Nodes_alike_102, r_Nodes_alike_103, r_Nodes_alike_104, r_Nodes_alike_107, r_Nodes_alike_109, r_Nodes_alike_110, r_Nodes_alike_112, r_Nodes_alike_113, r_Nodes_alike_116, r_Nodes_alike_118, r_Nodes_alike_119, r_Nodes_alike_121, r_Nodes_alike_124, r_Nodes_alike_127, r_Nodes_alike_128, ai_iload, ai_const, ai_cmple, ai_zret, ai_istore, am_cut_0, am_cut_s, am_c1, ai_cmpge, ai_aload, ai_callv3, am_push, am_few, ai_ifeq, ai_ifne, ai_callv2, ai_cmpne, ai_goto, ai_getf, ai_iald, ai_iadd, ai_bin, ai_callv4, ai_iinc, kd_0, fd_0_0, fd_0_1, fd_0_2, fd_0_3, fd_0_4, kd_1, fd_1_0, fd_1_1, ln_2, kd_3, fd_3_0, fd_3_1, fd_3_2, fd_3_3, fd_3_4, fd_3_5, fd_3_6, fd_3_7, fd_3_8, fd_3_9, ln_4, ln_5, ln_6, ln_7, ln_8, ln_9, ln_10, kd_11, fd_11_0, fd_11_1, fd_11_2, fd_11_3, fd_11_4, kd_12, fd_12_0, fd_12_1, fd_12_2, fd_12_3, ln_13, ln_14, ln_15, kd_16, fd_16_0, fd_16_1, fd_16_2, ln_17, kd_18, fd_18_0, fd_18_1, kd_19, fd_19_0, fd_19_1, fd_19_2, fd_19_3, fd_19_4, fd_19_5, fd_19_6, fd_19_7, fd_19_8, fd_19_9, fd_19_10, fd_19_11, fd_19_12, fd_19_13, fd_19_14, fd_19_15, fd_19_16, fd_19_17, fd_19_18, fd_19_19, fd_19_20, ln_20, ln_21, ln_22, ln_23, ln_24, ln_25, ln_26, ln_27, ln_28, ln_29, ln_30, ln_31, ln_32, List.getElem?_cons_zero, List.getElem?_cons_succ, List.set_cons_zero, List.set_cons_succ, true_and, and_true, ↓reduceIte, Int32.reduceLT, Int32.reduceLE, li_10, or_true, true_or, ↓sp_Nodes_isOf, ↓sp_Nodes_kindOf, ↓sp_Nodes_sameContent, ↓sp_Nodes_alike, e1, e3, nI_1, b2_0]
    simp only [alL] at h
    have g := ih (k + 1) (M 8 (cl x)) (M 8 (cl y)) (by omega)
    cases c1 : isN M x 4
    · simp only [c1, Bool.false_and, Bool.false_eq_true, ↓reduceIte] at h ⊢
      by_cases c3 : n_kind M x = n_kind M y
      · cases c4 : n_same M x y
        · simp only [c3, c4, decide_true, Bool.true_and, ↓reduceIte] at h ⊢; exact h
        · simp only [c3, c4, decide_true, Bool.true_and, ↓reduceIte, Bool.true_eq_false] at h ⊢; exact h
      · simp only [c3, decide_false, Bool.false_and, ↓reduceIte] at h ⊢; exact h
    · cases c2 : isN M y 4
      · simp only [c1, c2, Bool.and_false, Bool.false_eq_true, Bool.true_eq_false, ↓reduceIte] at h ⊢
        by_cases c3 : n_kind M x = n_kind M y
        · cases c4 : n_same M x y
          · simp only [c3, c4, decide_true, Bool.true_and, ↓reduceIte] at h ⊢; exact h
          · simp only [c3, c4, decide_true, Bool.true_and, ↓reduceIte, Bool.true_eq_false] at h ⊢; exact h
        · simp only [c3, decide_false, Bool.false_and, ↓reduceIte] at h ⊢; exact h
      · simp only [c1, c2, Bool.and_true, Bool.true_eq_false, ↓reduceIte] at h ⊢
        refine ⟨isN_in c1, isN_in c2, by omega, ?_⟩
        cases c5 : alk M j (M 7 (cl x)) (M 7 (cl y))
        · simp only [c5, Bool.false_and, ↓reduceIte] at h ⊢; exact h
        · simp only [c5, Bool.true_and, Bool.true_eq_false, ↓reduceIte] at h ⊢
          exact ⟨isN_in c1, isN_in c2, g h⟩
set_option maxRecDepth 100000 in
set_option maxHeartbeats 4000000 in
theorem ok_Nodes_alike {G : aG} (hG : am_ok G) : ∀ j, am_Sp G Y_Nodes_alike (3 + j) (sp_Nodes_alike j) := by
  intro j
  induction j with
  | zero =>
    intro as M K h
    unfold sp_Nodes_alike at h
    split at h
    · next a x y d =>
      obtain ⟨rfl, ⟨rfl, -⟩, h⟩ := h
      have e1 : (15 : Int32) < nI (16 - 0) := by decide
      refine am_entry hG (by decide +kernel) (Nat.le_of_ble_eq_true rfl) ?_
      refine am_go (cuts := k_Nodes_alike) (tb_Nodes_alike (ok_Nodes_isOf hG) (by omega) (ok_Nodes_kindOf hG) (by omega) (ok_Nodes_sameContent hG) (by omega) (s_Nodes_alike := fun _ _ _ => False) (d_Nodes_alike := 0) (fun _ _ _ q => q.elim) (by omega)) 400 _ _ _ _ ?_
      change am_run _ _ _ _ _ _ [some (.ref 3), some (.int x), some (.int y), some (.int (nI (16 - 0))), none, none, none] [] _
      simp only [q_Nodes_alike_17, r_Nodes_alike_0, r_Nodes_alike_1, r_Nodes_alike_3, r_Nodes_alike_6, r_Nodes_alike_7, r_Nodes_alike_8, r_Nodes_alike_9, r_Nodes_alike_11, r_Nodes_alike_12, r_Nodes_alike_14, r_Nodes_alike_15, r_Nodes_alike_17, r_Nodes_alike_19, r_Nodes_alike_22, r_Nodes_alike_25, r_Nodes_alike_26, r_Nodes_alike_28, r_Nodes_alike_29, r_Nodes_alike_32, r_Nodes_alike_35, r_Nodes_alike_36, r_Nodes_alike_38, r_Nodes_alike_39, r_Nodes_alike_42, r_Nodes_alike_45, r_Nodes_alike_46, r_Nodes_alike_48, r_Nodes_alike_51, r_Nodes_alike_52, r_Nodes_alike_54, r_Nodes_alike_57, r_Nodes_alike_60, r_Nodes_alike_61, r_Nodes_alike_63, r_Nodes_alike_65, r_Nodes_alike_68, r_Nodes_alike_71, r_Nodes_alike_72, r_Nodes_alike_75, r_Nodes_alike_76, r_Nodes_alike_77, r_Nodes_alike_78, r_Nodes_alike_79, r_Nodes_alike_82, r_Nodes_alike_84, r_Nodes_alike_85, r_Nodes_alike_86, r_Nodes_alike_89, r_Nodes_alike_91, r_Nodes_alike_92, r_Nodes_alike_93, r_Nodes_alike_94, r_Nodes_alike_95, r_Nodes_alike_98, r_Nodes_alike_101, r_Nodes_alike_102, r_Nodes_alike_103, r_Nodes_alike_104, r_Nodes_alike_107, r_Nodes_alike_109, r_Nodes_alike_110, r_Nodes_alike_112, r_Nodes_alike_113, r_Nodes_alike_116, r_Nodes_alike_118, r_Nodes_alike_119, r_Nodes_alike_121, r_Nodes_alike_124, r_Nodes_alike_127, r_Nodes_alike_128, ai_iload, ai_const, ai_cmple, ai_zret, ai_istore, am_cut_0, am_cut_s, am_c1, ai_cmpge, ai_aload, ai_callv3, am_push, am_few, ai_ifeq, ai_ifne, ai_callv2, ai_cmpne, ai_goto, ai_getf, ai_iald, ai_iadd, ai_bin, ai_callv4, ai_iinc, kd_0, fd_0_0, fd_0_1, fd_0_2, fd_0_3, fd_0_4, kd_1, fd_1_0, fd_1_1, ln_2, kd_3, fd_3_0, fd_3_1, fd_3_2, fd_3_3, fd_3_4, fd_3_5, fd_3_6, fd_3_7, fd_3_8, fd_3_9, ln_4, ln_5, ln_6, ln_7, ln_8, ln_9, ln_10, kd_11, fd_11_0, fd_11_1, fd_11_2, fd_11_3, fd_11_4, kd_12, fd_12_0, fd_12_1, fd_12_2, fd_12_3, ln_13, ln_14, ln_15, kd_16, fd_16_0, fd_16_1, fd_16_2, ln_17, kd_18, fd_18_0, fd_18_1, kd_19, fd_19_0, fd_19_1, fd_19_2, fd_19_3, fd_19_4, fd_19_5, fd_19_6, fd_19_7, fd_19_8, fd_19_9, fd_19_10, fd_19_11, fd_19_12, fd_19_13, fd_19_14, fd_19_15, fd_19_16, fd_19_17, fd_19_18, fd_19_19, fd_19_20, ln_20, ln_21, ln_22, ln_23, ln_24, ln_25, ln_26, ln_27, ln_28, ln_29, ln_30, ln_31, ln_32, List.getElem?_cons_zero, List.getElem?_cons_succ, List.set_cons_zero, List.set_cons_succ, true_and, and_true, ↓reduceIte, Int32.reduceLT, Int32.reduceLE, li_10, or_true, true_or, e1]
      exact h
    · cases h
  | succ j ih =>
    intro as M K h
    unfold sp_Nodes_alike at h
    split at h
    · next a x y d =>
      obtain ⟨rfl, ⟨rfl, hj⟩, h⟩ := h
      have e1 : ¬ (15 : Int32) < nI (16 - (j + 1)) := nI_nlt (a := 15) (b := 16 - (j + 1)) (by omega) (by decide)
      refine am_entry hG (by decide +kernel) (Nat.le_of_ble_eq_true rfl) ?_
      refine am_go (cuts := k_Nodes_alike) (tb_Nodes_alike (ok_Nodes_isOf hG) (by omega) (ok_Nodes_kindOf hG) (by omega) (ok_Nodes_sameContent hG) (by omega) ih (by omega)) 400 _ _ _ _ ?_
      change am_run _ _ _ _ _ _ [some (.ref 3), some (.int x), some (.int y), some (.int (nI (16 - (j + 1)))), none, none, none] [] _
      simp only [q_Nodes_alike_17, r_Nodes_alike_0, r_Nodes_alike_1, r_Nodes_alike_3, r_Nodes_alike_6, r_Nodes_alike_7, r_Nodes_alike_8, r_Nodes_alike_9, r_Nodes_alike_11, r_Nodes_alike_12, r_Nodes_alike_14, r_Nodes_alike_15, r_Nodes_alike_17, r_Nodes_alike_19, r_Nodes_alike_22, r_Nodes_alike_25, r_Nodes_alike_26, r_Nodes_alike_28, r_Nodes_alike_29, r_Nodes_alike_32, r_Nodes_alike_35, r_Nodes_alike_36, r_Nodes_alike_38, r_Nodes_alike_39, r_Nodes_alike_42, r_Nodes_alike_45, r_Nodes_alike_46, r_Nodes_alike_48, r_Nodes_alike_51, r_Nodes_alike_52, r_Nodes_alike_54, r_Nodes_alike_57, r_Nodes_alike_60, r_Nodes_alike_61, r_Nodes_alike_63, r_Nodes_alike_65, r_Nodes_alike_68, r_Nodes_alike_71, r_Nodes_alike_72, r_Nodes_alike_75, r_Nodes_alike_76, r_Nodes_alike_77, r_Nodes_alike_78, r_Nodes_alike_79, r_Nodes_alike_82, r_Nodes_alike_84, r_Nodes_alike_85, r_Nodes_alike_86, r_Nodes_alike_89, r_Nodes_alike_91, r_Nodes_alike_92, r_Nodes_alike_93, r_Nodes_alike_94, r_Nodes_alike_95, r_Nodes_alike_98, r_Nodes_alike_101, r_Nodes_alike_102, r_Nodes_alike_103, r_Nodes_alike_104, r_Nodes_alike_107, r_Nodes_alike_109, r_Nodes_alike_110, r_Nodes_alike_112, r_Nodes_alike_113, r_Nodes_alike_116, r_Nodes_alike_118, r_Nodes_alike_119, r_Nodes_alike_121, r_Nodes_alike_124, r_Nodes_alike_127, r_Nodes_alike_128, ai_iload, ai_const, ai_cmple, ai_zret, ai_istore, am_cut_0, am_cut_s, am_c1, ai_cmpge, ai_aload, ai_callv3, am_push, am_few, ai_ifeq, ai_ifne, ai_callv2, ai_cmpne, ai_goto, ai_getf, ai_iald, ai_iadd, ai_bin, ai_callv4, ai_iinc, kd_0, fd_0_0, fd_0_1, fd_0_2, fd_0_3, fd_0_4, kd_1, fd_1_0, fd_1_1, ln_2, kd_3, fd_3_0, fd_3_1, fd_3_2, fd_3_3, fd_3_4, fd_3_5, fd_3_6, fd_3_7, fd_3_8, fd_3_9, ln_4, ln_5, ln_6, ln_7, ln_8, ln_9, ln_10, kd_11, fd_11_0, fd_11_1, fd_11_2, fd_11_3, fd_11_4, kd_12, fd_12_0, fd_12_1, fd_12_2, fd_12_3, ln_13, ln_14, ln_15, kd_16, fd_16_0, fd_16_1, fd_16_2, ln_17, kd_18, fd_18_0, fd_18_1, kd_19, fd_19_0, fd_19_1, fd_19_2, fd_19_3, fd_19_4, fd_19_5, fd_19_6, fd_19_7, fd_19_8, fd_19_9, fd_19_10, fd_19_11, fd_19_12, fd_19_13, fd_19_14, fd_19_15, fd_19_16, fd_19_17, fd_19_18, fd_19_19, fd_19_20, ln_20, ln_21, ln_22, ln_23, ln_24, ln_25, ln_26, ln_27, ln_28, ln_29, ln_30, ln_31, ln_32, List.getElem?_cons_zero, List.getElem?_cons_succ, List.set_cons_zero, List.set_cons_succ, true_and, and_true, ↓reduceIte, Int32.reduceLT, Int32.reduceLE, li_10, or_true, true_or, e1]
      exact lp_Nodes_alike hG hj ih 200 0 x y rfl h
    · cases h
end
section
/-! WHAT WAITS: a ring -/
def wf (M : aM) : Nat := cl (M 16 1)
def ww (M : aM) : Nat := cl (M 16 2)
def wt_ok (M : aM) : Prop := M 16 1 = nI (wf M) ∧ wf M < 500 ∧ M 16 2 = nI (ww M) ∧ ww M ≤ 500
def wix (M : aM) (k : Nat) : Nat := if wf M + k < 500 then wf M + k else wf M + k - 500
def sayM (M : aM) (b : Int32) : aM := if ww M = 500 then M else am_up (am_up M 17 (wix M (ww M)) b) 16 2 (nI (ww M + 1))
def sp_Waiting_append : aS := fun as M K => match as with
  | [.ref a, .int b] => a = 16 ∧ wt_ok M ∧ K none (sayM M b)
  | _ => False
set_option maxRecDepth 100000 in
set_option maxHeartbeats 4000000 in
theorem ok_Waiting_append {G : aG} (hG : am_ok G) : am_Sp G Y_Waiting_append 0 sp_Waiting_append := by
  intro as M K h
  unfold sp_Waiting_append at h
  split at h
  · next a b =>
    obtain ⟨rfl, ⟨h1, h2, h3, h4⟩, h⟩ := h
    unfold sayM at h
    by_cases c : ww M = 500
    · have e1 : ¬ M 16 2 < 500 := by rw [h3]; exact nI_nlt (b := 500) (a := ww M) (by omega) (by omega)
      refine am_entry hG (by decide +kernel) (Nat.le_of_ble_eq_true rfl) ?_
      refine am_go (cuts := k_Waiting_append) tb_Waiting_append 400 _ _ _ _ ?_
      change am_run _ _ _ _ _ _ [some (.ref 16), some (.int b), none] [] _
      simp only [r_Waiting_append_0, r_Waiting_append_1, r_Waiting_append_4, r_Waiting_append_7, r_Waiting_append_10, r_Waiting_append_11, r_Waiting_append_12, r_Waiting_append_15, r_Waiting_append_16, r_Waiting_append_19, r_Waiting_append_20, r_Waiting_append_23, r_Waiting_append_26, r_Waiting_append_27, r_Waiting_append_30, r_Waiting_append_31, r_Waiting_append_34, r_Waiting_append_35, r_Waiting_append_38, r_Waiting_append_39, r_Waiting_append_42, r_Waiting_append_43, r_Waiting_append_46, r_Waiting_append_47, r_Waiting_append_50, r_Waiting_append_51, r_Waiting_append_52, r_Waiting_append_53, r_Waiting_append_56, r_Waiting_append_57, r_Waiting_append_60, r_Waiting_append_63, r_Waiting_append_64, r_Waiting_append_67, r_Waiting_append_68, r_Waiting_append_69, r_Waiting_append_70, r_Waiting_append_71, r_Waiting_append_72, r_Waiting_append_75, r_Waiting_append_76, r_Waiting_append_77, r_Waiting_append_80, ai_aload, ai_getf, ai_const, ai_cmplt, ai_vret, ai_iadd, ai_bin, ai_cmpge, ai_goto, ai_isub, ai_istore, am_cut_0, am_cut_s, am_c1, ai_iload, ai_iflt, ai_iast, ai_dup, ai_putf, kd_0, fd_0_0, fd_0_1, fd_0_2, fd_0_3, fd_0_4, kd_1, fd_1_0, fd_1_1, ln_2, kd_3, fd_3_0, fd_3_1, fd_3_2, fd_3_3, fd_3_4, fd_3_5, fd_3_6, fd_3_7, fd_3_8, fd_3_9, ln_4, ln_5, ln_6, ln_7, ln_8, ln_9, ln_10, kd_11, fd_11_0, fd_11_1, fd_11_2, fd_11_3, fd_11_4, kd_12, fd_12_0, fd_12_1, fd_12_2, fd_12_3, ln_13, ln_14, ln_15, kd_16, fd_16_0, fd_16_1, fd_16_2, ln_17, kd_18, fd_18_0, fd_18_1, kd_19, fd_19_0, fd_19_1, fd_19_2, fd_19_3, fd_19_4, fd_19_5, fd_19_6, fd_19_7, fd_19_8, fd_19_9, fd_19_10, fd_19_11, fd_19_12, fd_19_13, fd_19_14, fd_19_15, fd_19_16, fd_19_17, fd_19_18, fd_19_19, fd_19_20, ln_20, ln_21, ln_22, ln_23, ln_24, ln_25, ln_26, ln_27, ln_28, ln_29, ln_30, ln_31, ln_32, List.getElem?_cons_zero, List.getElem?_cons_succ, List.set_cons_zero, List.set_cons_succ, true_and, and_true, ↓reduceIte, Int32.reduceLT, Int32.reduceLE, li_10, or_true, true_or, e1]
      rw [if_pos c] at h; exact h
    · have e1 : M 16 2 < 500 := by rw [h3]; exact nI_lt (b := 500) (by omega) (by decide)
      have es : M 16 1 + M 16 2 = nI (wf M + ww M) := by rw [h1, h3]; exact nI_add _ _
      rw [if_neg c] at h
      unfold wix at h
      by_cases c2 : wf M + ww M < 500
      · rw [if_pos c2] at h
        have e2 : M 16 1 + M 16 2 < 500 := by rw [es]; exact nI_lt (b := 500) c2 (by decide)
        have e3 : ¬ M 16 1 + M 16 2 < 0 := by rw [es]; exact nI_pos (by omega)
        have e4 : vp_in (M 16 1 + M 16 2) 500 := by rw [es]; exact vp_in_nI c2 (by decide)
        refine am_entry hG (by decide +kernel) (Nat.le_of_ble_eq_true rfl) ?_
        refine am_go (cuts := k_Waiting_append) tb_Waiting_append 400 _ _ _ _ ?_
        change am_run _ _ _ _ _ _ [some (.ref 16), some (.int b), none] [] _
        simp only [r_Waiting_append_0, r_Waiting_append_1, r_Waiting_append_4, r_Waiting_append_7, r_Waiting_append_10, r_Waiting_append_11, r_Waiting_append_12, r_Waiting_append_15, r_Waiting_append_16, r_Waiting_append_19, r_Waiting_append_20, r_Waiting_append_23, r_Waiting_append_26, r_Waiting_append_27, r_Waiting_append_30, r_Waiting_append_31, r_Waiting_append_34, r_Waiting_append_35, r_Waiting_append_38, r_Waiting_append_39, r_Waiting_append_42, r_Waiting_append_43, r_Waiting_append_46, r_Waiting_append_47, r_Waiting_append_50, r_Waiting_append_51, r_Waiting_append_52, r_Waiting_append_53, r_Waiting_append_56, r_Waiting_append_57, r_Waiting_append_60, r_Waiting_append_63, r_Waiting_append_64, r_Waiting_append_67, r_Waiting_append_68, r_Waiting_append_69, r_Waiting_append_70, r_Waiting_append_71, r_Waiting_append_72, r_Waiting_append_75, r_Waiting_append_76, r_Waiting_append_77, r_Waiting_append_80, ai_aload, ai_getf, ai_const, ai_cmplt, ai_vret, ai_iadd, ai_bin, ai_cmpge, ai_goto, ai_isub, ai_istore, am_cut_0, am_cut_s, am_c1, ai_iload, ai_iflt, ai_iast, ai_dup, ai_putf, kd_0, fd_0_0, fd_0_1, fd_0_2, fd_0_3, fd_0_4, kd_1, fd_1_0, fd_1_1, ln_2, kd_3, fd_3_0, fd_3_1, fd_3_2, fd_3_3, fd_3_4, fd_3_5, fd_3_6, fd_3_7, fd_3_8, fd_3_9, ln_4, ln_5, ln_6, ln_7, ln_8, ln_9, ln_10, kd_11, fd_11_0, fd_11_1, fd_11_2, fd_11_3, fd_11_4, kd_12, fd_12_0, fd_12_1, fd_12_2, fd_12_3, ln_13, ln_14, ln_15, kd_16, fd_16_0, fd_16_1, fd_16_2, ln_17, kd_18, fd_18_0, fd_18_1, kd_19, fd_19_0, fd_19_1, fd_19_2, fd_19_3, fd_19_4, fd_19_5, fd_19_6, fd_19_7, fd_19_8, fd_19_9, fd_19_10, fd_19_11, fd_19_12, fd_19_13, fd_19_14, fd_19_15, fd_19_16, fd_19_17, fd_19_18, fd_19_19, fd_19_20, ln_20, ln_21, ln_22, ln_23, ln_24, ln_25, ln_26, ln_27, ln_28, ln_29, ln_30, ln_31, ln_32, List.getElem?_cons_zero, List.getElem?_cons_succ, List.set_cons_zero, List.set_cons_succ, true_and, and_true, ↓reduceIte, Int32.reduceLT, Int32.reduceLE, li_10, or_true, true_or, e1, e2, e3, e4, am_up_ap, Nat.reduceEqDiff]
        rw [es, show (nI (wf M + ww M)).toNatClampNeg = wf M + ww M from nI_clamp (by omega), h3, nI_1]
        exact h
      · rw [if_neg c2] at h
        have e2 : ¬ M 16 1 + M 16 2 < 500 := by rw [es]; exact nI_nlt (b := 500) (a := wf M + ww M) (by omega) (by omega)
        have es2 : M 16 1 + M 16 2 - 500 = nI (wf M + ww M - 500) := by rw [es]; exact pk_sub (b := 500) (by omega)
        have e3 : ¬ M 16 1 + M 16 2 - 500 < 0 := by rw [es2]; exact nI_pos (by omega)
        have e5 : M 16 1 + M 16 2 - 500 < 500 := by rw [es2]; exact nI_lt (b := 500) (by omega) (by decide)
        have e4 : vp_in (M 16 1 + M 16 2 - 500) 500 := by rw [es2]; exact vp_in_nI (by omega) (by decide)
        refine am_entry hG (by decide +kernel) (Nat.le_of_ble_eq_true rfl) ?_
        refine am_go (cuts := k_Waiting_append) tb_Waiting_append 400 _ _ _ _ ?_
        change am_run _ _ _ _ _ _ [some (.ref 16), some (.int b), none] [] _
        simp only [r_Waiting_append_0, r_Waiting_append_1, r_Waiting_append_4, r_Waiting_append_7, r_Waiting_append_10, r_Waiting_append_11, r_Waiting_append_12, r_Waiting_append_15, r_Waiting_append_16, r_Waiting_append_19, r_Waiting_append_20, r_Waiting_append_23, r_Waiting_append_26, r_Waiting_append_27, r_Waiting_append_30, r_Waiting_append_31, r_Waiting_append_34, r_Waiting_append_35, r_Waiting_append_38, r_Waiting_append_39, r_Waiting_append_42, r_Waiting_append_43, r_Waiting_append_46, r_Waiting_append_47, r_Waiting_append_50, r_Waiting_append_51, r_Waiting_append_52, r_Waiting_append_53, r_Waiting_append_56, r_Waiting_append_57, r_Waiting_append_60, r_Waiting_append_63, r_Waiting_append_64, r_Waiting_append_67, r_Waiting_append_68, r_Waiting_append_69, r_Waiting_append_70, r_Waiting_append_71, r_Waiting_append_72, r_Waiting_append_75, r_Waiting_append_76, r_Waiting_append_77, r_Waiting_append_80, ai_aload, ai_getf, ai_const, ai_cmplt, ai_vret, ai_iadd, ai_bin, ai_cmpge, ai_goto, ai_isub, ai_istore, am_cut_0, am_cut_s, am_c1, ai_iload, ai_iflt, ai_iast, ai_dup, ai_putf, kd_0, fd_0_0, fd_0_1, fd_0_2, fd_0_3, fd_0_4, kd_1, fd_1_0, fd_1_1, ln_2, kd_3, fd_3_0, fd_3_1, fd_3_2, fd_3_3, fd_3_4, fd_3_5, fd_3_6, fd_3_7, fd_3_8, fd_3_9, ln_4, ln_5, ln_6, ln_7, ln_8, ln_9, ln_10, kd_11, fd_11_0, fd_11_1, fd_11_2, fd_11_3, fd_11_4, kd_12, fd_12_0, fd_12_1, fd_12_2, fd_12_3, ln_13, ln_14, ln_15, kd_16, fd_16_0, fd_16_1, fd_16_2, ln_17, kd_18, fd_18_0, fd_18_1, kd_19, fd_19_0, fd_19_1, fd_19_2, fd_19_3, fd_19_4, fd_19_5, fd_19_6, fd_19_7, fd_19_8, fd_19_9, fd_19_10, fd_19_11, fd_19_12, fd_19_13, fd_19_14, fd_19_15, fd_19_16, fd_19_17, fd_19_18, fd_19_19, fd_19_20, ln_20, ln_21, ln_22, ln_23, ln_24, ln_25, ln_26, ln_27, ln_28, ln_29, ln_30, ln_31, ln_32, List.getElem?_cons_zero, List.getElem?_cons_succ, List.set_cons_zero, List.set_cons_succ, true_and, and_true, ↓reduceIte, Int32.reduceLT, Int32.reduceLE, li_10, or_true, true_or, e1, e2, e3, e4, e5, am_up_ap, Nat.reduceEqDiff]
        rw [es2, show (nI (wf M + ww M - 500)).toNatClampNeg = wf M + ww M - 500 from nI_clamp (by omega), h3, nI_1]
        exact h
  · cases h
def takM (M : aM) : aM := am_up (am_up M 16 1 (nI (if wf M + 1 < 500 then wf M + 1 else 0))) 16 2 (nI (ww M - 1))
def sp_Waiting_take : aS := fun as M K => match as with
  | [.ref a] => a = 16 ∧ (wt_ok M ∧ 0 < ww M) ∧ K (some (.int (M 17 (wf M)))) (takM M)
  | _ => False
set_option maxRecDepth 100000 in
set_option maxHeartbeats 4000000 in
theorem ok_Waiting_take {G : aG} (hG : am_ok G) : am_Sp G Y_Waiting_take 0 sp_Waiting_take := by
  intro as M K h
  unfold sp_Waiting_take at h
  split at h
  · next a =>
    obtain ⟨rfl, ⟨⟨h1, h2, h3, h4⟩, h5⟩, h⟩ := h
    unfold takM at h
    have e1 : ¬ M 16 2 ≤ 0 := by rw [h3]; exact nI_nle h5 (by omega)
    have e2 : ¬ M 16 1 < 0 := by rw [h1]; exact nI_pos (by omega)
    have e3 : M 16 1 < 500 := by rw [h1]; exact nI_lt (b := 500) h2 (by decide)
    have e4 : vp_in (M 16 1) 500 := by rw [h1]; exact vp_in_nI h2 (by decide)
    have ec : (M 16 1).toNatClampNeg = wf M := rfl
    have e6 : M 16 2 - 1 = nI (ww M - 1) := by rw [h3]; exact pk_sub (b := 1) (by omega)
    by_cases c : wf M + 1 < 500
    · rw [if_pos c] at h
      have e5 : M 16 1 + 1 < 500 := by rw [h1, nI_1]; exact nI_lt (b := 500) c (by decide)
      refine am_entry hG (by decide +kernel) (Nat.le_of_ble_eq_true rfl) ?_
      refine am_go (cuts := k_Waiting_take) tb_Waiting_take 400 _ _ _ _ ?_
      change am_run _ _ _ _ _ _ [some (.ref 16), none] [] _
      simp only [r_Waiting_take_0, r_Waiting_take_1, r_Waiting_take_4, r_Waiting_take_7, r_Waiting_take_8, r_Waiting_take_11, r_Waiting_take_14, r_Waiting_take_15, r_Waiting_take_18, r_Waiting_take_21, r_Waiting_take_24, r_Waiting_take_25, r_Waiting_take_26, r_Waiting_take_27, r_Waiting_take_30, r_Waiting_take_31, r_Waiting_take_34, r_Waiting_take_35, r_Waiting_take_36, r_Waiting_take_37, r_Waiting_take_38, r_Waiting_take_41, r_Waiting_take_42, r_Waiting_take_43, r_Waiting_take_46, r_Waiting_take_49, r_Waiting_take_50, r_Waiting_take_53, r_Waiting_take_54, r_Waiting_take_55, r_Waiting_take_58, r_Waiting_take_59, r_Waiting_take_62, r_Waiting_take_63, r_Waiting_take_64, r_Waiting_take_67, r_Waiting_take_68, r_Waiting_take_69, r_Waiting_take_72, r_Waiting_take_73, ai_aload, ai_getf, ai_ifle, ai_iflt, ai_const, ai_cmplt, ai_iret, ai_iald, ai_istore, am_cut_0, am_cut_s, am_c1, ai_iadd, ai_bin, ai_cmpge, ai_goto, ai_putf, ai_dup, ai_isub, ai_iload, kd_0, fd_0_0, fd_0_1, fd_0_2, fd_0_3, fd_0_4, kd_1, fd_1_0, fd_1_1, ln_2, kd_3, fd_3_0, fd_3_1, fd_3_2, fd_3_3, fd_3_4, fd_3_5, fd_3_6, fd_3_7, fd_3_8, fd_3_9, ln_4, ln_5, ln_6, ln_7, ln_8, ln_9, ln_10, kd_11, fd_11_0, fd_11_1, fd_11_2, fd_11_3, fd_11_4, kd_12, fd_12_0, fd_12_1, fd_12_2, fd_12_3, ln_13, ln_14, ln_15, kd_16, fd_16_0, fd_16_1, fd_16_2, ln_17, kd_18, fd_18_0, fd_18_1, kd_19, fd_19_0, fd_19_1, fd_19_2, fd_19_3, fd_19_4, fd_19_5, fd_19_6, fd_19_7, fd_19_8, fd_19_9, fd_19_10, fd_19_11, fd_19_12, fd_19_13, fd_19_14, fd_19_15, fd_19_16, fd_19_17, fd_19_18, fd_19_19, fd_19_20, ln_20, ln_21, ln_22, ln_23, ln_24, ln_25, ln_26, ln_27, ln_28, ln_29, ln_30, ln_31, ln_32, List.getElem?_cons_zero, List.getElem?_cons_succ, List.set_cons_zero, List.set_cons_succ, true_and, and_true, ↓reduceIte, Int32.reduceLT, Int32.reduceLE, li_10, or_true, true_or, e1, e2, e3, e4, e5, am_up_ap, Nat.reduceEqDiff]
      rw [ec, e6, h1, nI_1]
      exact h
    · rw [if_neg c] at h
      have e5 : ¬ M 16 1 + 1 < 500 := by rw [h1, nI_1]; exact nI_nlt (b := 500) (a := wf M + 1) (by omega) (by omega)
      refine am_entry hG (by decide +kernel) (Nat.le_of_ble_eq_true rfl) ?_
      refine am_go (cuts := k_Waiting_take) tb_Waiting_take 400 _ _ _ _ ?_
      change am_run _ _ _ _ _ _ [some (.ref 16), none] [] _
      simp only [r_Waiting_take_0, r_Waiting_take_1, r_Waiting_take_4, r_Waiting_take_7, r_Waiting_take_8, r_Waiting_take_11, r_Waiting_take_14, r_Waiting_take_15, r_Waiting_take_18, r_Waiting_take_21, r_Waiting_take_24, r_Waiting_take_25, r_Waiting_take_26, r_Waiting_take_27, r_Waiting_take_30, r_Waiting_take_31, r_Waiting_take_34, r_Waiting_take_35, r_Waiting_take_36, r_Waiting_take_37, r_Waiting_take_38, r_Waiting_take_41, r_Waiting_take_42, r_Waiting_take_43, r_Waiting_take_46, r_Waiting_take_49, r_Waiting_take_50, r_Waiting_take_53, r_Waiting_take_54, r_Waiting_take_55, r_Waiting_take_58, r_Waiting_take_59, r_Waiting_take_62, r_Waiting_take_63, r_Waiting_take_64, r_Waiting_take_67, r_Waiting_take_68, r_Waiting_take_69, r_Waiting_take_72, r_Waiting_take_73, ai_aload, ai_getf, ai_ifle, ai_iflt, ai_const, ai_cmplt, ai_iret, ai_iald, ai_istore, am_cut_0, am_cut_s, am_c1, ai_iadd, ai_bin, ai_cmpge, ai_goto, ai_putf, ai_dup, ai_isub, ai_iload, kd_0, fd_0_0, fd_0_1, fd_0_2, fd_0_3, fd_0_4, kd_1, fd_1_0, fd_1_1, ln_2, kd_3, fd_3_0, fd_3_1, fd_3_2, fd_3_3, fd_3_4, fd_3_5, fd_3_6, fd_3_7, fd_3_8, fd_3_9, ln_4, ln_5, ln_6, ln_7, ln_8, ln_9, ln_10, kd_11, fd_11_0, fd_11_1, fd_11_2, fd_11_3, fd_11_4, kd_12, fd_12_0, fd_12_1, fd_12_2, fd_12_3, ln_13, ln_14, ln_15, kd_16, fd_16_0, fd_16_1, fd_16_2, ln_17, kd_18, fd_18_0, fd_18_1, kd_19, fd_19_0, fd_19_1, fd_19_2, fd_19_3, fd_19_4, fd_19_5, fd_19_6, fd_19_7, fd_19_8, fd_19_9, fd_19_10, fd_19_11, fd_19_12, fd_19_13, fd_19_14, fd_19_15, fd_19_16, fd_19_17, fd_19_18, fd_19_19, fd_19_20, ln_20, ln_21, ln_22, ln_23, ln_24, ln_25, ln_26, ln_27, ln_28, ln_29, ln_30, ln_31, ln_32, List.getElem?_cons_zero, List.getElem?_cons_succ, List.set_cons_zero, List.set_cons_succ, true_and, and_true, ↓reduceIte, Int32.reduceLT, Int32.reduceLE, li_10, or_true, true_or, e1, e2, e3, e4, e5, am_up_ap, Nat.reduceEqDiff]
      rw [ec, e6]
      exact h
  · cases h
end
section
/-! WRITING -/
def saysM (M : aM) (bs : List Int32) : aM := bs.foldl sayM M
theorem saysM_nil (M : aM) : saysM M [] = M := rfl
theorem saysM_cons (M : aM) (b : Int32) (bs : List Int32) : saysM M (b :: bs) = saysM (sayM M b) bs := rfl
theorem saysM_app (M : aM) (a b : List Int32) : saysM M (a ++ b) = saysM (saysM M a) b := by unfold saysM; rw [List.foldl_append]
theorem sayM_ne (M : aM) (b : Int32) {c : Nat} (h1 : c ≠ 16) (h2 : c ≠ 17) : sayM M b c = M c := by
  unfold sayM
  split
  · rfl
  · rw [am_up_ne h1, am_up_ne h2]
theorem saysM_ne : ∀ (bs : List Int32) (M : aM) {c : Nat}, c ≠ 16 → c ≠ 17 → saysM M bs c = M c
  | [], _, _, _, _ => rfl
  | b :: bs, M, c, h1, h2 => by rw [saysM_cons, saysM_ne bs (sayM M b) h1 h2, sayM_ne M b h1 h2]
theorem sayM_ok {M : aM} {b : Int32} (h : wt_ok M) : wt_ok (sayM M b) := by
  unfold sayM
  by_cases c : ww M = 500
  · rw [if_pos c]; exact h
  · rw [if_neg c]
    obtain ⟨h1, h2, h3, h4⟩ := h
    have e1 : wf (am_up (am_up M 17 (wix M (ww M)) b) 16 2 (nI (ww M + 1))) = wf M := by
      unfold wf; rw [am_up_ap, if_pos rfl, if_neg (by decide), am_up_ne (by decide)]
    have e2 : ww (am_up (am_up M 17 (wix M (ww M)) b) 16 2 (nI (ww M + 1))) = ww M + 1 := by
      have e3 : am_up (am_up M 17 (wix M (ww M)) b) 16 2 (nI (ww M + 1)) 16 2 = nI (ww M + 1) := by rw [am_up_ap, if_pos rfl, if_pos rfl]
      have e4 : ww (am_up (am_up M 17 (wix M (ww M)) b) 16 2 (nI (ww M + 1))) = cl (am_up (am_up M 17 (wix M (ww M)) b) 16 2 (nI (ww M + 1)) 16 2) := rfl
      rw [e4, e3]
      exact nI_clamp (by omega)
    unfold wt_ok
    rw [e1, e2]
    refine ⟨?_, h2, ?_, by omega⟩
    · rw [am_up_ap, if_pos rfl, if_neg (by decide), am_up_ne (by decide)]; exact h1
    · rw [am_up_ap, if_pos rfl, if_pos rfl]
theorem saysM_ok : ∀ (bs : List Int32) {M : aM}, wt_ok M → wt_ok (saysM M bs)
  | [], _, h => h
  | b :: bs, M, h => saysM_ok bs (sayM_ok (b := b) h)
/-- the nodes are the same -/
def sN (M0 M : aM) : Prop := M 3 = M0 3 ∧ M 4 = M0 4 ∧ M 5 = M0 5 ∧ M 6 = M0 6 ∧ M 7 = M0 7 ∧ M 8 = M0 8 ∧ M 10 = M0 10
theorem sN.rf (M : aM) : sN M M := ⟨rfl, rfl, rfl, rfl, rfl, rfl, rfl⟩
theorem sN.say {M0 M : aM} (h : sN M0 M) (b : Int32) : sN M0 (sayM M b) := by
  unfold sN
  rw [sayM_ne M b (by decide) (by decide), sayM_ne M b (by decide) (by decide), sayM_ne M b (by decide) (by decide), sayM_ne M b (by decide) (by decide), sayM_ne M b (by decide) (by decide), sayM_ne M b (by decide) (by decide), sayM_ne M b (by decide) (by decide)]
  exact h
theorem sN.says {M0 : aM} : ∀ (bs : List Int32) {M : aM}, sN M0 M → sN M0 (saysM M bs)
  | [], _, h => h
  | b :: bs, M, h => sN.says bs (h.say b)
theorem sN.has {M0 M : aM} (h : sN M0 M) (x : Int32) : hasN M x = hasN M0 x := by unfold hasN; rw [h.1]
theorem sN.is {M0 M : aM} (h : sN M0 M) (x k : Int32) : isN M x k = isN M0 x k := by unfold isN; rw [h.has, h.2.1]
theorem sN.kind {M0 M : aM} (h : sN M0 M) (x : Int32) : n_kind M x = n_kind M0 x := by unfold n_kind; rw [h.has, h.2.1]
theorem sN.amt {M0 M : aM} (h : sN M0 M) (x : Int32) : n_amt M x = n_amt M0 x := by unfold n_amt; rw [h.has, h.2.2.1]
theorem sN.byte {M0 M : aM} (h : sN M0 M) (x k : Int32) : n_byte M x k = n_byte M0 x k := by
  unfold n_byte
  rw [h.is, h.is, h.2.2.1, h.2.2.2.1, h.2.2.2.2.2.2]
theorem sN.head {M0 M : aM} (h : sN M0 M) (x : Int32) : n_head M x = n_head M0 x := by unfold n_head; rw [h.is, h.2.2.2.2.1]
theorem sN.tail {M0 M : aM} (h : sN M0 M) (x : Int32) : n_tail M x = n_tail M0 x := by unfold n_tail; rw [h.is, h.2.2.2.2.2.1]
theorem sN_qL {M0 M : aM} (h : sN M0 M) (x : Int32) : ∀ (r k : Nat), qL M x r k = qL M0 x r k
  | 0, _ => rfl
  | r + 1, k => by unfold qL; rw [h.byte, sN_qL h x r (k + 1)]
theorem sN_isQ {M0 M : aM} (h : sN M0 M) (x : Int32) : isQ M x = isQ M0 x := by unfold isQ; rw [h.is, h.2.2.1, sN_qL h]
theorem sN.quo {M0 M : aM} (h : sN M0 M) (x : Int32) : n_quo M x = n_quo M0 x := by unfold n_quo; rw [sN_isQ h, h.head, h.is, h.tail, h.tail, h.head]
def w_bts (M0 : aM) (x : Int32) : Nat → Nat → List Int32
  | 0, _ => []
  | r + 1, k => n_byte M0 x (nI k) :: w_bts M0 x r (k + 1)
def w_name (M0 : aM) (x : Int32) : List Int32 := w_bts M0 x (cl (n_amt M0 x)) 0
def sp_Writer_writeName : aS := fun as M K => match as with
  | [.ref a, .int x] => a = 18 ∧ wt_ok M ∧ K none (saysM M (w_name M x))
  | _ => False
set_option maxRecDepth 100000 in
set_option maxHeartbeats 4000000 in
theorem lp_Writer_writeName {G : aG} (hG : am_ok G) {K : aR} {M0 : aM} {x am : Int32} : ∀ (r k : Nat) (M : aM), cl am - k = r → k ≤ cl am → sN M0 M → wt_ok M → K none (saysM M (w_bts M0 x r k)) → am_X G Y_Writer_writeName 2 K 11 [some (.ref 18), some (.int x), some (.int am), some (.int (nI k))] [] M := by
  intro r
  have hcl := cl_lt am
  induction r with
  | zero =>
    intro k M hk hk2 hN hw h
    have e1 : ¬ nI k < am := by rw [lt_cl (by omega)]; omega
    refine am_from (tb_Writer_writeName (ok_Nodes_amountOf hG) (by decide) (ok_Nodes_byteOf hG) (by decide) (ok_Waiting_append hG) (by decide)) k_Writer_writeName 400 ?_
    simp only [q_Writer_writeName_11, r_Writer_writeName_0, r_Writer_writeName_1, r_Writer_writeName_4, r_Writer_writeName_5, r_Writer_writeName_8, r_Writer_writeName_9, r_Writer_writeName_10, r_Writer_writeName_11, r_Writer_writeName_12, r_Writer_writeName_13, r_Writer_writeName_16, r_Writer_writeName_17, r_Writer_writeName_20, r_Writer_writeName_21, r_Writer_writeName_24, r_Writer_writeName_25, r_Writer_writeName_26, r_Writer_writeName_29, r_Writer_writeName_32, r_Writer_writeName_35, r_Writer_writeName_38, ai_aload, ai_getf, ai_iload, ai_callv2, am_push, am_few, ai_istore, am_cut_0, am_cut_s, am_c1, ai_const, ai_cmpge, ai_callv3, ai_iinc, ai_goto, ai_vret, kd_0, fd_0_0, fd_0_1, fd_0_2, fd_0_3, fd_0_4, kd_1, fd_1_0, fd_1_1, ln_2, kd_3, fd_3_0, fd_3_1, fd_3_2, fd_3_3, fd_3_4, fd_3_5, fd_3_6, fd_3_7, fd_3_8, fd_3_9, ln_4, ln_5, ln_6, ln_7, ln_8, ln_9, ln_10, kd_11, fd_11_0, fd_11_1, fd_11_2, fd_11_3, fd_11_4, kd_12, fd_12_0, fd_12_1, fd_12_2, fd_12_3, ln_13, ln_14, ln_15, kd_16, fd_16_0, fd_16_1, fd_16_2, ln_17, kd_18, fd_18_0, fd_18_1, kd_19, fd_19_0, fd_19_1, fd_19_2, fd_19_3, fd_19_4, fd_19_5, fd_19_6, fd_19_7, fd_19_8, fd_19_9, fd_19_10, fd_19_11, fd_19_12, fd_19_13, fd_19_14, fd_19_15, fd_19_16, fd_19_17, fd_19_18, fd_19_19, fd_19_20, ln_20, ln_21, ln_22, ln_23, ln_24, ln_25, ln_26, ln_27, ln_28, ln_29, ln_30, ln_31, ln_32, List.getElem?_cons_zero, List.getElem?_cons_succ, List.set_cons_zero, List.set_cons_succ, true_and, and_true, ↓reduceIte, Int32.reduceLT, Int32.reduceLE, li_10, or_true, true_or, e1]
    exact h
  | succ r ih =>
    intro k M hk hk2 hN hw h
    have e1 : nI k < am := by rw [lt_cl (by omega)]; omega
    refine am_from (tb_Writer_writeName (ok_Nodes_amountOf hG) (by decide) (ok_Nodes_byteOf hG) (by decide) (ok_Waiting_append hG) (by decide)) k_Writer_writeName 400 ?_
    simp only [q_Writer_writeName_11, r_Writer_writeName_0, r_Writer_writeName_1, r_Writer_writeName_4, r_Writer_writeName_5, r_Writer_writeName_8, r_Writer_writeName_9, r_Writer_writeName_10, r_Writer_writeName_11, r_Writer_writeName_12, r_Writer_writeName_13, r_Writer_writeName_16, r_Writer_writeName_17, r_Writer_writeName_20, r_Writer_writeName_21, r_Writer_writeName_24, r_Writer_writeName_25, r_Writer_writeName_26, r_Writer_writeName_29, r_Writer_writeName_32, r_Writer_writeName_35, r_Writer_writeName_38, ai_aload, ai_getf, ai_iload, ai_callv2, am_push, am_few, ai_istore, am_cut_0, am_cut_s, am_c1, ai_const, ai_cmpge, ai_callv3, ai_iinc, ai_goto, ai_vret, kd_0, fd_0_0, fd_0_1, fd_0_2, fd_0_3, fd_0_4, kd_1, fd_1_0, fd_1_1, ln_2, kd_3, fd_3_0, fd_3_1, fd_3_2, fd_3_3, fd_3_4, fd_3_5, fd_3_6, fd_3_7, fd_3_8, fd_3_9, ln_4, ln_5, ln_6, ln_7, ln_8, ln_9, ln_10, kd_11, fd_11_0, fd_11_1, fd_11_2, fd_11_3, fd_11_4, kd_12, fd_12_0, fd_12_1, fd_12_2, fd_12_3, ln_13, ln_14, ln_15, kd_16, fd_16_0, fd_16_1, fd_16_2, ln_17, kd_18, fd_18_0, fd_18_1, kd_19, fd_19_0, fd_19_1, fd_19_2, fd_19_3, fd_19_4, fd_19_5, fd_19_6, fd_19_7, fd_19_8, fd_19_9, fd_19_10, fd_19_11, fd_19_12, fd_19_13, fd_19_14, fd_19_15, fd_19_16, fd_19_17, fd_19_18, fd_19_19, fd_19_20, ln_20, ln_21, ln_22, ln_23, ln_24, ln_25, ln_26, ln_27, ln_28, ln_29, ln_30, ln_31, ln_32, List.getElem?_cons_zero, List.getElem?_cons_succ, List.set_cons_zero, List.set_cons_succ, true_and, and_true, ↓reduceIte, Int32.reduceLT, Int32.reduceLE, li_10, or_true, true_or, ↓sp_Nodes_byteOf, ↓sp_Waiting_append, e1, hN.byte, nI_1]
    exact ⟨hw, ih (k + 1) _ (by omega) (by omega) (hN.say _) (sayM_ok hw) h⟩
set_option maxRecDepth 100000 in
set_option maxHeartbeats 4000000 in
theorem ok_Writer_writeName {G : aG} (hG : am_ok G) : am_Sp G Y_Writer_writeName 2 sp_Writer_writeName := by
  intro as M K h
  unfold sp_Writer_writeName at h
  split at h
  · next a x =>
    obtain ⟨rfl, hw, h⟩ := h
    refine am_entry hG (by decide +kernel) (Nat.le_of_ble_eq_true rfl) ?_
    refine am_go (cuts := k_Writer_writeName) (tb_Writer_writeName (ok_Nodes_amountOf hG) (by decide) (ok_Nodes_byteOf hG) (by decide) (ok_Waiting_append hG) (by decide)) 400 _ _ _ _ ?_
    change am_run _ _ _ _ _ _ [some (.ref 18), some (.int x), none, none] [] _
    simp only [q_Writer_writeName_11, r_Writer_writeName_0, r_Writer_writeName_1, r_Writer_writeName_4, r_Writer_writeName_5, r_Writer_writeName_8, r_Writer_writeName_9, r_Writer_writeName_10, r_Writer_writeName_11, r_Writer_writeName_12, r_Writer_writeName_13, r_Writer_writeName_16, r_Writer_writeName_17, r_Writer_writeName_20, r_Writer_writeName_21, r_Writer_writeName_24, r_Writer_writeName_25, r_Writer_writeName_26, r_Writer_writeName_29, r_Writer_writeName_32, r_Writer_writeName_35, r_Writer_writeName_38, ai_aload, ai_getf, ai_iload, ai_callv2, am_push, am_few, ai_istore, am_cut_0, am_cut_s, am_c1, ai_const, ai_cmpge, ai_callv3, ai_iinc, ai_goto, ai_vret, kd_0, fd_0_0, fd_0_1, fd_0_2, fd_0_3, fd_0_4, kd_1, fd_1_0, fd_1_1, ln_2, kd_3, fd_3_0, fd_3_1, fd_3_2, fd_3_3, fd_3_4, fd_3_5, fd_3_6, fd_3_7, fd_3_8, fd_3_9, ln_4, ln_5, ln_6, ln_7, ln_8, ln_9, ln_10, kd_11, fd_11_0, fd_11_1, fd_11_2, fd_11_3, fd_11_4, kd_12, fd_12_0, fd_12_1, fd_12_2, fd_12_3, ln_13, ln_14, ln_15, kd_16, fd_16_0, fd_16_1, fd_16_2, ln_17, kd_18, fd_18_0, fd_18_1, kd_19, fd_19_0, fd_19_1, fd_19_2, fd_19_3, fd_19_4, fd_19_5, fd_19_6, fd_19_7, fd_19_8, fd_19_9, fd_19_10, fd_19_11, fd_19_12, fd_19_13, fd_19_14, fd_19_15, fd_19_16, fd_19_17, fd_19_18, fd_19_19, fd_19_20, ln_20, ln_21, ln_22, ln_23, ln_24, ln_25, ln_26, ln_27, ln_28, ln_29, ln_30, ln_31, ln_32, List.getElem?_cons_zero, List.getElem?_cons_succ, List.set_cons_zero, List.set_cons_succ, true_and, and_true, ↓reduceIte, Int32.reduceLT, Int32.reduceLE, li_10, or_true, true_or, ↓sp_Nodes_amountOf]
    exact lp_Writer_writeName hG (M0 := M) (cl (n_amt M x)) 0 M (by omega) (Nat.zero_le _) (sN.rf M) hw h
  · cases h
def w_stb (M0 : aM) (x : Int32) : Nat → Nat → List Int32
  | 0, _ => [34]
  | r + 1, k => if n_byte M0 x (nI k) = 34 then 92 :: n_byte M0 x (nI k) :: w_stb M0 x r (k + 1) else if n_byte M0 x (nI k) = 92 then 92 :: n_byte M0 x (nI k) :: w_stb M0 x r (k + 1) else n_byte M0 x (nI k) :: w_stb M0 x r (k + 1)
def w_str (M0 : aM) (x : Int32) : List Int32 := 34 :: w_stb M0 x (cl (n_amt M0 x)) 0
def sp_Writer_writeString : aS := fun as M K => match as with
  | [.ref a, .int x] => a = 18 ∧ wt_ok M ∧ K none (saysM M (w_str M x))
  | _ => False
set_option maxRecDepth 100000 in
set_option maxHeartbeats 4000000 in
theorem lp_Writer_writeString {G : aG} (hG : am_ok G) {K : aR} {M0 : aM} {x am : Int32} : ∀ (r k : Nat) (M : aM) (o : Option Value), cl am - k = r → k ≤ cl am → sN M0 M → wt_ok M → K none (saysM M (w_stb M0 x r k)) → am_X G Y_Writer_writeString 2 K 20 [some (.ref 18), some (.int x), some (.int am), some (.int (nI k)), o] [] M := by
  intro r
  have hcl := cl_lt am
  induction r with
  | zero =>
    intro k M o hk hk2 hN hw h
    have e1 : ¬ nI k < am := by rw [lt_cl (by omega)]; omega
    refine am_from (tb_Writer_writeString (ok_Nodes_amountOf hG) (by decide) (ok_Waiting_append hG) (by decide) (ok_Nodes_byteOf hG) (by decide)) k_Writer_writeString 400 ?_
    simp only [q_Writer_writeString_20, r_Writer_writeString_0, r_Writer_writeString_1, r_Writer_writeString_4, r_Writer_writeString_5, r_Writer_writeString_8, r_Writer_writeString_9, r_Writer_writeString_10, r_Writer_writeString_13, r_Writer_writeString_15, r_Writer_writeString_18, r_Writer_writeString_19, r_Writer_writeString_20, r_Writer_writeString_21, r_Writer_writeString_22, r_Writer_writeString_25, r_Writer_writeString_26, r_Writer_writeString_29, r_Writer_writeString_30, r_Writer_writeString_31, r_Writer_writeString_34, r_Writer_writeString_36, r_Writer_writeString_38, r_Writer_writeString_40, r_Writer_writeString_43, r_Writer_writeString_45, r_Writer_writeString_47, r_Writer_writeString_50, r_Writer_writeString_51, r_Writer_writeString_54, r_Writer_writeString_56, r_Writer_writeString_59, r_Writer_writeString_60, r_Writer_writeString_63, r_Writer_writeString_65, r_Writer_writeString_68, r_Writer_writeString_71, r_Writer_writeString_74, r_Writer_writeString_75, r_Writer_writeString_78, r_Writer_writeString_80, r_Writer_writeString_83, ai_aload, ai_getf, ai_iload, ai_callv2, am_push, am_few, ai_istore, am_cut_0, am_cut_s, am_c1, ai_const, ai_cmpge, ai_callv3, ai_cmpeq, ai_cmpne, ai_iinc, ai_goto, ai_vret, kd_0, fd_0_0, fd_0_1, fd_0_2, fd_0_3, fd_0_4, kd_1, fd_1_0, fd_1_1, ln_2, kd_3, fd_3_0, fd_3_1, fd_3_2, fd_3_3, fd_3_4, fd_3_5, fd_3_6, fd_3_7, fd_3_8, fd_3_9, ln_4, ln_5, ln_6, ln_7, ln_8, ln_9, ln_10, kd_11, fd_11_0, fd_11_1, fd_11_2, fd_11_3, fd_11_4, kd_12, fd_12_0, fd_12_1, fd_12_2, fd_12_3, ln_13, ln_14, ln_15, kd_16, fd_16_0, fd_16_1, fd_16_2, ln_17, kd_18, fd_18_0, fd_18_1, kd_19, fd_19_0, fd_19_1, fd_19_2, fd_19_3, fd_19_4, fd_19_5, fd_19_6, fd_19_7, fd_19_8, fd_19_9, fd_19_10, fd_19_11, fd_19_12, fd_19_13, fd_19_14, fd_19_15, fd_19_16, fd_19_17, fd_19_18, fd_19_19, fd_19_20, ln_20, ln_21, ln_22, ln_23, ln_24, ln_25, ln_26, ln_27, ln_28, ln_29, ln_30, ln_31, ln_32, List.getElem?_cons_zero, List.getElem?_cons_succ, List.set_cons_zero, List.set_cons_succ, true_and, and_true, ↓reduceIte, Int32.reduceLT, Int32.reduceLE, li_10, or_true, true_or, ↓sp_Waiting_append, e1]
    exact ⟨hw, h⟩
  | succ r ih =>
    intro k M o hk hk2 hN hw h
    have e1 : nI k < am := by rw [lt_cl (by omega)]; omega
    refine am_from (tb_Writer_writeString (ok_Nodes_amountOf hG) (by decide) (ok_Waiting_append hG) (by decide) (ok_Nodes_byteOf hG) (by decide)) k_Writer_writeString 400 ?_
    simp only [q_Writer_writeString_20, r_Writer_writeString_0, r_Writer_writeString_1, r_Writer_writeString_4, r_Writer_writeString_5, r_Writer_writeString_8, r_Writer_writeString_9, r_Writer_writeString_10, r_Writer_writeString_13, r_Writer_writeString_15, r_Writer_writeString_18, r_Writer_writeString_19, r_Writer_writeString_20, r_Writer_writeString_21, r_Writer_writeString_22, r_Writer_writeString_25, r_Writer_writeString_26, r_Writer_writeString_29, r_Writer_writeString_30, r_Writer_writeString_31, r_Writer_writeString_34, r_Writer_writeString_36, r_Writer_writeString_38, r_Writer_writeString_40, r_Writer_writeString_43, r_Writer_writeString_45, r_Writer_writeString_47, r_Writer_writeString_50, r_Writer_writeString_51, r_Writer_writeString_54, r_Writer_writeString_56, r_Writer_writeString_59, r_Writer_writeString_60, r_Writer_writeString_63, r_Writer_writeString_65, r_Writer_writeString_68, r_Writer_writeString_71, r_Writer_writeString_74, r_Writer_writeString_75, r_Writer_writeString_78, r_Writer_writeString_80, r_Writer_writeString_83, ai_aload, ai_getf, ai_iload, ai_callv2, am_push, am_few, ai_istore, am_cut_0, am_cut_s, am_c1, ai_const, ai_cmpge, ai_callv3, ai_cmpeq, ai_cmpne, ai_iinc, ai_goto, ai_vret, kd_0, fd_0_0, fd_0_1, fd_0_2, fd_0_3, fd_0_4, kd_1, fd_1_0, fd_1_1, ln_2, kd_3, fd_3_0, fd_3_1, fd_3_2, fd_3_3, fd_3_4, fd_3_5, fd_3_6, fd_3_7, fd_3_8, fd_3_9, ln_4, ln_5, ln_6, ln_7, ln_8, ln_9, ln_10, kd_11, fd_11_0, fd_11_1, fd_11_2, fd_11_3, fd_11_4, kd_12, fd_12_0, fd_12_1, fd_12_2, fd_12_3, ln_13, ln_14, ln_15, kd_16, fd_16_0, fd_16_1, fd_16_2, ln_17, kd_18, fd_18_0, fd_18_1, kd_19, fd_19_0, fd_19_1, fd_19_2, fd_19_3, fd_19_4, fd_19_5, fd_19_6, fd_19_7, fd_19_8, fd_19_9, fd_19_10, fd_19_11, fd_19_12, fd_19_13, fd_19_14, fd_19_15, fd_19_16, fd_19_17, fd_19_18, fd_19_19, fd_19_20, ln_20, ln_21, ln_22, ln_23, ln_24, ln_25, ln_26, ln_27, ln_28, ln_29, ln_30, ln_31, ln_32, List.getElem?_cons_zero, List.getElem?_cons_succ, List.set_cons_zero, List.set_cons_succ, true_and, and_true, ↓reduceIte, Int32.reduceLT, Int32.reduceLE, li_10, or_true, true_or, ↓sp_Nodes_byteOf, ↓sp_Waiting_append, e1, hN.byte, nI_1]
    simp only [w_stb] at h
    have g := fun M o => ih (k + 1) M o (by omega) (by omega)
    by_cases c1 : n_byte M0 x (nI k) = 34
    · simp only [c1, ↓reduceIte] at h ⊢
      exact ⟨hw, sayM_ok hw, g _ _ ((hN.say _).say _) (sayM_ok (sayM_ok hw)) h⟩
    · simp only [c1, ↓reduceIte] at h ⊢
      by_cases c2 : n_byte M0 x (nI k) = 92
      · simp only [c2, ↓reduceIte] at h ⊢
        exact ⟨hw, sayM_ok hw, g _ _ ((hN.say _).say _) (sayM_ok (sayM_ok hw)) h⟩
      · simp only [c2, ↓reduceIte] at h ⊢
        exact ⟨hw, g _ _ (hN.say _) (sayM_ok hw) h⟩
set_option maxRecDepth 100000 in
set_option maxHeartbeats 4000000 in
theorem ok_Writer_writeString {G : aG} (hG : am_ok G) : am_Sp G Y_Writer_writeString 2 sp_Writer_writeString := by
  intro as M K h
  unfold sp_Writer_writeString at h
  split at h
  · next a x =>
    obtain ⟨rfl, hw, h⟩ := h
    refine am_entry hG (by decide +kernel) (Nat.le_of_ble_eq_true rfl) ?_
    refine am_go (cuts := k_Writer_writeString) (tb_Writer_writeString (ok_Nodes_amountOf hG) (by decide) (ok_Waiting_append hG) (by decide) (ok_Nodes_byteOf hG) (by decide)) 400 _ _ _ _ ?_
    change am_run _ _ _ _ _ _ [some (.ref 18), some (.int x), none, none, none] [] _
    simp only [q_Writer_writeString_20, r_Writer_writeString_0, r_Writer_writeString_1, r_Writer_writeString_4, r_Writer_writeString_5, r_Writer_writeString_8, r_Writer_writeString_9, r_Writer_writeString_10, r_Writer_writeString_13, r_Writer_writeString_15, r_Writer_writeString_18, r_Writer_writeString_19, r_Writer_writeString_20, r_Writer_writeString_21, r_Writer_writeString_22, r_Writer_writeString_25, r_Writer_writeString_26, r_Writer_writeString_29, r_Writer_writeString_30, r_Writer_writeString_31, r_Writer_writeString_34, r_Writer_writeString_36, r_Writer_writeString_38, r_Writer_writeString_40, r_Writer_writeString_43, r_Writer_writeString_45, r_Writer_writeString_47, r_Writer_writeString_50, r_Writer_writeString_51, r_Writer_writeString_54, r_Writer_writeString_56, r_Writer_writeString_59, r_Writer_writeString_60, r_Writer_writeString_63, r_Writer_writeString_65, r_Writer_writeString_68, r_Writer_writeString_71, r_Writer_writeString_74, r_Writer_writeString_75, r_Writer_writeString_78, r_Writer_writeString_80, r_Writer_writeString_83, ai_aload, ai_getf, ai_iload, ai_callv2, am_push, am_few, ai_istore, am_cut_0, am_cut_s, am_c1, ai_const, ai_cmpge, ai_callv3, ai_cmpeq, ai_cmpne, ai_iinc, ai_goto, ai_vret, kd_0, fd_0_0, fd_0_1, fd_0_2, fd_0_3, fd_0_4, kd_1, fd_1_0, fd_1_1, ln_2, kd_3, fd_3_0, fd_3_1, fd_3_2, fd_3_3, fd_3_4, fd_3_5, fd_3_6, fd_3_7, fd_3_8, fd_3_9, ln_4, ln_5, ln_6, ln_7, ln_8, ln_9, ln_10, kd_11, fd_11_0, fd_11_1, fd_11_2, fd_11_3, fd_11_4, kd_12, fd_12_0, fd_12_1, fd_12_2, fd_12_3, ln_13, ln_14, ln_15, kd_16, fd_16_0, fd_16_1, fd_16_2, ln_17, kd_18, fd_18_0, fd_18_1, kd_19, fd_19_0, fd_19_1, fd_19_2, fd_19_3, fd_19_4, fd_19_5, fd_19_6, fd_19_7, fd_19_8, fd_19_9, fd_19_10, fd_19_11, fd_19_12, fd_19_13, fd_19_14, fd_19_15, fd_19_16, fd_19_17, fd_19_18, fd_19_19, fd_19_20, ln_20, ln_21, ln_22, ln_23, ln_24, ln_25, ln_26, ln_27, ln_28, ln_29, ln_30, ln_31, ln_32, List.getElem?_cons_zero, List.getElem?_cons_succ, List.set_cons_zero, List.set_cons_succ, true_and, and_true, ↓reduceIte, Int32.reduceLT, Int32.reduceLE, li_10, or_true, true_or, ↓sp_Nodes_amountOf, ↓sp_Waiting_append]
    exact ⟨hw, lp_Writer_writeString hG (M0 := M) (cl (n_amt M x)) 0 (sayM M 34) none (by omega) (Nat.zero_le _) ((sN.rf M).say 34) (sayM_ok hw) h⟩
  · cases h
/-- the powers of ten, from the k-th down -/
def pw : Nat → Int32
  | 0 => 0
  | 1 => 1
  | 2 => 10
  | 3 => 100
  | 4 => 1000
  | 5 => 10000
  | 6 => 100000
  | 7 => 1000000
  | 8 => 10000000
  | _ => 100000000
theorem pw_div : ∀ k, k < 9 → pw (k + 1) / 10 = pw k := by decide +kernel
theorem pw_pos : ∀ k, k < 9 → ¬ pw (k + 1) ≤ 0 := by decide +kernel
theorem pw_ne : ∀ k, k < 9 → ¬ pw (k + 1) = 0 := by decide +kernel
def w_dig (v p : Int32) : Int32 := 48 + (v / p - v / p / 10 * 10)
def w_dgs (v : Int32) : Nat → List Int32
  | 0 => []
  | k + 1 => if v < pw (k + 1) then (if pw (k + 1) = 1 then w_dig v (pw (k + 1)) :: w_dgs v k else w_dgs v k) else w_dig v (pw (k + 1)) :: w_dgs v k
def w_num (v : Int32) : List Int32 := if 0 ≤ v then w_dgs v 9 else 45 :: w_dgs (-v) 9
def sp_Writer_writeNumber : aS := fun as M K => match as with
  | [.ref a, .int v] => a = 18 ∧ wt_ok M ∧ K none (saysM M (w_num v))
  | _ => False
set_option maxRecDepth 100000 in
set_option maxHeartbeats 4000000 in
theorem lp_Writer_writeNumber {G : aG} (hG : am_ok G) {K : aR} {v0 v : Int32} : ∀ (k : Nat) (M : aM), k ≤ 9 → wt_ok M → K none (saysM M (w_dgs v k)) → am_X G Y_Writer_writeNumber 1 K 27 [some (.ref 18), some (.int v0), some (.int v), some (.int (pw k))] [] M := by
  intro k
  induction k with
  | zero =>
    intro M hk hw h
    have e1 : pw 0 ≤ 0 := by decide
    refine am_from (tb_Writer_writeNumber (ok_Waiting_append hG) (by decide)) k_Writer_writeNumber 400 ?_
    simp only [q_Writer_writeNumber_27, r_Writer_writeNumber_0, r_Writer_writeNumber_1, r_Writer_writeNumber_4, r_Writer_writeNumber_5, r_Writer_writeNumber_8, r_Writer_writeNumber_10, r_Writer_writeNumber_13, r_Writer_writeNumber_14, r_Writer_writeNumber_17, r_Writer_writeNumber_18, r_Writer_writeNumber_19, r_Writer_writeNumber_22, r_Writer_writeNumber_23, r_Writer_writeNumber_24, r_Writer_writeNumber_26, r_Writer_writeNumber_27, r_Writer_writeNumber_28, r_Writer_writeNumber_31, r_Writer_writeNumber_32, r_Writer_writeNumber_33, r_Writer_writeNumber_36, r_Writer_writeNumber_37, r_Writer_writeNumber_38, r_Writer_writeNumber_41, r_Writer_writeNumber_42, r_Writer_writeNumber_45, r_Writer_writeNumber_47, r_Writer_writeNumber_48, r_Writer_writeNumber_49, r_Writer_writeNumber_50, r_Writer_writeNumber_52, r_Writer_writeNumber_53, r_Writer_writeNumber_54, r_Writer_writeNumber_57, r_Writer_writeNumber_58, r_Writer_writeNumber_60, r_Writer_writeNumber_61, r_Writer_writeNumber_62, r_Writer_writeNumber_65, ai_iload, ai_ifge, ai_aload, ai_getf, ai_const, ai_callv2, am_push, am_few, ai_ineg, ai_goto, ai_istore, am_cut_0, am_cut_s, am_c1, ai_ifle, ai_cmpge, ai_cmpne, ai_idiv, ai_irem, ai_iadd, ai_bin, ai_vret, kd_0, fd_0_0, fd_0_1, fd_0_2, fd_0_3, fd_0_4, kd_1, fd_1_0, fd_1_1, ln_2, kd_3, fd_3_0, fd_3_1, fd_3_2, fd_3_3, fd_3_4, fd_3_5, fd_3_6, fd_3_7, fd_3_8, fd_3_9, ln_4, ln_5, ln_6, ln_7, ln_8, ln_9, ln_10, kd_11, fd_11_0, fd_11_1, fd_11_2, fd_11_3, fd_11_4, kd_12, fd_12_0, fd_12_1, fd_12_2, fd_12_3, ln_13, ln_14, ln_15, kd_16, fd_16_0, fd_16_1, fd_16_2, ln_17, kd_18, fd_18_0, fd_18_1, kd_19, fd_19_0, fd_19_1, fd_19_2, fd_19_3, fd_19_4, fd_19_5, fd_19_6, fd_19_7, fd_19_8, fd_19_9, fd_19_10, fd_19_11, fd_19_12, fd_19_13, fd_19_14, fd_19_15, fd_19_16, fd_19_17, fd_19_18, fd_19_19, fd_19_20, ln_20, ln_21, ln_22, ln_23, ln_24, ln_25, ln_26, ln_27, ln_28, ln_29, ln_30, ln_31, ln_32, List.getElem?_cons_zero, List.getElem?_cons_succ, List.set_cons_zero, List.set_cons_succ, true_and, and_true, ↓reduceIte, Int32.reduceLT, Int32.reduceLE, li_10, or_true, true_or, e1]
    exact h
  | succ k ih =>
    intro M hk hw h
    have e1 := pw_pos k (by omega)
    have e2 := pw_ne k (by omega)
    have e3 : ¬ (10 : Int32) = 0 := by decide
    refine am_from (tb_Writer_writeNumber (ok_Waiting_append hG) (by decide)) k_Writer_writeNumber 400 ?_
    simp only [q_Writer_writeNumber_27, r_Writer_writeNumber_0, r_Writer_writeNumber_1, r_Writer_writeNumber_4, r_Writer_writeNumber_5, r_Writer_writeNumber_8, r_Writer_writeNumber_10, r_Writer_writeNumber_13, r_Writer_writeNumber_14, r_Writer_writeNumber_17, r_Writer_writeNumber_18, r_Writer_writeNumber_19, r_Writer_writeNumber_22, r_Writer_writeNumber_23, r_Writer_writeNumber_24, r_Writer_writeNumber_26, r_Writer_writeNumber_27, r_Writer_writeNumber_28, r_Writer_writeNumber_31, r_Writer_writeNumber_32, r_Writer_writeNumber_33, r_Writer_writeNumber_36, r_Writer_writeNumber_37, r_Writer_writeNumber_38, r_Writer_writeNumber_41, r_Writer_writeNumber_42, r_Writer_writeNumber_45, r_Writer_writeNumber_47, r_Writer_writeNumber_48, r_Writer_writeNumber_49, r_Writer_writeNumber_50, r_Writer_writeNumber_52, r_Writer_writeNumber_53, r_Writer_writeNumber_54, r_Writer_writeNumber_57, r_Writer_writeNumber_58, r_Writer_writeNumber_60, r_Writer_writeNumber_61, r_Writer_writeNumber_62, r_Writer_writeNumber_65, ai_iload, ai_ifge, ai_aload, ai_getf, ai_const, ai_callv2, am_push, am_few, ai_ineg, ai_goto, ai_istore, am_cut_0, am_cut_s, am_c1, ai_ifle, ai_cmpge, ai_cmpne, ai_idiv, ai_irem, ai_iadd, ai_bin, ai_vret, kd_0, fd_0_0, fd_0_1, fd_0_2, fd_0_3, fd_0_4, kd_1, fd_1_0, fd_1_1, ln_2, kd_3, fd_3_0, fd_3_1, fd_3_2, fd_3_3, fd_3_4, fd_3_5, fd_3_6, fd_3_7, fd_3_8, fd_3_9, ln_4, ln_5, ln_6, ln_7, ln_8, ln_9, ln_10, kd_11, fd_11_0, fd_11_1, fd_11_2, fd_11_3, fd_11_4, kd_12, fd_12_0, fd_12_1, fd_12_2, fd_12_3, ln_13, ln_14, ln_15, kd_16, fd_16_0, fd_16_1, fd_16_2, ln_17, kd_18, fd_18_0, fd_18_1, kd_19, fd_19_0, fd_19_1, fd_19_2, fd_19_3, fd_19_4, fd_19_5, fd_19_6, fd_19_7, fd_19_8, fd_19_9, fd_19_10, fd_19_11, fd_19_12, fd_19_13, fd_19_14, fd_19_15, fd_19_16, fd_19_17, fd_19_18, fd_19_19, fd_19_20, ln_20, ln_21, ln_22, ln_23, ln_24, ln_25, ln_26, ln_27, ln_28, ln_29, ln_30, ln_31, ln_32, List.getElem?_cons_zero, List.getElem?_cons_succ, List.set_cons_zero, List.set_cons_succ, true_and, and_true, ↓reduceIte, Int32.reduceLT, Int32.reduceLE, li_10, or_true, true_or, ↓sp_Waiting_append, e1, e2, e3, not_false_eq_true, pw_div k (by omega)]
    simp only [w_dgs] at h
    have g := fun M => ih M (by omega)
    by_cases c1 : v < pw (k + 1)
    · simp only [c1, ↓reduceIte] at h ⊢
      by_cases c2 : pw (k + 1) = 1
      · simp only [c2, ↓reduceIte] at h ⊢
        exact ⟨hw, g _ (sayM_ok hw) h⟩
      · simp only [c2, ↓reduceIte] at h ⊢
        exact g _ hw h
    · simp only [c1, ↓reduceIte] at h ⊢
      exact ⟨hw, g _ (sayM_ok hw) h⟩
set_option maxRecDepth 100000 in
set_option maxHeartbeats 4000000 in
theorem ok_Writer_writeNumber {G : aG} (hG : am_ok G) : am_Sp G Y_Writer_writeNumber 1 sp_Writer_writeNumber := by
  intro as M K h
  unfold sp_Writer_writeNumber at h
  split at h
  · next a v =>
    obtain ⟨rfl, hw, h⟩ := h
    unfold w_num at h
    by_cases c : 0 ≤ v
    · rw [if_pos c] at h
      refine am_entry hG (by decide +kernel) (Nat.le_of_ble_eq_true rfl) ?_
      refine am_go (cuts := k_Writer_writeNumber) (tb_Writer_writeNumber (ok_Waiting_append hG) (by decide)) 400 _ _ _ _ ?_
      change am_run _ _ _ _ _ _ [some (.ref 18), some (.int v), none, none] [] _
      simp only [q_Writer_writeNumber_27, r_Writer_writeNumber_0, r_Writer_writeNumber_1, r_Writer_writeNumber_4, r_Writer_writeNumber_5, r_Writer_writeNumber_8, r_Writer_writeNumber_10, r_Writer_writeNumber_13, r_Writer_writeNumber_14, r_Writer_writeNumber_17, r_Writer_writeNumber_18, r_Writer_writeNumber_19, r_Writer_writeNumber_22, r_Writer_writeNumber_23, r_Writer_writeNumber_24, r_Writer_writeNumber_26, r_Writer_writeNumber_27, r_Writer_writeNumber_28, r_Writer_writeNumber_31, r_Writer_writeNumber_32, r_Writer_writeNumber_33, r_Writer_writeNumber_36, r_Writer_writeNumber_37, r_Writer_writeNumber_38, r_Writer_writeNumber_41, r_Writer_writeNumber_42, r_Writer_writeNumber_45, r_Writer_writeNumber_47, r_Writer_writeNumber_48, r_Writer_writeNumber_49, r_Writer_writeNumber_50, r_Writer_writeNumber_52, r_Writer_writeNumber_53, r_Writer_writeNumber_54, r_Writer_writeNumber_57, r_Writer_writeNumber_58, r_Writer_writeNumber_60, r_Writer_writeNumber_61, r_Writer_writeNumber_62, r_Writer_writeNumber_65, ai_iload, ai_ifge, ai_aload, ai_getf, ai_const, ai_callv2, am_push, am_few, ai_ineg, ai_goto, ai_istore, am_cut_0, am_cut_s, am_c1, ai_ifle, ai_cmpge, ai_cmpne, ai_idiv, ai_irem, ai_iadd, ai_bin, ai_vret, kd_0, fd_0_0, fd_0_1, fd_0_2, fd_0_3, fd_0_4, kd_1, fd_1_0, fd_1_1, ln_2, kd_3, fd_3_0, fd_3_1, fd_3_2, fd_3_3, fd_3_4, fd_3_5, fd_3_6, fd_3_7, fd_3_8, fd_3_9, ln_4, ln_5, ln_6, ln_7, ln_8, ln_9, ln_10, kd_11, fd_11_0, fd_11_1, fd_11_2, fd_11_3, fd_11_4, kd_12, fd_12_0, fd_12_1, fd_12_2, fd_12_3, ln_13, ln_14, ln_15, kd_16, fd_16_0, fd_16_1, fd_16_2, ln_17, kd_18, fd_18_0, fd_18_1, kd_19, fd_19_0, fd_19_1, fd_19_2, fd_19_3, fd_19_4, fd_19_5, fd_19_6, fd_19_7, fd_19_8, fd_19_9, fd_19_10, fd_19_11, fd_19_12, fd_19_13, fd_19_14, fd_19_15, fd_19_16, fd_19_17, fd_19_18, fd_19_19, fd_19_20, ln_20, ln_21, ln_22, ln_23, ln_24, ln_25, ln_26, ln_27, ln_28, ln_29, ln_30, ln_31, ln_32, List.getElem?_cons_zero, List.getElem?_cons_succ, List.set_cons_zero, List.set_cons_succ, true_and, and_true, ↓reduceIte, Int32.reduceLT, Int32.reduceLE, li_10, or_true, true_or, ↓sp_Waiting_append, c]
      exact lp_Writer_writeNumber hG 9 M (by omega) hw h
    · rw [if_neg c] at h
      refine am_entry hG (by decide +kernel) (Nat.le_of_ble_eq_true rfl) ?_
      refine am_go (cuts := k_Writer_writeNumber) (tb_Writer_writeNumber (ok_Waiting_append hG) (by decide)) 400 _ _ _ _ ?_
      change am_run _ _ _ _ _ _ [some (.ref 18), some (.int v), none, none] [] _
      simp only [q_Writer_writeNumber_27, r_Writer_writeNumber_0, r_Writer_writeNumber_1, r_Writer_writeNumber_4, r_Writer_writeNumber_5, r_Writer_writeNumber_8, r_Writer_writeNumber_10, r_Writer_writeNumber_13, r_Writer_writeNumber_14, r_Writer_writeNumber_17, r_Writer_writeNumber_18, r_Writer_writeNumber_19, r_Writer_writeNumber_22, r_Writer_writeNumber_23, r_Writer_writeNumber_24, r_Writer_writeNumber_26, r_Writer_writeNumber_27, r_Writer_writeNumber_28, r_Writer_writeNumber_31, r_Writer_writeNumber_32, r_Writer_writeNumber_33, r_Writer_writeNumber_36, r_Writer_writeNumber_37, r_Writer_writeNumber_38, r_Writer_writeNumber_41, r_Writer_writeNumber_42, r_Writer_writeNumber_45, r_Writer_writeNumber_47, r_Writer_writeNumber_48, r_Writer_writeNumber_49, r_Writer_writeNumber_50, r_Writer_writeNumber_52, r_Writer_writeNumber_53, r_Writer_writeNumber_54, r_Writer_writeNumber_57, r_Writer_writeNumber_58, r_Writer_writeNumber_60, r_Writer_writeNumber_61, r_Writer_writeNumber_62, r_Writer_writeNumber_65, ai_iload, ai_ifge, ai_aload, ai_getf, ai_const, ai_callv2, am_push, am_few, ai_ineg, ai_goto, ai_istore, am_cut_0, am_cut_s, am_c1, ai_ifle, ai_cmpge, ai_cmpne, ai_idiv, ai_irem, ai_iadd, ai_bin, ai_vret, kd_0, fd_0_0, fd_0_1, fd_0_2, fd_0_3, fd_0_4, kd_1, fd_1_0, fd_1_1, ln_2, kd_3, fd_3_0, fd_3_1, fd_3_2, fd_3_3, fd_3_4, fd_3_5, fd_3_6, fd_3_7, fd_3_8, fd_3_9, ln_4, ln_5, ln_6, ln_7, ln_8, ln_9, ln_10, kd_11, fd_11_0, fd_11_1, fd_11_2, fd_11_3, fd_11_4, kd_12, fd_12_0, fd_12_1, fd_12_2, fd_12_3, ln_13, ln_14, ln_15, kd_16, fd_16_0, fd_16_1, fd_16_2, ln_17, kd_18, fd_18_0, fd_18_1, kd_19, fd_19_0, fd_19_1, fd_19_2, fd_19_3, fd_19_4, fd_19_5, fd_19_6, fd_19_7, fd_19_8, fd_19_9, fd_19_10, fd_19_11, fd_19_12, fd_19_13, fd_19_14, fd_19_15, fd_19_16, fd_19_17, fd_19_18, fd_19_19, fd_19_20, ln_20, ln_21, ln_22, ln_23, ln_24, ln_25, ln_26, ln_27, ln_28, ln_29, ln_30, ln_31, ln_32, List.getElem?_cons_zero, List.getElem?_cons_succ, List.set_cons_zero, List.set_cons_succ, true_and, and_true, ↓reduceIte, Int32.reduceLT, Int32.reduceLE, li_10, or_true, true_or, ↓sp_Waiting_append, c]
      exact ⟨hw, lp_Writer_writeNumber hG 9 _ (by omega) (sayM_ok hw) h⟩
  · cases h
end
section
/-! WRITING: nodes and pairs -/
def w_tail (M : aM) (f : Int32 → List Int32) (y : Int32) : List Int32 := if n_kind M y = 5 then [41] else 32 :: 46 :: 32 :: (f y ++ [41])
def w_rest (M : aM) (f : Int32 → List Int32) : Nat → Int32 → List Int32
  | 0, y => w_tail M f y
  | r + 1, y => if n_kind M y = 4 then 32 :: (f (n_head M y) ++ w_rest M f r (n_tail M y)) else w_tail M f y
def w_pair (M : aM) (f : Int32 → List Int32) (x : Int32) : List Int32 := if n_quo M x = -1 then 40 :: (f (n_head M x) ++ w_rest M f 200 (n_tail M x)) else 39 :: f (n_quo M x)
def w_node (M : aM) : Nat → Int32 → List Int32
  | 0, _ => []
  | j + 1, x => if n_kind M x = 1 then w_num (n_amt M x) else if n_kind M x = 2 then w_name M x else if n_kind M x = 3 then w_str M x else if n_kind M x = 4 then w_pair M (w_node M j) x else if n_kind M x = 5 then [40, 41] else []
theorem sN.bts {M0 M : aM} (h : sN M0 M) (x : Int32) : ∀ (r k : Nat), w_bts M x r k = w_bts M0 x r k
  | 0, _ => rfl
  | r + 1, k => by unfold w_bts; rw [h.byte, sN.bts h x r (k + 1)]
theorem sN.stb {M0 M : aM} (h : sN M0 M) (x : Int32) : ∀ (r k : Nat), w_stb M x r k = w_stb M0 x r k
  | 0, _ => rfl
  | r + 1, k => by unfold w_stb; rw [h.byte, sN.stb h x r (k + 1)]
theorem sN.rest {M0 M : aM} (h : sN M0 M) (f : Int32 → List Int32) : ∀ (r : Nat) (y : Int32), w_rest M f r y = w_rest M0 f r y
  | 0, y => by unfold w_rest w_tail; rw [h.kind]
  | r + 1, y => by unfold w_rest w_tail; rw [h.kind, h.head, h.tail, sN.rest h f r]
theorem sN.node {M0 M : aM} (h : sN M0 M) : ∀ (j : Nat) (x : Int32), w_node M j x = w_node M0 j x
  | 0, _ => rfl
  | j + 1, x => by
    have e : w_node M j = w_node M0 j := funext (sN.node h j)
    unfold w_node w_name w_str w_pair
    rw [h.kind, h.amt, h.bts, h.stb, h.quo, e, h.head, h.tail, h.rest]
def sp_Writer_writeNode (j : Nat) : aS := fun as M K => match as with
  | [.ref a, .int x, .int d] => a = 18 ∧ (d = nI (16 - j) ∧ j ≤ 16) ∧ wt_ok M ∧ K none (saysM M (w_node M j x))
  | _ => False
def sp_Writer_writePair (j : Nat) : aS := fun as M K => match as with
  | [.ref a, .int x, .int d] => a = 18 ∧ (d = nI (16 - (j + 1)) ∧ j + 1 ≤ 16) ∧ wt_ok M ∧ K none (saysM M (w_pair M (w_node M j) x))
  | _ => False
set_option maxRecDepth 100000 in
set_option maxHeartbeats 4000000 in
theorem lp_Writer_writePair {G : aG} (hG : am_ok G) {K : aR} {M0 : aM} {x q : Int32} {j : Nat} (hj : j + 1 ≤ 16) (hI : am_Sp G Y_Writer_writeNode (4 + 2 * j) (sp_Writer_writeNode j)) : ∀ (r k : Nat) (y : Int32) (M : aM), k + r = 200 → sN M0 M → wt_ok M → K none (saysM M (w_rest M0 (w_node M0 j) r y)) → am_X G Y_Writer_writePair (4 + 2 * j + 1) K 69 [some (.ref 18), some (.int x), some (.int (nI (16 - (j + 1)))), some (.int q), some (.int y), some (.int (nI k))] [] M := by
  intro r
  have e3 : nI (16 - (j + 1)) + 1 = nI (16 - j) := by rw [nI_1, show 16 - (j + 1) + 1 = 16 - j by omega]
  have tail : ∀ (y : Int32) (M : aM), sN M0 M → wt_ok M → K none (saysM M (w_tail M0 (w_node M0 j) y)) → (if n_kind M0 y = 5 then wt_ok M ∧ K none (sayM M 41) else wt_ok M ∧ wt_ok (sayM M 32) ∧ wt_ok (sayM (sayM M 32) 46) ∧ j ≤ 16 ∧ wt_ok (sayM (sayM (sayM M 32) 46) 32) ∧ wt_ok (saysM (sayM (sayM (sayM M 32) 46) 32) (w_node (sayM (sayM (sayM M 32) 46) 32) j y)) ∧ K none (sayM (saysM (sayM (sayM (sayM M 32) 46) 32) (w_node (sayM (sayM (sayM M 32) 46) 32) j y)) 41)) := by
    intro y M hN hw h
    unfold w_tail at h
    by_cases c : n_kind M0 y = 5
    · simp only [c, ↓reduceIte] at h ⊢; exact ⟨hw, h⟩
    · simp only [c, ↓reduceIte] at h ⊢
      have hN3 := ((hN.say 32).say 46).say 32
      rw [hN3.node]
      rw [saysM_cons, saysM_cons, saysM_cons, saysM_app, saysM_cons, saysM_nil] at h
      have hw3 := sayM_ok (b := 32) (sayM_ok (b := 46) (sayM_ok (b := 32) hw))
      exact ⟨hw, sayM_ok hw, sayM_ok (sayM_ok hw), by omega, hw3, saysM_ok _ hw3, h⟩
  induction r with
  | zero =>
    intro k y M hk hN hw h
    have e1 : ¬ nI k < 200 := nI_nlt (b := 200) (a := k) (by omega) (by omega)
    refine am_from (tb_Writer_writePair (ok_Nodes_quotedIn hG) (by omega) (ok_Waiting_append hG) (by omega) hI (by omega) (ok_Nodes_headOf hG) (by omega) (ok_Nodes_tailOf hG) (by omega) (ok_Nodes_kindOf hG) (by omega)) k_Writer_writePair 400 ?_
    simp only [q_Writer_writePair_69, r_Writer_writePair_0, r_Writer_writePair_1, r_Writer_writePair_4, r_Writer_writePair_5, r_Writer_writePair_8, r_Writer_writePair_9, r_Writer_writePair_10, r_Writer_writePair_11, r_Writer_writePair_14, r_Writer_writePair_15, r_Writer_writePair_18, r_Writer_writePair_20, r_Writer_writePair_23, r_Writer_writePair_24, r_Writer_writePair_25, r_Writer_writePair_26, r_Writer_writePair_27, r_Writer_writePair_28, r_Writer_writePair_31, r_Writer_writePair_32, r_Writer_writePair_33, r_Writer_writePair_36, r_Writer_writePair_38, r_Writer_writePair_41, r_Writer_writePair_42, r_Writer_writePair_43, r_Writer_writePair_46, r_Writer_writePair_47, r_Writer_writePair_50, r_Writer_writePair_51, r_Writer_writePair_52, r_Writer_writePair_53, r_Writer_writePair_56, r_Writer_writePair_57, r_Writer_writePair_60, r_Writer_writePair_61, r_Writer_writePair_64, r_Writer_writePair_66, r_Writer_writePair_67, r_Writer_writePair_69, r_Writer_writePair_71, r_Writer_writePair_74, r_Writer_writePair_77, r_Writer_writePair_78, r_Writer_writePair_81, r_Writer_writePair_83, r_Writer_writePair_86, r_Writer_writePair_87, r_Writer_writePair_90, r_Writer_writePair_91, r_Writer_writePair_94, r_Writer_writePair_96, r_Writer_writePair_99, r_Writer_writePair_100, r_Writer_writePair_101, r_Writer_writePair_104, r_Writer_writePair_106, r_Writer_writePair_109, r_Writer_writePair_110, r_Writer_writePair_111, r_Writer_writePair_112, r_Writer_writePair_115, r_Writer_writePair_116, r_Writer_writePair_119, r_Writer_writePair_121, r_Writer_writePair_124, r_Writer_writePair_126, r_Writer_writePair_129, r_Writer_writePair_132, r_Writer_writePair_133, r_Writer_writePair_136, r_Writer_writePair_138, r_Writer_writePair_141, r_Writer_writePair_142, r_Writer_writePair_145, r_Writer_writePair_146, r_Writer_writePair_149, r_Writer_writePair_151, r_Writer_writePair_154, r_Writer_writePair_155, r_Writer_writePair_158, r_Writer_writePair_160, r_Writer_writePair_163, r_Writer_writePair_164, r_Writer_writePair_167, r_Writer_writePair_169, r_Writer_writePair_172, r_Writer_writePair_173, r_Writer_writePair_175, r_Writer_writePair_176, r_Writer_writePair_177, r_Writer_writePair_178, r_Writer_writePair_181, r_Writer_writePair_182, r_Writer_writePair_185, r_Writer_writePair_187, r_Writer_writePair_190, ai_aload, ai_getf, ai_iload, ai_callv2, am_push, am_few, ai_istore, am_cut_0, am_cut_s, am_c1, ai_const, ai_cmpeq, ai_iadd, ai_bin, ai_callv3, ai_vret, ai_cmpge, ai_cmpne, ai_iinc, ai_goto, kd_0, fd_0_0, fd_0_1, fd_0_2, fd_0_3, fd_0_4, kd_1, fd_1_0, fd_1_1, ln_2, kd_3, fd_3_0, fd_3_1, fd_3_2, fd_3_3, fd_3_4, fd_3_5, fd_3_6, fd_3_7, fd_3_8, fd_3_9, ln_4, ln_5, ln_6, ln_7, ln_8, ln_9, ln_10, kd_11, fd_11_0, fd_11_1, fd_11_2, fd_11_3, fd_11_4, kd_12, fd_12_0, fd_12_1, fd_12_2, fd_12_3, ln_13, ln_14, ln_15, kd_16, fd_16_0, fd_16_1, fd_16_2, ln_17, kd_18, fd_18_0, fd_18_1, kd_19, fd_19_0, fd_19_1, fd_19_2, fd_19_3, fd_19_4, fd_19_5, fd_19_6, fd_19_7, fd_19_8, fd_19_9, fd_19_10, fd_19_11, fd_19_12, fd_19_13, fd_19_14, fd_19_15, fd_19_16, fd_19_17, fd_19_18, fd_19_19, fd_19_20, ln_20, ln_21, ln_22, ln_23, ln_24, ln_25, ln_26, ln_27, ln_28, ln_29, ln_30, ln_31, ln_32, List.getElem?_cons_zero, List.getElem?_cons_succ, List.set_cons_zero, List.set_cons_succ, true_and, and_true, ↓reduceIte, Int32.reduceLT, Int32.reduceLE, li_10, or_true, true_or, ↓sp_Nodes_kindOf, ↓sp_Waiting_append, ↓sp_Writer_writeNode, e1, e3, hN.kind]
    exact tail y M hN hw h
  | succ r ih =>
    intro k y M hk hN hw h
    have e1 : nI k < 200 := nI_lt (b := 200) (by omega) (by decide)
    refine am_from (tb_Writer_writePair (ok_Nodes_quotedIn hG) (by omega) (ok_Waiting_append hG) (by omega) hI (by omega) (ok_Nodes_headOf hG) (by omega) (ok_Nodes_tailOf hG) (by omega) (ok_Nodes_kindOf hG) (by omega)) k_Writer_writePair 400 ?_
    simp only [q_Writer_writePair_69, r_Writer_writePair_0, r_Writer_writePair_1, r_Writer_writePair_4, r_Writer_writePair_5, r_Writer_writePair_8, r_Writer_writePair_9, r_Writer_writePair_10, r_Writer_writePair_11, r_Writer_writePair_14, r_Writer_writePair_15, r_Writer_writePair_18, r_Writer_writePair_20, r_Writer_writePair_23, r_Writer_writePair_24, r_Writer_writePair_25, r_Writer_writePair_26, r_Writer_writePair_27, r_Writer_writePair_28, r_Writer_writePair_31, r_Writer_writePair_32, r_Writer_writePair_33, r_Writer_writePair_36, r_Writer_writePair_38, r_Writer_writePair_41, r_Writer_writePair_42, r_Writer_writePair_43, r_Writer_writePair_46, r_Writer_writePair_47, r_Writer_writePair_50, r_Writer_writePair_51, r_Writer_writePair_52, r_Writer_writePair_53, r_Writer_writePair_56, r_Writer_writePair_57, r_Writer_writePair_60, r_Writer_writePair_61, r_Writer_writePair_64, r_Writer_writePair_66, r_Writer_writePair_67, r_Writer_writePair_69, r_Writer_writePair_71, r_Writer_writePair_74, r_Writer_writePair_77, r_Writer_writePair_78, r_Writer_writePair_81, r_Writer_writePair_83, r_Writer_writePair_86, r_Writer_writePair_87, r_Writer_writePair_90, r_Writer_writePair_91, r_Writer_writePair_94, r_Writer_writePair_96, r_Writer_writePair_99, r_Writer_writePair_100, r_Writer_writePair_101, r_Writer_writePair_104, r_Writer_writePair_106, r_Writer_writePair_109, r_Writer_writePair_110, r_Writer_writePair_111, r_Writer_writePair_112, r_Writer_writePair_115, r_Writer_writePair_116, r_Writer_writePair_119, r_Writer_writePair_121, r_Writer_writePair_124, r_Writer_writePair_126, r_Writer_writePair_129, r_Writer_writePair_132, r_Writer_writePair_133, r_Writer_writePair_136, r_Writer_writePair_138, r_Writer_writePair_141, r_Writer_writePair_142, r_Writer_writePair_145, r_Writer_writePair_146, r_Writer_writePair_149, r_Writer_writePair_151, r_Writer_writePair_154, r_Writer_writePair_155, r_Writer_writePair_158, r_Writer_writePair_160, r_Writer_writePair_163, r_Writer_writePair_164, r_Writer_writePair_167, r_Writer_writePair_169, r_Writer_writePair_172, r_Writer_writePair_173, r_Writer_writePair_175, r_Writer_writePair_176, r_Writer_writePair_177, r_Writer_writePair_178, r_Writer_writePair_181, r_Writer_writePair_182, r_Writer_writePair_185, r_Writer_writePair_187, r_Writer_writePair_190, ai_aload, ai_getf, ai_iload, ai_callv2, am_push, am_few, ai_istore, am_cut_0, am_cut_s, am_c1, ai_const, ai_cmpeq, ai_iadd, ai_bin, ai_callv3, ai_vret, ai_cmpge, ai_cmpne, ai_iinc, ai_goto, kd_0, fd_0_0, fd_0_1, fd_0_2, fd_0_3, fd_0_4, kd_1, fd_1_0, fd_1_1, ln_2, kd_3, fd_3_0, fd_3_1, fd_3_2, fd_3_3, fd_3_4, fd_3_5, fd_3_6, fd_3_7, fd_3_8, fd_3_9, ln_4, ln_5, ln_6, ln_7, ln_8, ln_9, ln_10, kd_11, fd_11_0, fd_11_1, fd_11_2, fd_11_3, fd_11_4, kd_12, fd_12_0, fd_12_1, fd_12_2, fd_12_3, ln_13, ln_14, ln_15, kd_16, fd_16_0, fd_16_1, fd_16_2, ln_17, kd_18, fd_18_0, fd_18_1, kd_19, fd_19_0, fd_19_1, fd_19_2, fd_19_3, fd_19_4, fd_19_5, fd_19_6, fd_19_7, fd_19_8, fd_19_9, fd_19_10, fd_19_11, fd_19_12, fd_19_13, fd_19_14, fd_19_15, fd_19_16, fd_19_17, fd_19_18, fd_19_19, fd_19_20, ln_20, ln_21, ln_22, ln_23, ln_24, ln_25, ln_26, ln_27, ln_28, ln_29, ln_30, ln_31, ln_32, List.getElem?_cons_zero, List.getElem?_cons_succ, List.set_cons_zero, List.set_cons_succ, true_and, and_true, ↓reduceIte, Int32.reduceLT, Int32.reduceLE, li_10, or_true, true_or, ↓sp_Nodes_kindOf, ↓sp_Nodes_headOf, ↓sp_Nodes_tailOf, ↓sp_Waiting_append, ↓sp_Writer_writeNode, e1, e3, hN.kind, nI_1]
    simp only [w_rest] at h
    by_cases c : n_kind M0 y = 4
    · simp only [c, ↓reduceIte] at h ⊢
      have hN1 := hN.say 32
      have hw1 := sayM_ok (b := 32) hw
      rw [hN1.head, hN1.node]
      have hN2 := sN.says (w_node M0 j (n_head M0 y)) hN1
      rw [hN2.tail]
      rw [saysM_cons, saysM_app] at h
      exact ⟨hw, by omega, hw1, ih (k + 1) _ _ (by omega) hN2 (saysM_ok _ hw1) h⟩
    · simp only [c, ↓reduceIte] at h ⊢
      exact tail y M hN hw h
set_option maxRecDepth 100000 in
set_option maxHeartbeats 4000000 in
theorem ok_Writer_writePair {G : aG} (hG : am_ok G) {j : Nat} (hI : am_Sp G Y_Writer_writeNode (4 + 2 * j) (sp_Writer_writeNode j)) : am_Sp G Y_Writer_writePair (4 + 2 * j + 1) (sp_Writer_writePair j) := by
  intro as M K h
  unfold sp_Writer_writePair at h
  split at h
  · next a x d =>
    obtain ⟨rfl, ⟨rfl, hj⟩, hw, h⟩ := h
    have e3 : nI (16 - (j + 1)) + 1 = nI (16 - j) := by rw [nI_1, show 16 - (j + 1) + 1 = 16 - j by omega]
    refine am_entry hG (by decide +kernel) (Nat.le_of_ble_eq_true rfl) ?_
    refine am_go (cuts := k_Writer_writePair) (tb_Writer_writePair (ok_Nodes_quotedIn hG) (by omega) (ok_Waiting_append hG) (by omega) hI (by omega) (ok_Nodes_headOf hG) (by omega) (ok_Nodes_tailOf hG) (by omega) (ok_Nodes_kindOf hG) (by omega)) 400 _ _ _ _ ?_
    change am_run _ _ _ _ _ _ [some (.ref 18), some (.int x), some (.int (nI (16 - (j + 1)))), none, none, none] [] _
    simp only [q_Writer_writePair_69, r_Writer_writePair_0, r_Writer_writePair_1, r_Writer_writePair_4, r_Writer_writePair_5, r_Writer_writePair_8, r_Writer_writePair_9, r_Writer_writePair_10, r_Writer_writePair_11, r_Writer_writePair_14, r_Writer_writePair_15, r_Writer_writePair_18, r_Writer_writePair_20, r_Writer_writePair_23, r_Writer_writePair_24, r_Writer_writePair_25, r_Writer_writePair_26, r_Writer_writePair_27, r_Writer_writePair_28, r_Writer_writePair_31, r_Writer_writePair_32, r_Writer_writePair_33, r_Writer_writePair_36, r_Writer_writePair_38, r_Writer_writePair_41, r_Writer_writePair_42, r_Writer_writePair_43, r_Writer_writePair_46, r_Writer_writePair_47, r_Writer_writePair_50, r_Writer_writePair_51, r_Writer_writePair_52, r_Writer_writePair_53, r_Writer_writePair_56, r_Writer_writePair_57, r_Writer_writePair_60, r_Writer_writePair_61, r_Writer_writePair_64, r_Writer_writePair_66, r_Writer_writePair_67, r_Writer_writePair_69, r_Writer_writePair_71, r_Writer_writePair_74, r_Writer_writePair_77, r_Writer_writePair_78, r_Writer_writePair_81, r_Writer_writePair_83, r_Writer_writePair_86, r_Writer_writePair_87, r_Writer_writePair_90, r_Writer_writePair_91, r_Writer_writePair_94, r_Writer_writePair_96, r_Writer_writePair_99, r_Writer_writePair_100, r_Writer_writePair_101, r_Writer_writePair_104, r_Writer_writePair_106, r_Writer_writePair_109, r_Writer_writePair_110, r_Writer_writePair_111, r_Writer_writePair_112, r_Writer_writePair_115, r_Writer_writePair_116, r_Writer_writePair_119, r_Writer_writePair_121, r_Writer_writePair_124, r_Writer_writePair_126, r_Writer_writePair_129, r_Writer_writePair_132, r_Writer_writePair_133, r_Writer_writePair_136, r_Writer_writePair_138, r_Writer_writePair_141, r_Writer_writePair_142, r_Writer_writePair_145, r_Writer_writePair_146, r_Writer_writePair_149, r_Writer_writePair_151, r_Writer_writePair_154, r_Writer_writePair_155, r_Writer_writePair_158, r_Writer_writePair_160, r_Writer_writePair_163, r_Writer_writePair_164, r_Writer_writePair_167, r_Writer_writePair_169, r_Writer_writePair_172, r_Writer_writePair_173, r_Writer_writePair_175, r_Writer_writePair_176, r_Writer_writePair_177, r_Writer_writePair_178, r_Writer_writePair_181, r_Writer_writePair_182, r_Writer_writePair_185, r_Writer_writePair_187, r_Writer_writePair_190, ai_aload, ai_getf, ai_iload, ai_callv2, am_push, am_few, ai_istore, am_cut_0, am_cut_s, am_c1, ai_const, ai_cmpeq, ai_iadd, ai_bin, ai_callv3, ai_vret, ai_cmpge, ai_cmpne, ai_iinc, ai_goto, kd_0, fd_0_0, fd_0_1, fd_0_2, fd_0_3, fd_0_4, kd_1, fd_1_0, fd_1_1, ln_2, kd_3, fd_3_0, fd_3_1, fd_3_2, fd_3_3, fd_3_4, fd_3_5, fd_3_6, fd_3_7, fd_3_8, fd_3_9, ln_4, ln_5, ln_6, ln_7, ln_8, ln_9, ln_10, kd_11, fd_11_0, fd_11_1, fd_11_2, fd_11_3, fd_11_4, kd_12, fd_12_0, fd_12_1, fd_12_2, fd_12_3, ln_13, ln_14, ln_15, kd_16, fd_16_0, fd_16_1, fd_16_2, ln_17, kd_18, fd_18_0, fd_18_1, kd_19, fd_19_0, fd_19_1, fd_19_2, fd_19_3, fd_19_4, fd_19_5, fd_19_6, fd_19_7, fd_19_8, fd_19_9, fd_19_10, fd_19_11, fd_19_12, fd_19_13, fd_19_14, fd_19_15, fd_19_16, fd_19_17, fd_19_18, fd_19_19, fd_19_20, ln_20, ln_21, ln_22, ln_23, ln_24, ln_25, ln_26, ln_27, ln_28, ln_29, ln_30, ln_31, ln_32, List.getElem?_cons_zero, List.getElem?_cons_succ, List.set_cons_zero, List.set_cons_succ, true_and, and_true, ↓reduceIte, Int32.reduceLT, Int32.reduceLE, li_10, or_true, true_or, ↓sp_Nodes_quotedIn, ↓sp_Nodes_kindOf, ↓sp_Nodes_headOf, ↓sp_Nodes_tailOf, ↓sp_Waiting_append, ↓sp_Writer_writeNode, e3]
    unfold w_pair at h
    by_cases c : n_quo M x = -1
    · simp only [c, ↓reduceIte] at h ⊢
      have hN1 := (sN.rf M).say 40
      have hw1 := sayM_ok (b := 40) hw
      rw [hN1.head, hN1.node]
      have hN2 := sN.says (w_node M j (n_head M x)) hN1
      rw [hN2.tail]
      rw [saysM_cons, saysM_app] at h
      exact ⟨hw, by omega, hw1, lp_Writer_writePair hG hj hI 200 0 _ _ rfl hN2 (saysM_ok _ hw1) h⟩
    · simp only [c, ↓reduceIte] at h ⊢
      have hN1 := (sN.rf M).say 39
      rw [hN1.node]
      exact ⟨hw, by omega, sayM_ok hw, h⟩
  · cases h
set_option maxRecDepth 100000 in
set_option maxHeartbeats 4000000 in
theorem ok_Writer_writeNode {G : aG} (hG : am_ok G) : ∀ j, am_Sp G Y_Writer_writeNode (4 + 2 * j) (sp_Writer_writeNode j) := by
  intro j
  induction j with
  | zero =>
    intro as M K h
    unfold sp_Writer_writeNode at h
    split at h
    · next a x d =>
      obtain ⟨rfl, ⟨rfl, -⟩, hw, h⟩ := h
      have e1 : (15 : Int32) < nI (16 - 0) := by decide
      refine am_entry hG (by decide +kernel) (Nat.le_of_ble_eq_true rfl) ?_
      refine am_go (cuts := k_Writer_writeNode) (tb_Writer_writeNode (ok_Nodes_kindOf hG) (by omega) (ok_Nodes_amountOf hG) (by omega) (ok_Writer_writeNumber hG) (by omega) (ok_Writer_writeName hG) (by omega) (ok_Writer_writeString hG) (by omega) (s_Writer_writePair := fun _ _ _ => False) (d_Writer_writePair := 0) (fun _ _ _ q => q.elim) (by omega) (ok_Waiting_append hG) (by omega)) 400 _ _ _ _ ?_
      change am_run _ _ _ _ _ _ [some (.ref 18), some (.int x), some (.int (nI (16 - 0)))] [] _
      simp only [r_Writer_writeNode_0, r_Writer_writeNode_1, r_Writer_writeNode_3, r_Writer_writeNode_6, r_Writer_writeNode_7, r_Writer_writeNode_8, r_Writer_writeNode_11, r_Writer_writeNode_12, r_Writer_writeNode_15, r_Writer_writeNode_48, r_Writer_writeNode_49, r_Writer_writeNode_50, r_Writer_writeNode_53, r_Writer_writeNode_54, r_Writer_writeNode_57, r_Writer_writeNode_60, r_Writer_writeNode_63, r_Writer_writeNode_64, r_Writer_writeNode_65, r_Writer_writeNode_68, r_Writer_writeNode_71, r_Writer_writeNode_72, r_Writer_writeNode_73, r_Writer_writeNode_76, r_Writer_writeNode_79, r_Writer_writeNode_80, r_Writer_writeNode_81, r_Writer_writeNode_82, r_Writer_writeNode_85, r_Writer_writeNode_88, r_Writer_writeNode_89, r_Writer_writeNode_92, r_Writer_writeNode_94, r_Writer_writeNode_97, r_Writer_writeNode_98, r_Writer_writeNode_101, r_Writer_writeNode_103, r_Writer_writeNode_106, r_Writer_writeNode_109, ai_iload, ai_const, ai_cmple, ai_vret, ai_aload, ai_getf, ai_callv2, am_push, am_few, ai_switch, am_sw, ai_goto, ai_callv3, kd_0, fd_0_0, fd_0_1, fd_0_2, fd_0_3, fd_0_4, kd_1, fd_1_0, fd_1_1, ln_2, kd_3, fd_3_0, fd_3_1, fd_3_2, fd_3_3, fd_3_4, fd_3_5, fd_3_6, fd_3_7, fd_3_8, fd_3_9, ln_4, ln_5, ln_6, ln_7, ln_8, ln_9, ln_10, kd_11, fd_11_0, fd_11_1, fd_11_2, fd_11_3, fd_11_4, kd_12, fd_12_0, fd_12_1, fd_12_2, fd_12_3, ln_13, ln_14, ln_15, kd_16, fd_16_0, fd_16_1, fd_16_2, ln_17, kd_18, fd_18_0, fd_18_1, kd_19, fd_19_0, fd_19_1, fd_19_2, fd_19_3, fd_19_4, fd_19_5, fd_19_6, fd_19_7, fd_19_8, fd_19_9, fd_19_10, fd_19_11, fd_19_12, fd_19_13, fd_19_14, fd_19_15, fd_19_16, fd_19_17, fd_19_18, fd_19_19, fd_19_20, ln_20, ln_21, ln_22, ln_23, ln_24, ln_25, ln_26, ln_27, ln_28, ln_29, ln_30, ln_31, ln_32, List.getElem?_cons_zero, List.getElem?_cons_succ, List.set_cons_zero, List.set_cons_succ, true_and, and_true, ↓reduceIte, Int32.reduceLT, Int32.reduceLE, li_10, or_true, true_or, e1]
      exact h
    · cases h
  | succ j ih =>
    intro as M K h
    unfold sp_Writer_writeNode at h
    split at h
    · next a x d =>
      obtain ⟨rfl, ⟨rfl, hj⟩, hw, h⟩ := h
      have e1 : ¬ (15 : Int32) < nI (16 - (j + 1)) := nI_nlt (a := 15) (b := 16 - (j + 1)) (by omega) (by decide)
      refine am_entry hG (by decide +kernel) (Nat.le_of_ble_eq_true rfl) ?_
      refine am_go (cuts := k_Writer_writeNode) (tb_Writer_writeNode (ok_Nodes_kindOf hG) (by omega) (ok_Nodes_amountOf hG) (by omega) (ok_Writer_writeNumber hG) (by omega) (ok_Writer_writeName hG) (by omega) (ok_Writer_writeString hG) (by omega) (ok_Writer_writePair hG ih) (by omega) (ok_Waiting_append hG) (by omega)) 400 _ _ _ _ ?_
      change am_run _ _ _ _ _ _ [some (.ref 18), some (.int x), some (.int (nI (16 - (j + 1))))] [] _
      simp only [r_Writer_writeNode_0, r_Writer_writeNode_1, r_Writer_writeNode_3, r_Writer_writeNode_6, r_Writer_writeNode_7, r_Writer_writeNode_8, r_Writer_writeNode_11, r_Writer_writeNode_12, r_Writer_writeNode_15, r_Writer_writeNode_48, r_Writer_writeNode_49, r_Writer_writeNode_50, r_Writer_writeNode_53, r_Writer_writeNode_54, r_Writer_writeNode_57, r_Writer_writeNode_60, r_Writer_writeNode_63, r_Writer_writeNode_64, r_Writer_writeNode_65, r_Writer_writeNode_68, r_Writer_writeNode_71, r_Writer_writeNode_72, r_Writer_writeNode_73, r_Writer_writeNode_76, r_Writer_writeNode_79, r_Writer_writeNode_80, r_Writer_writeNode_81, r_Writer_writeNode_82, r_Writer_writeNode_85, r_Writer_writeNode_88, r_Writer_writeNode_89, r_Writer_writeNode_92, r_Writer_writeNode_94, r_Writer_writeNode_97, r_Writer_writeNode_98, r_Writer_writeNode_101, r_Writer_writeNode_103, r_Writer_writeNode_106, r_Writer_writeNode_109, ai_iload, ai_const, ai_cmple, ai_vret, ai_aload, ai_getf, ai_callv2, am_push, am_few, ai_switch, am_sw, ai_goto, ai_callv3, kd_0, fd_0_0, fd_0_1, fd_0_2, fd_0_3, fd_0_4, kd_1, fd_1_0, fd_1_1, ln_2, kd_3, fd_3_0, fd_3_1, fd_3_2, fd_3_3, fd_3_4, fd_3_5, fd_3_6, fd_3_7, fd_3_8, fd_3_9, ln_4, ln_5, ln_6, ln_7, ln_8, ln_9, ln_10, kd_11, fd_11_0, fd_11_1, fd_11_2, fd_11_3, fd_11_4, kd_12, fd_12_0, fd_12_1, fd_12_2, fd_12_3, ln_13, ln_14, ln_15, kd_16, fd_16_0, fd_16_1, fd_16_2, ln_17, kd_18, fd_18_0, fd_18_1, kd_19, fd_19_0, fd_19_1, fd_19_2, fd_19_3, fd_19_4, fd_19_5, fd_19_6, fd_19_7, fd_19_8, fd_19_9, fd_19_10, fd_19_11, fd_19_12, fd_19_13, fd_19_14, fd_19_15, fd_19_16, fd_19_17, fd_19_18, fd_19_19, fd_19_20, ln_20, ln_21, ln_22, ln_23, ln_24, ln_25, ln_26, ln_27, ln_28, ln_29, ln_30, ln_31, ln_32, List.getElem?_cons_zero, List.getElem?_cons_succ, List.set_cons_zero, List.set_cons_succ, true_and, and_true, ↓reduceIte, Int32.reduceLT, Int32.reduceLE, li_10, or_true, true_or, ↓sp_Nodes_kindOf, ↓sp_Nodes_amountOf, ↓sp_Writer_writeNumber, ↓sp_Writer_writeName, ↓sp_Writer_writeString, ↓sp_Writer_writePair, ↓sp_Waiting_append, e1]
      simp only [w_node] at h
      by_cases c1 : n_kind M x = 1
      · rw [if_pos c1] at h ⊢; exact ⟨hw, h⟩
      rw [if_neg c1] at h ⊢
      by_cases c2 : n_kind M x = 2
      · rw [if_pos c2] at h ⊢; exact ⟨hw, h⟩
      rw [if_neg c2] at h ⊢
      by_cases c3 : n_kind M x = 3
      · rw [if_pos c3] at h ⊢; exact ⟨hw, h⟩
      rw [if_neg c3] at h ⊢
      by_cases c4 : n_kind M x = 4
      · rw [if_pos c4] at h ⊢; exact ⟨hj, hw, h⟩
      rw [if_neg c4] at h ⊢
      by_cases c5 : n_kind M x = 5
      · rw [if_pos c5] at h ⊢; exact ⟨hw, sayM_ok hw, h⟩
      rw [if_neg c5] at h ⊢
      exact h
    · cases h
end
