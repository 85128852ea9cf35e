section
/-! LIKENESS, as a function of the nodes; the desk's is that -/
def ltE (M : aM) (x y : Nat) : Nat → Nat → Bool
  | 0, _ => true
  | r + 1, k => decide (M 23 (20 * x + k) = M 23 (20 * y + k)) && ltE M x y r (k + 1)
def m_same (M : aM) (x y : Nat) : Bool := decide (M 21 x = M 21 y) && (decide (M 22 x = M 22 y) && (if M 21 x = 2 ∨ M 21 x = 3 then ltE M x y (cl (M 22 x)) 0 else true))
def lkF (M : aM) : Nat → Nat → Nat → Bool
  | 0, _, _ => false
  | f + 1, x, y => m_same M x y && (if M 21 x = 4 then lkF M f (cl (M 24 x)) (cl (M 24 y)) && lkF M f (cl (M 25 x)) (cl (M 25 y)) else true)
def lk (M : aM) (x y : Nat) : Bool := lkF M 200 x y
theorem same_k {M : aM} {x y : Nat} (h : m_same M x y = true) : M 21 x = M 21 y := by
  unfold m_same at h
  simp only [Bool.and_eq_true, decide_eq_true_eq] at h
  exact h.1
theorem lkF_irr {M : aM} (ht : tr_ok M) (hn : mN M ≤ 200) : ∀ (f g x y : Nat), x < mN M → y < mN M → 200 - x ≤ f → 200 - x ≤ g → lkF M f x y = lkF M g x y := by
  intro f
  induction f with
  | zero =>
    intro g x y hx hy h1 h2
    omega
  | succ f ih =>
    intro g x y hx hy h1 h2
    obtain ⟨g, rfl⟩ : ∃ q, g = q + 1 := ⟨g - 1, by omega⟩
    rw [lkF, lkF]
    cases c : m_same M x y
    · rfl
    by_cases c4 : M 21 x = 4
    · obtain ⟨h1', t1, eh, et, a1, a2, a3, a4⟩ := (ht x hx).2.2 c4
      obtain ⟨h2', t2, eh2, et2, d1, d2, d3, d4⟩ := (ht y hy).2.2 (by rw [← same_k c]; exact c4)
      rw [if_pos c4, if_pos c4, eh, et, eh2, et2, show cl (nI h1') = h1' from nI_clamp (by omega), show cl (nI t1) = t1 from nI_clamp (by omega), show cl (nI h2') = h2' from nI_clamp (by omega), show cl (nI t2) = t2 from nI_clamp (by omega)]
      rw [ih g h1' h2' a2 d2 (by omega) (by omega), ih g t1 t2 a4 d4 (by omega) (by omega)]
    · rw [if_neg c4, if_neg c4]
theorem lk_eq {M : aM} (ht : tr_ok M) (hn : mN M ≤ 200) {x y : Nat} (hx : x < mN M) (hy : y < mN M) : lk M x y = (m_same M x y && (if M 21 x = 4 then lk M (cl (M 24 x)) (cl (M 24 y)) && lk M (cl (M 25 x)) (cl (M 25 y)) else true)) := by
  unfold lk
  rw [lkF_irr ht hn 200 201 x y hx hy (by omega) (by omega), lkF]
/-- letters, on the desk -/
theorem ltE_eq {M : aM} {x y sx sy a : Nat} (hx : ∀ k, k < a → M 10 (sx + k) = M 23 (20 * x + k)) (hy : ∀ k, k < a → M 10 (sy + k) = M 23 (20 * y + k)) (b1 : ∀ k, k < a → n_byte M (nI x) (nI k) = M 10 (sx + k)) (b2' : ∀ k, k < a → n_byte M (nI y) (nI k) = M 10 (sy + k)) : ∀ (r k : Nat), k + r = a → sameL M (nI x) (nI y) r k = ltE M x y r k
  | 0, _, _ => rfl
  | r + 1, k, hk => by
    rw [sameL, ltE, ltE_eq hx hy b1 b2' r (k + 1) (by omega), b1 k (by omega), b2' k (by omega), hx k (by omega), hy k (by omega)]
theorem alk_lk {M : aM} (h : I3 M) (hX : RX M) : ∀ (x y : Nat), x < mN M → y < mN M → alk M 16 (nI x) (nI y) = lk M x y := by
  obtain ⟨n, lc, d, h1, h2, h3, h4, h6, h7⟩ := h.2.2
  obtain ⟨-, -, -, hc, -, ht, -⟩ := h.1
  have hm := StN_mN h1
  have h200 := h1.2.2.1
  obtain ⟨n', D, e35, hn', hR⟩ := hX
  have hnn : n' = n := (nI_eq (by omega) (by omega)).mp (by rw [← e35, h1.1])
  subst hnn
  rw [hm]
  have hN : ∀ z, z < n' → ∀ k : Int32, isN M (nI z) k = decide (M 4 z = k) := fun z hz k => by
    unfold isN
    rw [StN_has h1 hz, Bool.true_and, show cl (nI z) = z from nI_clamp (by omega)]
  have hK : ∀ z, z < n' → n_kind M (nI z) = M 4 z := fun z hz => by
    unfold n_kind
    rw [if_pos (StN_has h1 hz), show cl (nI z) = z from nI_clamp (by omega)]
  have hA : ∀ z, z < n' → n_amt M (nI z) = M 5 z := fun z hz => by
    unfold n_amt
    rw [if_pos (StN_has h1 hz), show cl (nI z) = z from nI_clamp (by omega)]
  -- two nodes that are not both pairs
  have base : ∀ x y, x < n' → y < n' → ¬ (M 4 x = 4 ∧ M 4 y = 4) → (decide (n_kind M (nI x) = n_kind M (nI y)) && n_same M (nI x) (nI y)) = lk M x y := by
    intro x y hx hy hne
    rw [lk_eq ht (by rw [hm]; exact h200) (by rw [hm]; exact hx) (by rw [hm]; exact hy), hK x hx, hK y hy]
    obtain ⟨p1, p2, p3, p4⟩ := h1.2.2.2 x hx
    obtain ⟨q1, q2, q3, q4⟩ := h1.2.2.2 y hy
    unfold n_same m_same
    rw [hA x hx, hA y hy, hN x hx, ← p1, ← p2, ← q1, ← q2]
    by_cases ck : M 4 x = M 4 y
    · have c4 : ¬ M 4 x = 4 := fun z => hne ⟨z, by rw [← ck]; exact z⟩
      rw [if_neg c4, Bool.and_true]
      by_cases ca : M 5 x = M 5 y
      · by_cases c23 : M 4 x = 2 ∨ M 4 x = 3
        · obtain ⟨sx, ax, x1, x2, x3, x4, x5⟩ := h2.2.2.2.2 x hx c23
          obtain ⟨sy, ay, y1, y2, y3, y4, y5⟩ := h2.2.2.2.2 y hy (by rw [← ck]; exact c23)
          have ea : ax = ay := (nI_eq (by omega) (by omega)).mp (by rw [← x2, ← y2]; exact ca)
          subst ea
          have h405 := h2.2.2.1
          have hb : ∀ z s, z < n' → M 4 z = 2 ∨ M 4 z = 3 → M 6 z = nI s → M 5 z = nI ax → s + ax ≤ lc → ∀ k, k < ax → n_byte M (nI z) (nI k) = M 10 (s + k) := by
            intro z s hz hz2 hz3 hz4 hz5 k hk
            unfold n_byte
            have hc : (isN M (nI z) 2 || isN M (nI z) 3) = true := by
              rw [hN z hz, hN z hz]
              rcases hz2 with w | w <;> simp [w]
            have es : M 6 z + nI k = nI (s + k) := by rw [hz3, nI_add]
            rw [if_pos hc, show cl (nI z) = z from nI_clamp (by omega), if_neg (nI_pos (by omega)), hz4, if_pos (nI_lt hk (by omega)), es, if_neg (nI_pos (by omega)), if_pos (show nI (s + k) < 405 from nI_lt (b := 405) (by omega) (by decide)), show cl (nI (s + k)) = s + k from nI_clamp (by omega)]
          have c1 : decide (M 4 x = 1) = false := by rcases c23 with w | w <;> rw [w] <;> decide
          rw [c1, Bool.false_or, if_pos c23, x2, show cl (nI ax) = ax from nI_clamp (by omega)]
          rw [ltE_eq (a := ax) x5 y5 (hb x sx hx c23 x1 x2 x4) (hb y sy hy (by rw [← ck]; exact c23) y1 y2 y4) ax 0 (by omega)]
        · rw [if_neg c23]
          by_cases c1 : M 4 x = 1
          · rw [decide_eq_true ck, decide_eq_true ca, decide_eq_true c1]
            rfl
          · -- no letters: every byte is -1
            have hL : ∀ (r k : Nat), sameL M (nI x) (nI y) r k = true := by
              intro r
              induction r with
              | zero => intro k; rfl
              | succ r ihr =>
                intro k
                have hbx : ∀ z, z < n' → ¬ (M 4 z = 2 ∨ M 4 z = 3) → n_byte M (nI z) (nI k) = -1 := fun z hz hz2 => by
                  unfold n_byte
                  have hc : ¬ (isN M (nI z) 2 || isN M (nI z) 3) = true := by
                    rw [hN z hz, hN z hz]
                    simp only [Bool.or_eq_true, decide_eq_true_eq]
                    exact hz2
                  rw [if_neg hc]
                rw [sameL, hbx x hx c23, hbx y hy (by rw [← ck]; exact c23), ihr]
                simp
            rw [hL]
            simp [ck, ca]
      · simp [ca]
    · simp [ck]
  -- a run along the tails
  have run : ∀ (j : Nat), (∀ x y, x < n' → y < n' → D x < j → alk M j (nI x) (nI y) = lk M x y) → ∀ (r x y : Nat), x < n' → y < n' → D x ≤ j → 200 - x ≤ r → alL M (alk M j) r (nI x) (nI y) = lk M x y := by
    intro j hj r
    induction r with
    | zero =>
      intro x y hx hy hD hr
      omega
    | succ r ihr =>
      intro x y hx hy hD hr
      rw [alL, hN x hx, hN y hy, show cl (nI x) = x from nI_clamp (by omega), show cl (nI y) = y from nI_clamp (by omega)]
      by_cases c : M 4 x = 4 ∧ M 4 y = 4
      · obtain ⟨c1, c2⟩ := c
        rw [if_pos (by simp [c1, c2])]
        obtain ⟨⟨-, v1⟩, r1⟩ := hR x (by omega) hx
        obtain ⟨⟨-, v2⟩, r2⟩ := hR y (by omega) hy
        obtain ⟨hx1, tx1, eh, et, -, b2, -, b4, b5, b6⟩ := r1 c1 (fun q => q)
        obtain ⟨hy1, ty1, fh, ft, -, d2, -, d4, -, -⟩ := r2 c2 (fun q => q)
        obtain ⟨p1, p2, p3, p4⟩ := h1.2.2.2 x hx
        obtain ⟨q1, q2, q3, q4⟩ := h1.2.2.2 y hy
        have hxt : x < tx1 := by
          obtain ⟨w1, w2, w3, w4, w5, w6, w7, w8⟩ := (ht x (by rw [hm]; exact hx)).2.2 (by rw [← p1]; exact c1)
          have : tx1 = w2 := (nI_eq (by omega) (by omega)).mp (by rw [← et, p4, w4])
          omega
        rw [eh, fh, et, ft, hj hx1 hy1 b2 d2 (by omega), ihr tx1 ty1 b4 d4 (by omega) (by omega)]
        have hlk := lk_eq ht (by rw [hm]; exact h200) (x := x) (y := y) (by rw [hm]; exact hx) (by rw [hm]; exact hy)
        rw [hlk, if_pos (by rw [← p1]; exact c1), ← p3, ← q3, ← p4, ← q4, eh, fh, et, ft, show cl (nI hx1) = hx1 from nI_clamp (by omega), show cl (nI hy1) = hy1 from nI_clamp (by omega), show cl (nI tx1) = tx1 from nI_clamp (by omega), show cl (nI ty1) = ty1 from nI_clamp (by omega)]
        have hsm : m_same M x y = true := by
          unfold m_same
          rw [← p1, ← q1, ← p2, ← q2, c1, c2, v1.1 c1, v2.1 c2, if_neg (by decide)]
          rfl
        rw [hsm, Bool.true_and]
      · rw [if_neg (by simp only [Bool.and_eq_true, decide_eq_true_eq]; exact c)]
        exact base x y hx hy c
  have all : ∀ (j : Nat) (x y : Nat), x < n' → y < n' → D x < j → alk M j (nI x) (nI y) = lk M x y := by
    intro j
    induction j with
    | zero =>
      intro x y _ _ hD
      omega
    | succ j ih =>
      intro x y hx hy hD
      rw [alk]
      exact run j ih 200 x y hx hy (by omega) (by omega)
  intro x y hx hy
  have := (hR x (by omega) hx).1.1
  exact all 16 x y hx hy (by omega)
def m_like (M : aM) (x y : Int32) : Bool := m_has M x && (m_has M y && lk M (cl x) (cl y))
theorem like_eq {M : aM} (h : I3 M) (hX : RX M) (x y : Int32) : d_like M x y = m_like M x y := by
  obtain ⟨n, lc, d, h1, -⟩ := h.2.2
  have h200 := h1.2.2.1
  have hm := StN_mN h1
  obtain ⟨e1, f1⟩ := has_eq h1 x
  obtain ⟨e2, f2⟩ := has_eq h1 y
  unfold d_like m_like
  rw [← e1, ← e2]
  cases c1 : hasN M x
  · rfl
  cases c2 : hasN M y
  · rfl
  obtain ⟨a, ha, rfl⟩ := f1 c1
  obtain ⟨b, hb, rfl⟩ := f2 c2
  rw [alk_lk h hX a b (by rw [hm]; exact ha) (by rw [hm]; exact hb), show cl (nI a) = a from nI_clamp (by omega), show cl (nI b) = b from nI_clamp (by omega)]
end
section
/-! THE REFERENCE'S LIKENESS, with its value -/
def sp_Model_same1 : aS := fun as M K => match as with
  | [.ref a, .int n, .int m] => a = 19 ∧ (tr_ok M ∧ mc_ok M ∧ ∃ x y, x < mN M ∧ n = nI x ∧ y < mN M ∧ m = nI y) ∧ K (some (.int (b2 (m_same M (cl n) (cl m))))) M
  | _ => False
set_option maxRecDepth 100000 in
set_option maxHeartbeats 4000000 in
theorem lp_Model_same1 {G : aG} (hG : am_ok G) {K : aR} {M : aM} {x y v : Nat} (hx : x < 200) (hy : y < 200) (hv : v ≤ 20) (h22 : M 22 x = nI v) : ∀ (r k : Nat) (b : Bool), k + r = v → K (some (.int (b2 (b && ltE M x y r k)))) M → am_X G Y_Model_same 0 K 66 [some (.ref 19), some (.int (nI x)), some (.int (nI y)), some (.int (b2 b)), some (.int 1), some (.int (nI k))] [] M := by
  intro r
  have z01 : ∀ b : Bool, (b2 b = 0 ∨ b2 b = 1) = True := fun b => eq_true (by cases b <;> simp [b2])
  have vx : vp_in (nI x) 200 := vp_in_nI hx (by decide)
  have cx : (nI x).toNatClampNeg = x := nI_clamp (by omega)
  have F : ∀ k : Nat, K (some (.int (b2 false))) M → am_X G Y_Model_same 0 K 66 [some (.ref 19), some (.int (nI x)), some (.int (nI y)), some (.int 0), some (.int 1), some (.int (nI k))] [] M := by
    intro k hK
    refine am_from tb_Model_same k_Model_same 400 ?_
    simp only [q_Model_same_66, r_Model_same_0, r_Model_same_1, r_Model_same_4, r_Model_same_5, r_Model_same_6, r_Model_same_7, r_Model_same_10, r_Model_same_11, r_Model_same_12, r_Model_same_15, r_Model_same_16, r_Model_same_19, r_Model_same_20, r_Model_same_21, r_Model_same_22, r_Model_same_25, r_Model_same_26, r_Model_same_27, r_Model_same_30, r_Model_same_31, r_Model_same_34, r_Model_same_35, r_Model_same_36, r_Model_same_37, r_Model_same_40, r_Model_same_41, r_Model_same_42, r_Model_same_43, r_Model_same_46, r_Model_same_47, r_Model_same_50, r_Model_same_51, r_Model_same_52, r_Model_same_53, r_Model_same_56, r_Model_same_57, r_Model_same_60, r_Model_same_61, r_Model_same_63, r_Model_same_64, r_Model_same_66, r_Model_same_67, r_Model_same_70, r_Model_same_72, r_Model_same_75, r_Model_same_77, r_Model_same_78, r_Model_same_81, r_Model_same_82, r_Model_same_83, r_Model_same_86, r_Model_same_87, r_Model_same_90, r_Model_same_92, r_Model_same_93, r_Model_same_94, r_Model_same_96, r_Model_same_97, r_Model_same_98, r_Model_same_99, r_Model_same_102, r_Model_same_104, r_Model_same_105, r_Model_same_106, r_Model_same_108, r_Model_same_109, r_Model_same_110, r_Model_same_113, r_Model_same_114, r_Model_same_117, r_Model_same_118, r_Model_same_119, r_Model_same_122, r_Model_same_125, r_Model_same_126, ai_aload, ai_getf, ai_iload, ai_iald, ai_cmpne, ai_const, ai_goto, ai_istore, am_cut_0, am_cut_s, am_c1, ai_cmpeq, ai_ifeq, ai_cmpge, ai_imul, ai_bin, ai_iadd, ai_iinc, ai_zret, kd_0, fd_0_0, fd_0_1, fd_0_2, fd_0_3, fd_0_4, kd_1, fd_1_0, fd_1_1, ln_2, kd_3, fd_3_0, fd_3_1, fd_3_2, fd_3_3, fd_3_4, fd_3_5, fd_3_6, fd_3_7, fd_3_8, fd_3_9, ln_4, ln_5, ln_6, ln_7, ln_8, ln_9, ln_10, kd_11, fd_11_0, fd_11_1, fd_11_2, fd_11_3, fd_11_4, kd_12, fd_12_0, fd_12_1, fd_12_2, fd_12_3, ln_13, ln_14, ln_15, kd_16, fd_16_0, fd_16_1, fd_16_2, ln_17, kd_18, fd_18_0, fd_18_1, kd_19, fd_19_0, fd_19_1, fd_19_2, fd_19_3, fd_19_4, fd_19_5, fd_19_6, fd_19_7, fd_19_8, fd_19_9, fd_19_10, fd_19_11, fd_19_12, fd_19_13, fd_19_14, fd_19_15, fd_19_16, fd_19_17, fd_19_18, fd_19_19, fd_19_20, ln_20, ln_21, ln_22, ln_23, ln_24, ln_25, ln_26, ln_27, ln_28, ln_29, ln_30, ln_31, ln_32, List.getElem?_cons_zero, List.getElem?_cons_succ, List.set_cons_zero, List.set_cons_succ, true_and, and_true, ↓reduceIte, Int32.reduceLT, Int32.reduceLE, li_10, or_true, true_or, vx, cx]
    exact hK
  have b1 : ¬ b2 true = 0 := by decide
  have zt : (b2 true = 0 ∨ b2 true = 1) = True := z01 true
  induction r with
  | zero =>
    intro k b hk hK
    cases b
    · exact F k hK
    · have e1 : ¬ nI k < nI v := nI_nlt (by omega) (by omega)
      refine am_from tb_Model_same k_Model_same 400 ?_
      simp only [q_Model_same_66, r_Model_same_0, r_Model_same_1, r_Model_same_4, r_Model_same_5, r_Model_same_6, r_Model_same_7, r_Model_same_10, r_Model_same_11, r_Model_same_12, r_Model_same_15, r_Model_same_16, r_Model_same_19, r_Model_same_20, r_Model_same_21, r_Model_same_22, r_Model_same_25, r_Model_same_26, r_Model_same_27, r_Model_same_30, r_Model_same_31, r_Model_same_34, r_Model_same_35, r_Model_same_36, r_Model_same_37, r_Model_same_40, r_Model_same_41, r_Model_same_42, r_Model_same_43, r_Model_same_46, r_Model_same_47, r_Model_same_50, r_Model_same_51, r_Model_same_52, r_Model_same_53, r_Model_same_56, r_Model_same_57, r_Model_same_60, r_Model_same_61, r_Model_same_63, r_Model_same_64, r_Model_same_66, r_Model_same_67, r_Model_same_70, r_Model_same_72, r_Model_same_75, r_Model_same_77, r_Model_same_78, r_Model_same_81, r_Model_same_82, r_Model_same_83, r_Model_same_86, r_Model_same_87, r_Model_same_90, r_Model_same_92, r_Model_same_93, r_Model_same_94, r_Model_same_96, r_Model_same_97, r_Model_same_98, r_Model_same_99, r_Model_same_102, r_Model_same_104, r_Model_same_105, r_Model_same_106, r_Model_same_108, r_Model_same_109, r_Model_same_110, r_Model_same_113, r_Model_same_114, r_Model_same_117, r_Model_same_118, r_Model_same_119, r_Model_same_122, r_Model_same_125, r_Model_same_126, ai_aload, ai_getf, ai_iload, ai_iald, ai_cmpne, ai_const, ai_goto, ai_istore, am_cut_0, am_cut_s, am_c1, ai_cmpeq, ai_ifeq, ai_cmpge, ai_imul, ai_bin, ai_iadd, ai_iinc, ai_zret, kd_0, fd_0_0, fd_0_1, fd_0_2, fd_0_3, fd_0_4, kd_1, fd_1_0, fd_1_1, ln_2, kd_3, fd_3_0, fd_3_1, fd_3_2, fd_3_3, fd_3_4, fd_3_5, fd_3_6, fd_3_7, fd_3_8, fd_3_9, ln_4, ln_5, ln_6, ln_7, ln_8, ln_9, ln_10, kd_11, fd_11_0, fd_11_1, fd_11_2, fd_11_3, fd_11_4, kd_12, fd_12_0, fd_12_1, fd_12_2, fd_12_3, ln_13, ln_14, ln_15, kd_16, fd_16_0, fd_16_1, fd_16_2, ln_17, kd_18, fd_18_0, fd_18_1, kd_19, fd_19_0, fd_19_1, fd_19_2, fd_19_3, fd_19_4, fd_19_5, fd_19_6, fd_19_7, fd_19_8, fd_19_9, fd_19_10, fd_19_11, fd_19_12, fd_19_13, fd_19_14, fd_19_15, fd_19_16, fd_19_17, fd_19_18, fd_19_19, fd_19_20, ln_20, ln_21, ln_22, ln_23, ln_24, ln_25, ln_26, ln_27, ln_28, ln_29, ln_30, ln_31, ln_32, List.getElem?_cons_zero, List.getElem?_cons_succ, List.set_cons_zero, List.set_cons_succ, true_and, and_true, ↓reduceIte, Int32.reduceLT, Int32.reduceLE, li_10, or_true, true_or, vx, cx, b1, zt, h22, e1]
      exact ⟨Or.inr rfl, hK⟩
  | succ r ih =>
    intro k b hk hK
    cases b
    · exact F k hK
    · have e1 : nI k < nI v := nI_lt (by omega) (by omega)
      have ei := ix20 (x := x) (k := k) hx (by omega)
      have vi : vp_in (20 * nI x + nI k) 4000 := by rw [ei]; exact vp_in_nI (by omega) (by decide)
      have ej := ix20 (x := y) (k := k) hy (by omega)
      have vj : vp_in (20 * nI y + nI k) 4000 := by rw [ej]; exact vp_in_nI (by omega) (by decide)
      have ci : (20 * nI x + nI k).toNatClampNeg = 20 * x + k := by rw [ei]; exact nI_clamp (by omega)
      have cj : (20 * nI y + nI k).toNatClampNeg = 20 * y + k := by rw [ej]; exact nI_clamp (by omega)
      rw [ltE] at hK
      by_cases c : M 23 (20 * nI x + nI k).toNatClampNeg = M 23 (20 * nI y + nI k).toNatClampNeg
      · have c' : (M 23 (20 * nI x + nI k).toNatClampNeg = M 23 (20 * nI y + nI k).toNatClampNeg) = True := eq_true c
        refine am_from tb_Model_same k_Model_same 400 ?_
        simp only [q_Model_same_66, r_Model_same_0, r_Model_same_1, r_Model_same_4, r_Model_same_5, r_Model_same_6, r_Model_same_7, r_Model_same_10, r_Model_same_11, r_Model_same_12, r_Model_same_15, r_Model_same_16, r_Model_same_19, r_Model_same_20, r_Model_same_21, r_Model_same_22, r_Model_same_25, r_Model_same_26, r_Model_same_27, r_Model_same_30, r_Model_same_31, r_Model_same_34, r_Model_same_35, r_Model_same_36, r_Model_same_37, r_Model_same_40, r_Model_same_41, r_Model_same_42, r_Model_same_43, r_Model_same_46, r_Model_same_47, r_Model_same_50, r_Model_same_51, r_Model_same_52, r_Model_same_53, r_Model_same_56, r_Model_same_57, r_Model_same_60, r_Model_same_61, r_Model_same_63, r_Model_same_64, r_Model_same_66, r_Model_same_67, r_Model_same_70, r_Model_same_72, r_Model_same_75, r_Model_same_77, r_Model_same_78, r_Model_same_81, r_Model_same_82, r_Model_same_83, r_Model_same_86, r_Model_same_87, r_Model_same_90, r_Model_same_92, r_Model_same_93, r_Model_same_94, r_Model_same_96, r_Model_same_97, r_Model_same_98, r_Model_same_99, r_Model_same_102, r_Model_same_104, r_Model_same_105, r_Model_same_106, r_Model_same_108, r_Model_same_109, r_Model_same_110, r_Model_same_113, r_Model_same_114, r_Model_same_117, r_Model_same_118, r_Model_same_119, r_Model_same_122, r_Model_same_125, r_Model_same_126, ai_aload, ai_getf, ai_iload, ai_iald, ai_cmpne, ai_const, ai_goto, ai_istore, am_cut_0, am_cut_s, am_c1, ai_cmpeq, ai_ifeq, ai_cmpge, ai_imul, ai_bin, ai_iadd, ai_iinc, ai_zret, kd_0, fd_0_0, fd_0_1, fd_0_2, fd_0_3, fd_0_4, kd_1, fd_1_0, fd_1_1, ln_2, kd_3, fd_3_0, fd_3_1, fd_3_2, fd_3_3, fd_3_4, fd_3_5, fd_3_6, fd_3_7, fd_3_8, fd_3_9, ln_4, ln_5, ln_6, ln_7, ln_8, ln_9, ln_10, kd_11, fd_11_0, fd_11_1, fd_11_2, fd_11_3, fd_11_4, kd_12, fd_12_0, fd_12_1, fd_12_2, fd_12_3, ln_13, ln_14, ln_15, kd_16, fd_16_0, fd_16_1, fd_16_2, ln_17, kd_18, fd_18_0, fd_18_1, kd_19, fd_19_0, fd_19_1, fd_19_2, fd_19_3, fd_19_4, fd_19_5, fd_19_6, fd_19_7, fd_19_8, fd_19_9, fd_19_10, fd_19_11, fd_19_12, fd_19_13, fd_19_14, fd_19_15, fd_19_16, fd_19_17, fd_19_18, fd_19_19, fd_19_20, ln_20, ln_21, ln_22, ln_23, ln_24, ln_25, ln_26, ln_27, ln_28, ln_29, ln_30, ln_31, ln_32, List.getElem?_cons_zero, List.getElem?_cons_succ, List.set_cons_zero, List.set_cons_succ, true_and, and_true, ↓reduceIte, Int32.reduceLT, Int32.reduceLE, li_10, or_true, true_or, vx, cx, b1, h22, e1, vi, vj, c', nI_1]
        rw [ci, cj] at c
        rw [decide_eq_true c, Bool.true_and] at hK
        exact ih (k + 1) true (by omega) hK
      · refine am_from tb_Model_same k_Model_same 400 ?_
        simp only [q_Model_same_66, r_Model_same_0, r_Model_same_1, r_Model_same_4, r_Model_same_5, r_Model_same_6, r_Model_same_7, r_Model_same_10, r_Model_same_11, r_Model_same_12, r_Model_same_15, r_Model_same_16, r_Model_same_19, r_Model_same_20, r_Model_same_21, r_Model_same_22, r_Model_same_25, r_Model_same_26, r_Model_same_27, r_Model_same_30, r_Model_same_31, r_Model_same_34, r_Model_same_35, r_Model_same_36, r_Model_same_37, r_Model_same_40, r_Model_same_41, r_Model_same_42, r_Model_same_43, r_Model_same_46, r_Model_same_47, r_Model_same_50, r_Model_same_51, r_Model_same_52, r_Model_same_53, r_Model_same_56, r_Model_same_57, r_Model_same_60, r_Model_same_61, r_Model_same_63, r_Model_same_64, r_Model_same_66, r_Model_same_67, r_Model_same_70, r_Model_same_72, r_Model_same_75, r_Model_same_77, r_Model_same_78, r_Model_same_81, r_Model_same_82, r_Model_same_83, r_Model_same_86, r_Model_same_87, r_Model_same_90, r_Model_same_92, r_Model_same_93, r_Model_same_94, r_Model_same_96, r_Model_same_97, r_Model_same_98, r_Model_same_99, r_Model_same_102, r_Model_same_104, r_Model_same_105, r_Model_same_106, r_Model_same_108, r_Model_same_109, r_Model_same_110, r_Model_same_113, r_Model_same_114, r_Model_same_117, r_Model_same_118, r_Model_same_119, r_Model_same_122, r_Model_same_125, r_Model_same_126, ai_aload, ai_getf, ai_iload, ai_iald, ai_cmpne, ai_const, ai_goto, ai_istore, am_cut_0, am_cut_s, am_c1, ai_cmpeq, ai_ifeq, ai_cmpge, ai_imul, ai_bin, ai_iadd, ai_iinc, ai_zret, kd_0, fd_0_0, fd_0_1, fd_0_2, fd_0_3, fd_0_4, kd_1, fd_1_0, fd_1_1, ln_2, kd_3, fd_3_0, fd_3_1, fd_3_2, fd_3_3, fd_3_4, fd_3_5, fd_3_6, fd_3_7, fd_3_8, fd_3_9, ln_4, ln_5, ln_6, ln_7, ln_8, ln_9, ln_10, kd_11, fd_11_0, fd_11_1, fd_11_2, fd_11_3, fd_11_4, kd_12, fd_12_0, fd_12_1, fd_12_2, fd_12_3, ln_13, ln_14, ln_15, kd_16, fd_16_0, fd_16_1, fd_16_2, ln_17, kd_18, fd_18_0, fd_18_1, kd_19, fd_19_0, fd_19_1, fd_19_2, fd_19_3, fd_19_4, fd_19_5, fd_19_6, fd_19_7, fd_19_8, fd_19_9, fd_19_10, fd_19_11, fd_19_12, fd_19_13, fd_19_14, fd_19_15, fd_19_16, fd_19_17, fd_19_18, fd_19_19, fd_19_20, ln_20, ln_21, ln_22, ln_23, ln_24, ln_25, ln_26, ln_27, ln_28, ln_29, ln_30, ln_31, ln_32, List.getElem?_cons_zero, List.getElem?_cons_succ, List.set_cons_zero, List.set_cons_succ, true_and, and_true, ↓reduceIte, Int32.reduceLT, Int32.reduceLE, li_10, or_true, true_or, vx, cx, b1, h22, e1, vi, vj, c, nI_1]
        rw [ci, cj] at c
        rw [decide_eq_false c, Bool.false_and] at hK
        exact ih (k + 1) false (by omega) hK
set_option maxRecDepth 100000 in
set_option maxHeartbeats 4000000 in
theorem ok_Model_same1 {G : aG} (hG : am_ok G) : am_Sp G Y_Model_same 0 sp_Model_same1 := by
  intro as M K h
  unfold sp_Model_same1 at h
  split at h
  · next a n m =>
    obtain ⟨rfl, ⟨ht, hc, x, y, hx, rfl, hy, rfl⟩, h⟩ := h
    have h200 := hc.2
    have cx : (nI x).toNatClampNeg = x := nI_clamp (by omega)
    have vx : vp_in (nI x) 200 := vp_in_nI (by omega) (by decide)
    have cy : (nI y).toNatClampNeg = y := nI_clamp (by omega)
    have vy : vp_in (nI y) 200 := vp_in_nI (by omega) (by decide)
    rw [show cl (nI x) = x from cx, show cl (nI y) = y from cy] at h
    have F : ∀ lt : Int32, K (some (.int (b2 false))) M → am_X G Y_Model_same 0 K 66 [some (.ref 19), some (.int (nI x)), some (.int (nI y)), some (.int 0), some (.int lt), some (.int 0)] [] M := by
      intro lt h0
      refine am_from tb_Model_same k_Model_same 400 ?_
      simp only [q_Model_same_66, r_Model_same_0, r_Model_same_1, r_Model_same_4, r_Model_same_5, r_Model_same_6, r_Model_same_7, r_Model_same_10, r_Model_same_11, r_Model_same_12, r_Model_same_15, r_Model_same_16, r_Model_same_19, r_Model_same_20, r_Model_same_21, r_Model_same_22, r_Model_same_25, r_Model_same_26, r_Model_same_27, r_Model_same_30, r_Model_same_31, r_Model_same_34, r_Model_same_35, r_Model_same_36, r_Model_same_37, r_Model_same_40, r_Model_same_41, r_Model_same_42, r_Model_same_43, r_Model_same_46, r_Model_same_47, r_Model_same_50, r_Model_same_51, r_Model_same_52, r_Model_same_53, r_Model_same_56, r_Model_same_57, r_Model_same_60, r_Model_same_61, r_Model_same_63, r_Model_same_64, r_Model_same_66, r_Model_same_67, r_Model_same_70, r_Model_same_72, r_Model_same_75, r_Model_same_77, r_Model_same_78, r_Model_same_81, r_Model_same_82, r_Model_same_83, r_Model_same_86, r_Model_same_87, r_Model_same_90, r_Model_same_92, r_Model_same_93, r_Model_same_94, r_Model_same_96, r_Model_same_97, r_Model_same_98, r_Model_same_99, r_Model_same_102, r_Model_same_104, r_Model_same_105, r_Model_same_106, r_Model_same_108, r_Model_same_109, r_Model_same_110, r_Model_same_113, r_Model_same_114, r_Model_same_117, r_Model_same_118, r_Model_same_119, r_Model_same_122, r_Model_same_125, r_Model_same_126, ai_aload, ai_getf, ai_iload, ai_iald, ai_cmpne, ai_const, ai_goto, ai_istore, am_cut_0, am_cut_s, am_c1, ai_cmpeq, ai_ifeq, ai_cmpge, ai_imul, ai_bin, ai_iadd, ai_iinc, ai_zret, kd_0, fd_0_0, fd_0_1, fd_0_2, fd_0_3, fd_0_4, kd_1, fd_1_0, fd_1_1, ln_2, kd_3, fd_3_0, fd_3_1, fd_3_2, fd_3_3, fd_3_4, fd_3_5, fd_3_6, fd_3_7, fd_3_8, fd_3_9, ln_4, ln_5, ln_6, ln_7, ln_8, ln_9, ln_10, kd_11, fd_11_0, fd_11_1, fd_11_2, fd_11_3, fd_11_4, kd_12, fd_12_0, fd_12_1, fd_12_2, fd_12_3, ln_13, ln_14, ln_15, kd_16, fd_16_0, fd_16_1, fd_16_2, ln_17, kd_18, fd_18_0, fd_18_1, kd_19, fd_19_0, fd_19_1, fd_19_2, fd_19_3, fd_19_4, fd_19_5, fd_19_6, fd_19_7, fd_19_8, fd_19_9, fd_19_10, fd_19_11, fd_19_12, fd_19_13, fd_19_14, fd_19_15, fd_19_16, fd_19_17, fd_19_18, fd_19_19, fd_19_20, ln_20, ln_21, ln_22, ln_23, ln_24, ln_25, ln_26, ln_27, ln_28, ln_29, ln_30, ln_31, ln_32, List.getElem?_cons_zero, List.getElem?_cons_succ, List.set_cons_zero, List.set_cons_succ, true_and, and_true, ↓reduceIte, Int32.reduceLT, Int32.reduceLE, li_10, or_true, true_or, vx, cx]
      exact h0
    unfold m_same at h
    by_cases c1 : M 21 x = M 21 y
    · have c1' : (M 21 x = M 21 y) = True := eq_true c1
      rw [decide_eq_true c1, Bool.true_and] at h
      by_cases c2 : M 22 x = M 22 y
      · have c2' : (M 22 x = M 22 y) = True := eq_true c2
        rw [decide_eq_true c2, Bool.true_and] at h
        by_cases c3 : M 21 x = 2
        · obtain ⟨v, hv, h22⟩ := (ht x hx).2.1 (Or.inl c3)
          rw [if_pos (Or.inl c3), h22, show cl (nI v) = v from nI_clamp (by omega)] at h
          have L := lp_Model_same1 hG (K := K) (y := y) (show x < 200 by omega) (by omega) hv h22 v 0 true (by omega) h
          have c3' : (M 21 x = 2) = True := eq_true c3
          have c3y : (M 21 y = 2) = True := eq_true (by rw [← c1]; exact c3)
          refine am_entry hG (by decide +kernel) (Nat.le_of_ble_eq_true rfl) ?_
          refine am_go (cuts := k_Model_same) tb_Model_same 400 _ _ _ _ ?_
          change am_run _ _ _ _ _ _ [some (.ref 19), some (.int (nI x)), some (.int (nI y)), none, none, none] [] _
          simp only [q_Model_same_66, r_Model_same_0, r_Model_same_1, r_Model_same_4, r_Model_same_5, r_Model_same_6, r_Model_same_7, r_Model_same_10, r_Model_same_11, r_Model_same_12, r_Model_same_15, r_Model_same_16, r_Model_same_19, r_Model_same_20, r_Model_same_21, r_Model_same_22, r_Model_same_25, r_Model_same_26, r_Model_same_27, r_Model_same_30, r_Model_same_31, r_Model_same_34, r_Model_same_35, r_Model_same_36, r_Model_same_37, r_Model_same_40, r_Model_same_41, r_Model_same_42, r_Model_same_43, r_Model_same_46, r_Model_same_47, r_Model_same_50, r_Model_same_51, r_Model_same_52, r_Model_same_53, r_Model_same_56, r_Model_same_57, r_Model_same_60, r_Model_same_61, r_Model_same_63, r_Model_same_64, r_Model_same_66, r_Model_same_67, r_Model_same_70, r_Model_same_72, r_Model_same_75, r_Model_same_77, r_Model_same_78, r_Model_same_81, r_Model_same_82, r_Model_same_83, r_Model_same_86, r_Model_same_87, r_Model_same_90, r_Model_same_92, r_Model_same_93, r_Model_same_94, r_Model_same_96, r_Model_same_97, r_Model_same_98, r_Model_same_99, r_Model_same_102, r_Model_same_104, r_Model_same_105, r_Model_same_106, r_Model_same_108, r_Model_same_109, r_Model_same_110, r_Model_same_113, r_Model_same_114, r_Model_same_117, r_Model_same_118, r_Model_same_119, r_Model_same_122, r_Model_same_125, r_Model_same_126, ai_aload, ai_getf, ai_iload, ai_iald, ai_cmpne, ai_const, ai_goto, ai_istore, am_cut_0, am_cut_s, am_c1, ai_cmpeq, ai_ifeq, ai_cmpge, ai_imul, ai_bin, ai_iadd, ai_iinc, ai_zret, kd_0, fd_0_0, fd_0_1, fd_0_2, fd_0_3, fd_0_4, kd_1, fd_1_0, fd_1_1, ln_2, kd_3, fd_3_0, fd_3_1, fd_3_2, fd_3_3, fd_3_4, fd_3_5, fd_3_6, fd_3_7, fd_3_8, fd_3_9, ln_4, ln_5, ln_6, ln_7, ln_8, ln_9, ln_10, kd_11, fd_11_0, fd_11_1, fd_11_2, fd_11_3, fd_11_4, kd_12, fd_12_0, fd_12_1, fd_12_2, fd_12_3, ln_13, ln_14, ln_15, kd_16, fd_16_0, fd_16_1, fd_16_2, ln_17, kd_18, fd_18_0, fd_18_1, kd_19, fd_19_0, fd_19_1, fd_19_2, fd_19_3, fd_19_4, fd_19_5, fd_19_6, fd_19_7, fd_19_8, fd_19_9, fd_19_10, fd_19_11, fd_19_12, fd_19_13, fd_19_14, fd_19_15, fd_19_16, fd_19_17, fd_19_18, fd_19_19, fd_19_20, ln_20, ln_21, ln_22, ln_23, ln_24, ln_25, ln_26, ln_27, ln_28, ln_29, ln_30, ln_31, ln_32, List.getElem?_cons_zero, List.getElem?_cons_succ, List.set_cons_zero, List.set_cons_succ, true_and, and_true, ↓reduceIte, Int32.reduceLT, Int32.reduceLE, li_10, or_true, true_or, vx, cx, vy, cy, c1, c2, c3y]
          exact L
        by_cases c4 : M 21 x = 3
        · obtain ⟨v, hv, h22⟩ := (ht x hx).2.1 (Or.inr c4)
          rw [if_pos (Or.inr c4), h22, show cl (nI v) = v from nI_clamp (by omega)] at h
          have L := lp_Model_same1 hG (K := K) (y := y) (show x < 200 by omega) (by omega) hv h22 v 0 true (by omega) h
          have c3y : ¬ M 21 y = 2 := by rw [← c1]; exact c3
          have c4y : (M 21 y = 3) = True := eq_true (by rw [← c1]; exact c4)
          refine am_entry hG (by decide +kernel) (Nat.le_of_ble_eq_true rfl) ?_
          refine am_go (cuts := k_Model_same) tb_Model_same 400 _ _ _ _ ?_
          change am_run _ _ _ _ _ _ [some (.ref 19), some (.int (nI x)), some (.int (nI y)), none, none, none] [] _
          simp only [q_Model_same_66, r_Model_same_0, r_Model_same_1, r_Model_same_4, r_Model_same_5, r_Model_same_6, r_Model_same_7, r_Model_same_10, r_Model_same_11, r_Model_same_12, r_Model_same_15, r_Model_same_16, r_Model_same_19, r_Model_same_20, r_Model_same_21, r_Model_same_22, r_Model_same_25, r_Model_same_26, r_Model_same_27, r_Model_same_30, r_Model_same_31, r_Model_same_34, r_Model_same_35, r_Model_same_36, r_Model_same_37, r_Model_same_40, r_Model_same_41, r_Model_same_42, r_Model_same_43, r_Model_same_46, r_Model_same_47, r_Model_same_50, r_Model_same_51, r_Model_same_52, r_Model_same_53, r_Model_same_56, r_Model_same_57, r_Model_same_60, r_Model_same_61, r_Model_same_63, r_Model_same_64, r_Model_same_66, r_Model_same_67, r_Model_same_70, r_Model_same_72, r_Model_same_75, r_Model_same_77, r_Model_same_78, r_Model_same_81, r_Model_same_82, r_Model_same_83, r_Model_same_86, r_Model_same_87, r_Model_same_90, r_Model_same_92, r_Model_same_93, r_Model_same_94, r_Model_same_96, r_Model_same_97, r_Model_same_98, r_Model_same_99, r_Model_same_102, r_Model_same_104, r_Model_same_105, r_Model_same_106, r_Model_same_108, r_Model_same_109, r_Model_same_110, r_Model_same_113, r_Model_same_114, r_Model_same_117, r_Model_same_118, r_Model_same_119, r_Model_same_122, r_Model_same_125, r_Model_same_126, ai_aload, ai_getf, ai_iload, ai_iald, ai_cmpne, ai_const, ai_goto, ai_istore, am_cut_0, am_cut_s, am_c1, ai_cmpeq, ai_ifeq, ai_cmpge, ai_imul, ai_bin, ai_iadd, ai_iinc, ai_zret, kd_0, fd_0_0, fd_0_1, fd_0_2, fd_0_3, fd_0_4, kd_1, fd_1_0, fd_1_1, ln_2, kd_3, fd_3_0, fd_3_1, fd_3_2, fd_3_3, fd_3_4, fd_3_5, fd_3_6, fd_3_7, fd_3_8, fd_3_9, ln_4, ln_5, ln_6, ln_7, ln_8, ln_9, ln_10, kd_11, fd_11_0, fd_11_1, fd_11_2, fd_11_3, fd_11_4, kd_12, fd_12_0, fd_12_1, fd_12_2, fd_12_3, ln_13, ln_14, ln_15, kd_16, fd_16_0, fd_16_1, fd_16_2, ln_17, kd_18, fd_18_0, fd_18_1, kd_19, fd_19_0, fd_19_1, fd_19_2, fd_19_3, fd_19_4, fd_19_5, fd_19_6, fd_19_7, fd_19_8, fd_19_9, fd_19_10, fd_19_11, fd_19_12, fd_19_13, fd_19_14, fd_19_15, fd_19_16, fd_19_17, fd_19_18, fd_19_19, fd_19_20, ln_20, ln_21, ln_22, ln_23, ln_24, ln_25, ln_26, ln_27, ln_28, ln_29, ln_30, ln_31, ln_32, List.getElem?_cons_zero, List.getElem?_cons_succ, List.set_cons_zero, List.set_cons_succ, true_and, and_true, ↓reduceIte, Int32.reduceLT, Int32.reduceLE, li_10, or_true, true_or, vx, cx, vy, cy, c1, c2, c3y, c4y]
          exact L
        · have c3y : ¬ M 21 y = 2 := by rw [← c1]; exact c3
          have c4y : ¬ M 21 y = 3 := by rw [← c1]; exact c4
          rw [if_neg (fun q => q.elim c3 c4)] at h
          have L : am_X G Y_Model_same 0 K 66 [some (.ref 19), some (.int (nI x)), some (.int (nI y)), some (.int 1), some (.int 0), some (.int 0)] [] M := by
            refine am_from tb_Model_same k_Model_same 400 ?_
            simp only [q_Model_same_66, r_Model_same_0, r_Model_same_1, r_Model_same_4, r_Model_same_5, r_Model_same_6, r_Model_same_7, r_Model_same_10, r_Model_same_11, r_Model_same_12, r_Model_same_15, r_Model_same_16, r_Model_same_19, r_Model_same_20, r_Model_same_21, r_Model_same_22, r_Model_same_25, r_Model_same_26, r_Model_same_27, r_Model_same_30, r_Model_same_31, r_Model_same_34, r_Model_same_35, r_Model_same_36, r_Model_same_37, r_Model_same_40, r_Model_same_41, r_Model_same_42, r_Model_same_43, r_Model_same_46, r_Model_same_47, r_Model_same_50, r_Model_same_51, r_Model_same_52, r_Model_same_53, r_Model_same_56, r_Model_same_57, r_Model_same_60, r_Model_same_61, r_Model_same_63, r_Model_same_64, r_Model_same_66, r_Model_same_67, r_Model_same_70, r_Model_same_72, r_Model_same_75, r_Model_same_77, r_Model_same_78, r_Model_same_81, r_Model_same_82, r_Model_same_83, r_Model_same_86, r_Model_same_87, r_Model_same_90, r_Model_same_92, r_Model_same_93, r_Model_same_94, r_Model_same_96, r_Model_same_97, r_Model_same_98, r_Model_same_99, r_Model_same_102, r_Model_same_104, r_Model_same_105, r_Model_same_106, r_Model_same_108, r_Model_same_109, r_Model_same_110, r_Model_same_113, r_Model_same_114, r_Model_same_117, r_Model_same_118, r_Model_same_119, r_Model_same_122, r_Model_same_125, r_Model_same_126, ai_aload, ai_getf, ai_iload, ai_iald, ai_cmpne, ai_const, ai_goto, ai_istore, am_cut_0, am_cut_s, am_c1, ai_cmpeq, ai_ifeq, ai_cmpge, ai_imul, ai_bin, ai_iadd, ai_iinc, ai_zret, kd_0, fd_0_0, fd_0_1, fd_0_2, fd_0_3, fd_0_4, kd_1, fd_1_0, fd_1_1, ln_2, kd_3, fd_3_0, fd_3_1, fd_3_2, fd_3_3, fd_3_4, fd_3_5, fd_3_6, fd_3_7, fd_3_8, fd_3_9, ln_4, ln_5, ln_6, ln_7, ln_8, ln_9, ln_10, kd_11, fd_11_0, fd_11_1, fd_11_2, fd_11_3, fd_11_4, kd_12, fd_12_0, fd_12_1, fd_12_2, fd_12_3, ln_13, ln_14, ln_15, kd_16, fd_16_0, fd_16_1, fd_16_2, ln_17, kd_18, fd_18_0, fd_18_1, kd_19, fd_19_0, fd_19_1, fd_19_2, fd_19_3, fd_19_4, fd_19_5, fd_19_6, fd_19_7, fd_19_8, fd_19_9, fd_19_10, fd_19_11, fd_19_12, fd_19_13, fd_19_14, fd_19_15, fd_19_16, fd_19_17, fd_19_18, fd_19_19, fd_19_20, ln_20, ln_21, ln_22, ln_23, ln_24, ln_25, ln_26, ln_27, ln_28, ln_29, ln_30, ln_31, ln_32, List.getElem?_cons_zero, List.getElem?_cons_succ, List.set_cons_zero, List.set_cons_succ, true_and, and_true, ↓reduceIte, Int32.reduceLT, Int32.reduceLE, li_10, or_true, true_or, vx, cx]
            exact h
          refine am_entry hG (by decide +kernel) (Nat.le_of_ble_eq_true rfl) ?_
          refine am_go (cuts := k_Model_same) tb_Model_same 400 _ _ _ _ ?_
          change am_run _ _ _ _ _ _ [some (.ref 19), some (.int (nI x)), some (.int (nI y)), none, none, none] [] _
          simp only [q_Model_same_66, r_Model_same_0, r_Model_same_1, r_Model_same_4, r_Model_same_5, r_Model_same_6, r_Model_same_7, r_Model_same_10, r_Model_same_11, r_Model_same_12, r_Model_same_15, r_Model_same_16, r_Model_same_19, r_Model_same_20, r_Model_same_21, r_Model_same_22, r_Model_same_25, r_Model_same_26, r_Model_same_27, r_Model_same_30, r_Model_same_31, r_Model_same_34, r_Model_same_35, r_Model_same_36, r_Model_same_37, r_Model_same_40, r_Model_same_41, r_Model_same_42, r_Model_same_43, r_Model_same_46, r_Model_same_47, r_Model_same_50, r_Model_same_51, r_Model_same_52, r_Model_same_53, r_Model_same_56, r_Model_same_57, r_Model_same_60, r_Model_same_61, r_Model_same_63, r_Model_same_64, r_Model_same_66, r_Model_same_67, r_Model_same_70, r_Model_same_72, r_Model_same_75, r_Model_same_77, r_Model_same_78, r_Model_same_81, r_Model_same_82, r_Model_same_83, r_Model_same_86, r_Model_same_87, r_Model_same_90, r_Model_same_92, r_Model_same_93, r_Model_same_94, r_Model_same_96, r_Model_same_97, r_Model_same_98, r_Model_same_99, r_Model_same_102, r_Model_same_104, r_Model_same_105, r_Model_same_106, r_Model_same_108, r_Model_same_109, r_Model_same_110, r_Model_same_113, r_Model_same_114, r_Model_same_117, r_Model_same_118, r_Model_same_119, r_Model_same_122, r_Model_same_125, r_Model_same_126, ai_aload, ai_getf, ai_iload, ai_iald, ai_cmpne, ai_const, ai_goto, ai_istore, am_cut_0, am_cut_s, am_c1, ai_cmpeq, ai_ifeq, ai_cmpge, ai_imul, ai_bin, ai_iadd, ai_iinc, ai_zret, kd_0, fd_0_0, fd_0_1, fd_0_2, fd_0_3, fd_0_4, kd_1, fd_1_0, fd_1_1, ln_2, kd_3, fd_3_0, fd_3_1, fd_3_2, fd_3_3, fd_3_4, fd_3_5, fd_3_6, fd_3_7, fd_3_8, fd_3_9, ln_4, ln_5, ln_6, ln_7, ln_8, ln_9, ln_10, kd_11, fd_11_0, fd_11_1, fd_11_2, fd_11_3, fd_11_4, kd_12, fd_12_0, fd_12_1, fd_12_2, fd_12_3, ln_13, ln_14, ln_15, kd_16, fd_16_0, fd_16_1, fd_16_2, ln_17, kd_18, fd_18_0, fd_18_1, kd_19, fd_19_0, fd_19_1, fd_19_2, fd_19_3, fd_19_4, fd_19_5, fd_19_6, fd_19_7, fd_19_8, fd_19_9, fd_19_10, fd_19_11, fd_19_12, fd_19_13, fd_19_14, fd_19_15, fd_19_16, fd_19_17, fd_19_18, fd_19_19, fd_19_20, ln_20, ln_21, ln_22, ln_23, ln_24, ln_25, ln_26, ln_27, ln_28, ln_29, ln_30, ln_31, ln_32, List.getElem?_cons_zero, List.getElem?_cons_succ, List.set_cons_zero, List.set_cons_succ, true_and, and_true, ↓reduceIte, Int32.reduceLT, Int32.reduceLE, li_10, or_true, true_or, vx, cx, vy, cy, c1, c2, c3y, c4y]
          exact L
      · rw [decide_eq_false c2, Bool.false_and] at h
        by_cases c3 : M 21 y = 2
        · have c3' : (M 21 y = 2) = True := eq_true c3
          refine am_entry hG (by decide +kernel) (Nat.le_of_ble_eq_true rfl) ?_
          refine am_go (cuts := k_Model_same) tb_Model_same 400 _ _ _ _ ?_
          change am_run _ _ _ _ _ _ [some (.ref 19), some (.int (nI x)), some (.int (nI y)), none, none, none] [] _
          simp only [q_Model_same_66, r_Model_same_0, r_Model_same_1, r_Model_same_4, r_Model_same_5, r_Model_same_6, r_Model_same_7, r_Model_same_10, r_Model_same_11, r_Model_same_12, r_Model_same_15, r_Model_same_16, r_Model_same_19, r_Model_same_20, r_Model_same_21, r_Model_same_22, r_Model_same_25, r_Model_same_26, r_Model_same_27, r_Model_same_30, r_Model_same_31, r_Model_same_34, r_Model_same_35, r_Model_same_36, r_Model_same_37, r_Model_same_40, r_Model_same_41, r_Model_same_42, r_Model_same_43, r_Model_same_46, r_Model_same_47, r_Model_same_50, r_Model_same_51, r_Model_same_52, r_Model_same_53, r_Model_same_56, r_Model_same_57, r_Model_same_60, r_Model_same_61, r_Model_same_63, r_Model_same_64, r_Model_same_66, r_Model_same_67, r_Model_same_70, r_Model_same_72, r_Model_same_75, r_Model_same_77, r_Model_same_78, r_Model_same_81, r_Model_same_82, r_Model_same_83, r_Model_same_86, r_Model_same_87, r_Model_same_90, r_Model_same_92, r_Model_same_93, r_Model_same_94, r_Model_same_96, r_Model_same_97, r_Model_same_98, r_Model_same_99, r_Model_same_102, r_Model_same_104, r_Model_same_105, r_Model_same_106, r_Model_same_108, r_Model_same_109, r_Model_same_110, r_Model_same_113, r_Model_same_114, r_Model_same_117, r_Model_same_118, r_Model_same_119, r_Model_same_122, r_Model_same_125, r_Model_same_126, ai_aload, ai_getf, ai_iload, ai_iald, ai_cmpne, ai_const, ai_goto, ai_istore, am_cut_0, am_cut_s, am_c1, ai_cmpeq, ai_ifeq, ai_cmpge, ai_imul, ai_bin, ai_iadd, ai_iinc, ai_zret, kd_0, fd_0_0, fd_0_1, fd_0_2, fd_0_3, fd_0_4, kd_1, fd_1_0, fd_1_1, ln_2, kd_3, fd_3_0, fd_3_1, fd_3_2, fd_3_3, fd_3_4, fd_3_5, fd_3_6, fd_3_7, fd_3_8, fd_3_9, ln_4, ln_5, ln_6, ln_7, ln_8, ln_9, ln_10, kd_11, fd_11_0, fd_11_1, fd_11_2, fd_11_3, fd_11_4, kd_12, fd_12_0, fd_12_1, fd_12_2, fd_12_3, ln_13, ln_14, ln_15, kd_16, fd_16_0, fd_16_1, fd_16_2, ln_17, kd_18, fd_18_0, fd_18_1, kd_19, fd_19_0, fd_19_1, fd_19_2, fd_19_3, fd_19_4, fd_19_5, fd_19_6, fd_19_7, fd_19_8, fd_19_9, fd_19_10, fd_19_11, fd_19_12, fd_19_13, fd_19_14, fd_19_15, fd_19_16, fd_19_17, fd_19_18, fd_19_19, fd_19_20, ln_20, ln_21, ln_22, ln_23, ln_24, ln_25, ln_26, ln_27, ln_28, ln_29, ln_30, ln_31, ln_32, List.getElem?_cons_zero, List.getElem?_cons_succ, List.set_cons_zero, List.set_cons_succ, true_and, and_true, ↓reduceIte, Int32.reduceLT, Int32.reduceLE, li_10, or_true, true_or, vx, cx, vy, cy, c1, c2, c3']
          exact F 1 h
        by_cases c4 : M 21 y = 3
        · have c4' : (M 21 y = 3) = True := eq_true c4
          refine am_entry hG (by decide +kernel) (Nat.le_of_ble_eq_true rfl) ?_
          refine am_go (cuts := k_Model_same) tb_Model_same 400 _ _ _ _ ?_
          change am_run _ _ _ _ _ _ [some (.ref 19), some (.int (nI x)), some (.int (nI y)), none, none, none] [] _
          simp only [q_Model_same_66, r_Model_same_0, r_Model_same_1, r_Model_same_4, r_Model_same_5, r_Model_same_6, r_Model_same_7, r_Model_same_10, r_Model_same_11, r_Model_same_12, r_Model_same_15, r_Model_same_16, r_Model_same_19, r_Model_same_20, r_Model_same_21, r_Model_same_22, r_Model_same_25, r_Model_same_26, r_Model_same_27, r_Model_same_30, r_Model_same_31, r_Model_same_34, r_Model_same_35, r_Model_same_36, r_Model_same_37, r_Model_same_40, r_Model_same_41, r_Model_same_42, r_Model_same_43, r_Model_same_46, r_Model_same_47, r_Model_same_50, r_Model_same_51, r_Model_same_52, r_Model_same_53, r_Model_same_56, r_Model_same_57, r_Model_same_60, r_Model_same_61, r_Model_same_63, r_Model_same_64, r_Model_same_66, r_Model_same_67, r_Model_same_70, r_Model_same_72, r_Model_same_75, r_Model_same_77, r_Model_same_78, r_Model_same_81, r_Model_same_82, r_Model_same_83, r_Model_same_86, r_Model_same_87, r_Model_same_90, r_Model_same_92, r_Model_same_93, r_Model_same_94, r_Model_same_96, r_Model_same_97, r_Model_same_98, r_Model_same_99, r_Model_same_102, r_Model_same_104, r_Model_same_105, r_Model_same_106, r_Model_same_108, r_Model_same_109, r_Model_same_110, r_Model_same_113, r_Model_same_114, r_Model_same_117, r_Model_same_118, r_Model_same_119, r_Model_same_122, r_Model_same_125, r_Model_same_126, ai_aload, ai_getf, ai_iload, ai_iald, ai_cmpne, ai_const, ai_goto, ai_istore, am_cut_0, am_cut_s, am_c1, ai_cmpeq, ai_ifeq, ai_cmpge, ai_imul, ai_bin, ai_iadd, ai_iinc, ai_zret, kd_0, fd_0_0, fd_0_1, fd_0_2, fd_0_3, fd_0_4, kd_1, fd_1_0, fd_1_1, ln_2, kd_3, fd_3_0, fd_3_1, fd_3_2, fd_3_3, fd_3_4, fd_3_5, fd_3_6, fd_3_7, fd_3_8, fd_3_9, ln_4, ln_5, ln_6, ln_7, ln_8, ln_9, ln_10, kd_11, fd_11_0, fd_11_1, fd_11_2, fd_11_3, fd_11_4, kd_12, fd_12_0, fd_12_1, fd_12_2, fd_12_3, ln_13, ln_14, ln_15, kd_16, fd_16_0, fd_16_1, fd_16_2, ln_17, kd_18, fd_18_0, fd_18_1, kd_19, fd_19_0, fd_19_1, fd_19_2, fd_19_3, fd_19_4, fd_19_5, fd_19_6, fd_19_7, fd_19_8, fd_19_9, fd_19_10, fd_19_11, fd_19_12, fd_19_13, fd_19_14, fd_19_15, fd_19_16, fd_19_17, fd_19_18, fd_19_19, fd_19_20, ln_20, ln_21, ln_22, ln_23, ln_24, ln_25, ln_26, ln_27, ln_28, ln_29, ln_30, ln_31, ln_32, List.getElem?_cons_zero, List.getElem?_cons_succ, List.set_cons_zero, List.set_cons_succ, true_and, and_true, ↓reduceIte, Int32.reduceLT, Int32.reduceLE, li_10, or_true, true_or, vx, cx, vy, cy, c1, c2, c3, c4']
          exact F 1 h
        · refine am_entry hG (by decide +kernel) (Nat.le_of_ble_eq_true rfl) ?_
          refine am_go (cuts := k_Model_same) tb_Model_same 400 _ _ _ _ ?_
          change am_run _ _ _ _ _ _ [some (.ref 19), some (.int (nI x)), some (.int (nI y)), none, none, none] [] _
          simp only [q_Model_same_66, r_Model_same_0, r_Model_same_1, r_Model_same_4, r_Model_same_5, r_Model_same_6, r_Model_same_7, r_Model_same_10, r_Model_same_11, r_Model_same_12, r_Model_same_15, r_Model_same_16, r_Model_same_19, r_Model_same_20, r_Model_same_21, r_Model_same_22, r_Model_same_25, r_Model_same_26, r_Model_same_27, r_Model_same_30, r_Model_same_31, r_Model_same_34, r_Model_same_35, r_Model_same_36, r_Model_same_37, r_Model_same_40, r_Model_same_41, r_Model_same_42, r_Model_same_43, r_Model_same_46, r_Model_same_47, r_Model_same_50, r_Model_same_51, r_Model_same_52, r_Model_same_53, r_Model_same_56, r_Model_same_57, r_Model_same_60, r_Model_same_61, r_Model_same_63, r_Model_same_64, r_Model_same_66, r_Model_same_67, r_Model_same_70, r_Model_same_72, r_Model_same_75, r_Model_same_77, r_Model_same_78, r_Model_same_81, r_Model_same_82, r_Model_same_83, r_Model_same_86, r_Model_same_87, r_Model_same_90, r_Model_same_92, r_Model_same_93, r_Model_same_94, r_Model_same_96, r_Model_same_97, r_Model_same_98, r_Model_same_99, r_Model_same_102, r_Model_same_104, r_Model_same_105, r_Model_same_106, r_Model_same_108, r_Model_same_109, r_Model_same_110, r_Model_same_113, r_Model_same_114, r_Model_same_117, r_Model_same_118, r_Model_same_119, r_Model_same_122, r_Model_same_125, r_Model_same_126, ai_aload, ai_getf, ai_iload, ai_iald, ai_cmpne, ai_const, ai_goto, ai_istore, am_cut_0, am_cut_s, am_c1, ai_cmpeq, ai_ifeq, ai_cmpge, ai_imul, ai_bin, ai_iadd, ai_iinc, ai_zret, kd_0, fd_0_0, fd_0_1, fd_0_2, fd_0_3, fd_0_4, kd_1, fd_1_0, fd_1_1, ln_2, kd_3, fd_3_0, fd_3_1, fd_3_2, fd_3_3, fd_3_4, fd_3_5, fd_3_6, fd_3_7, fd_3_8, fd_3_9, ln_4, ln_5, ln_6, ln_7, ln_8, ln_9, ln_10, kd_11, fd_11_0, fd_11_1, fd_11_2, fd_11_3, fd_11_4, kd_12, fd_12_0, fd_12_1, fd_12_2, fd_12_3, ln_13, ln_14, ln_15, kd_16, fd_16_0, fd_16_1, fd_16_2, ln_17, kd_18, fd_18_0, fd_18_1, kd_19, fd_19_0, fd_19_1, fd_19_2, fd_19_3, fd_19_4, fd_19_5, fd_19_6, fd_19_7, fd_19_8, fd_19_9, fd_19_10, fd_19_11, fd_19_12, fd_19_13, fd_19_14, fd_19_15, fd_19_16, fd_19_17, fd_19_18, fd_19_19, fd_19_20, ln_20, ln_21, ln_22, ln_23, ln_24, ln_25, ln_26, ln_27, ln_28, ln_29, ln_30, ln_31, ln_32, List.getElem?_cons_zero, List.getElem?_cons_succ, List.set_cons_zero, List.set_cons_succ, true_and, and_true, ↓reduceIte, Int32.reduceLT, Int32.reduceLE, li_10, or_true, true_or, vx, cx, vy, cy, c1, c2, c3, c4]
          exact F 0 h
    · rw [decide_eq_false c1, Bool.false_and] at h
      by_cases c3 : M 21 x = 2
      · have c3' : (M 21 x = 2) = True := eq_true c3
        refine am_entry hG (by decide +kernel) (Nat.le_of_ble_eq_true rfl) ?_
        refine am_go (cuts := k_Model_same) tb_Model_same 400 _ _ _ _ ?_
        change am_run _ _ _ _ _ _ [some (.ref 19), some (.int (nI x)), some (.int (nI y)), none, none, none] [] _
        simp only [q_Model_same_66, r_Model_same_0, r_Model_same_1, r_Model_same_4, r_Model_same_5, r_Model_same_6, r_Model_same_7, r_Model_same_10, r_Model_same_11, r_Model_same_12, r_Model_same_15, r_Model_same_16, r_Model_same_19, r_Model_same_20, r_Model_same_21, r_Model_same_22, r_Model_same_25, r_Model_same_26, r_Model_same_27, r_Model_same_30, r_Model_same_31, r_Model_same_34, r_Model_same_35, r_Model_same_36, r_Model_same_37, r_Model_same_40, r_Model_same_41, r_Model_same_42, r_Model_same_43, r_Model_same_46, r_Model_same_47, r_Model_same_50, r_Model_same_51, r_Model_same_52, r_Model_same_53, r_Model_same_56, r_Model_same_57, r_Model_same_60, r_Model_same_61, r_Model_same_63, r_Model_same_64, r_Model_same_66, r_Model_same_67, r_Model_same_70, r_Model_same_72, r_Model_same_75, r_Model_same_77, r_Model_same_78, r_Model_same_81, r_Model_same_82, r_Model_same_83, r_Model_same_86, r_Model_same_87, r_Model_same_90, r_Model_same_92, r_Model_same_93, r_Model_same_94, r_Model_same_96, r_Model_same_97, r_Model_same_98, r_Model_same_99, r_Model_same_102, r_Model_same_104, r_Model_same_105, r_Model_same_106, r_Model_same_108, r_Model_same_109, r_Model_same_110, r_Model_same_113, r_Model_same_114, r_Model_same_117, r_Model_same_118, r_Model_same_119, r_Model_same_122, r_Model_same_125, r_Model_same_126, ai_aload, ai_getf, ai_iload, ai_iald, ai_cmpne, ai_const, ai_goto, ai_istore, am_cut_0, am_cut_s, am_c1, ai_cmpeq, ai_ifeq, ai_cmpge, ai_imul, ai_bin, ai_iadd, ai_iinc, ai_zret, kd_0, fd_0_0, fd_0_1, fd_0_2, fd_0_3, fd_0_4, kd_1, fd_1_0, fd_1_1, ln_2, kd_3, fd_3_0, fd_3_1, fd_3_2, fd_3_3, fd_3_4, fd_3_5, fd_3_6, fd_3_7, fd_3_8, fd_3_9, ln_4, ln_5, ln_6, ln_7, ln_8, ln_9, ln_10, kd_11, fd_11_0, fd_11_1, fd_11_2, fd_11_3, fd_11_4, kd_12, fd_12_0, fd_12_1, fd_12_2, fd_12_3, ln_13, ln_14, ln_15, kd_16, fd_16_0, fd_16_1, fd_16_2, ln_17, kd_18, fd_18_0, fd_18_1, kd_19, fd_19_0, fd_19_1, fd_19_2, fd_19_3, fd_19_4, fd_19_5, fd_19_6, fd_19_7, fd_19_8, fd_19_9, fd_19_10, fd_19_11, fd_19_12, fd_19_13, fd_19_14, fd_19_15, fd_19_16, fd_19_17, fd_19_18, fd_19_19, fd_19_20, ln_20, ln_21, ln_22, ln_23, ln_24, ln_25, ln_26, ln_27, ln_28, ln_29, ln_30, ln_31, ln_32, List.getElem?_cons_zero, List.getElem?_cons_succ, List.set_cons_zero, List.set_cons_succ, true_and, and_true, ↓reduceIte, Int32.reduceLT, Int32.reduceLE, li_10, or_true, true_or, vx, cx, vy, cy, c1, c3']
        exact F 1 h
      by_cases c4 : M 21 x = 3
      · have c4' : (M 21 x = 3) = True := eq_true c4
        refine am_entry hG (by decide +kernel) (Nat.le_of_ble_eq_true rfl) ?_
        refine am_go (cuts := k_Model_same) tb_Model_same 400 _ _ _ _ ?_
        change am_run _ _ _ _ _ _ [some (.ref 19), some (.int (nI x)), some (.int (nI y)), none, none, none] [] _
        simp only [q_Model_same_66, r_Model_same_0, r_Model_same_1, r_Model_same_4, r_Model_same_5, r_Model_same_6, r_Model_same_7, r_Model_same_10, r_Model_same_11, r_Model_same_12, r_Model_same_15, r_Model_same_16, r_Model_same_19, r_Model_same_20, r_Model_same_21, r_Model_same_22, r_Model_same_25, r_Model_same_26, r_Model_same_27, r_Model_same_30, r_Model_same_31, r_Model_same_34, r_Model_same_35, r_Model_same_36, r_Model_same_37, r_Model_same_40, r_Model_same_41, r_Model_same_42, r_Model_same_43, r_Model_same_46, r_Model_same_47, r_Model_same_50, r_Model_same_51, r_Model_same_52, r_Model_same_53, r_Model_same_56, r_Model_same_57, r_Model_same_60, r_Model_same_61, r_Model_same_63, r_Model_same_64, r_Model_same_66, r_Model_same_67, r_Model_same_70, r_Model_same_72, r_Model_same_75, r_Model_same_77, r_Model_same_78, r_Model_same_81, r_Model_same_82, r_Model_same_83, r_Model_same_86, r_Model_same_87, r_Model_same_90, r_Model_same_92, r_Model_same_93, r_Model_same_94, r_Model_same_96, r_Model_same_97, r_Model_same_98, r_Model_same_99, r_Model_same_102, r_Model_same_104, r_Model_same_105, r_Model_same_106, r_Model_same_108, r_Model_same_109, r_Model_same_110, r_Model_same_113, r_Model_same_114, r_Model_same_117, r_Model_same_118, r_Model_same_119, r_Model_same_122, r_Model_same_125, r_Model_same_126, ai_aload, ai_getf, ai_iload, ai_iald, ai_cmpne, ai_const, ai_goto, ai_istore, am_cut_0, am_cut_s, am_c1, ai_cmpeq, ai_ifeq, ai_cmpge, ai_imul, ai_bin, ai_iadd, ai_iinc, ai_zret, kd_0, fd_0_0, fd_0_1, fd_0_2, fd_0_3, fd_0_4, kd_1, fd_1_0, fd_1_1, ln_2, kd_3, fd_3_0, fd_3_1, fd_3_2, fd_3_3, fd_3_4, fd_3_5, fd_3_6, fd_3_7, fd_3_8, fd_3_9, ln_4, ln_5, ln_6, ln_7, ln_8, ln_9, ln_10, kd_11, fd_11_0, fd_11_1, fd_11_2, fd_11_3, fd_11_4, kd_12, fd_12_0, fd_12_1, fd_12_2, fd_12_3, ln_13, ln_14, ln_15, kd_16, fd_16_0, fd_16_1, fd_16_2, ln_17, kd_18, fd_18_0, fd_18_1, kd_19, fd_19_0, fd_19_1, fd_19_2, fd_19_3, fd_19_4, fd_19_5, fd_19_6, fd_19_7, fd_19_8, fd_19_9, fd_19_10, fd_19_11, fd_19_12, fd_19_13, fd_19_14, fd_19_15, fd_19_16, fd_19_17, fd_19_18, fd_19_19, fd_19_20, ln_20, ln_21, ln_22, ln_23, ln_24, ln_25, ln_26, ln_27, ln_28, ln_29, ln_30, ln_31, ln_32, List.getElem?_cons_zero, List.getElem?_cons_succ, List.set_cons_zero, List.set_cons_succ, true_and, and_true, ↓reduceIte, Int32.reduceLT, Int32.reduceLE, li_10, or_true, true_or, vx, cx, vy, cy, c1, c3, c4']
        exact F 1 h
      · refine am_entry hG (by decide +kernel) (Nat.le_of_ble_eq_true rfl) ?_
        refine am_go (cuts := k_Model_same) tb_Model_same 400 _ _ _ _ ?_
        change am_run _ _ _ _ _ _ [some (.ref 19), some (.int (nI x)), some (.int (nI y)), none, none, none] [] _
        simp only [q_Model_same_66, r_Model_same_0, r_Model_same_1, r_Model_same_4, r_Model_same_5, r_Model_same_6, r_Model_same_7, r_Model_same_10, r_Model_same_11, r_Model_same_12, r_Model_same_15, r_Model_same_16, r_Model_same_19, r_Model_same_20, r_Model_same_21, r_Model_same_22, r_Model_same_25, r_Model_same_26, r_Model_same_27, r_Model_same_30, r_Model_same_31, r_Model_same_34, r_Model_same_35, r_Model_same_36, r_Model_same_37, r_Model_same_40, r_Model_same_41, r_Model_same_42, r_Model_same_43, r_Model_same_46, r_Model_same_47, r_Model_same_50, r_Model_same_51, r_Model_same_52, r_Model_same_53, r_Model_same_56, r_Model_same_57, r_Model_same_60, r_Model_same_61, r_Model_same_63, r_Model_same_64, r_Model_same_66, r_Model_same_67, r_Model_same_70, r_Model_same_72, r_Model_same_75, r_Model_same_77, r_Model_same_78, r_Model_same_81, r_Model_same_82, r_Model_same_83, r_Model_same_86, r_Model_same_87, r_Model_same_90, r_Model_same_92, r_Model_same_93, r_Model_same_94, r_Model_same_96, r_Model_same_97, r_Model_same_98, r_Model_same_99, r_Model_same_102, r_Model_same_104, r_Model_same_105, r_Model_same_106, r_Model_same_108, r_Model_same_109, r_Model_same_110, r_Model_same_113, r_Model_same_114, r_Model_same_117, r_Model_same_118, r_Model_same_119, r_Model_same_122, r_Model_same_125, r_Model_same_126, ai_aload, ai_getf, ai_iload, ai_iald, ai_cmpne, ai_const, ai_goto, ai_istore, am_cut_0, am_cut_s, am_c1, ai_cmpeq, ai_ifeq, ai_cmpge, ai_imul, ai_bin, ai_iadd, ai_iinc, ai_zret, kd_0, fd_0_0, fd_0_1, fd_0_2, fd_0_3, fd_0_4, kd_1, fd_1_0, fd_1_1, ln_2, kd_3, fd_3_0, fd_3_1, fd_3_2, fd_3_3, fd_3_4, fd_3_5, fd_3_6, fd_3_7, fd_3_8, fd_3_9, ln_4, ln_5, ln_6, ln_7, ln_8, ln_9, ln_10, kd_11, fd_11_0, fd_11_1, fd_11_2, fd_11_3, fd_11_4, kd_12, fd_12_0, fd_12_1, fd_12_2, fd_12_3, ln_13, ln_14, ln_15, kd_16, fd_16_0, fd_16_1, fd_16_2, ln_17, kd_18, fd_18_0, fd_18_1, kd_19, fd_19_0, fd_19_1, fd_19_2, fd_19_3, fd_19_4, fd_19_5, fd_19_6, fd_19_7, fd_19_8, fd_19_9, fd_19_10, fd_19_11, fd_19_12, fd_19_13, fd_19_14, fd_19_15, fd_19_16, fd_19_17, fd_19_18, fd_19_19, fd_19_20, ln_20, ln_21, ln_22, ln_23, ln_24, ln_25, ln_26, ln_27, ln_28, ln_29, ln_30, ln_31, ln_32, List.getElem?_cons_zero, List.getElem?_cons_succ, List.set_cons_zero, List.set_cons_succ, true_and, and_true, ↓reduceIte, Int32.reduceLT, Int32.reduceLE, li_10, or_true, true_or, vx, cx, vy, cy, c1, c3, c4]
        exact F 0 h
  · cases h
/-- all pairs of the stack are alike -/
def stA (M : aM) (s t : Nat → Int32) : Nat → Bool
  | 0 => true
  | k + 1 => lk M (cl (s k)) (cl (t k)) && stA M s t k
theorem stA_eq {M : aM} {s t s' t' : Nat → Int32} : ∀ k, (∀ j, j < k → s' j = s j ∧ t' j = t j) → stA M s' t' k = stA M s t k
  | 0, _ => rfl
  | k + 1, h => by
    rw [stA, stA, stA_eq k (fun j hj => h j (by omega)), (h k (by omega)).1, (h k (by omega)).2]
theorem m_same_wq {M0 M : aM} (h : wq_rel M0 M) (x y : Nat) : m_same M x y = m_same M0 x y := by
  have e21 := h.1 21 (by decide) (by decide) (by decide) (by decide)
  have e22 := h.1 22 (by decide) (by decide) (by decide) (by decide)
  have e23 := h.1 23 (by decide) (by decide) (by decide) (by decide)
  have eL : ∀ (r k : Nat), ltE M x y r k = ltE M0 x y r k := by
    intro r
    induction r with
    | zero => intro k; rfl
    | succ r ih => intro k; rw [ltE, ltE, ih, e23]
  unfold m_same
  rw [e21, e22, eL]
/-- the stacks alone may differ -/
def wk (M N : aM) : Prop := ∀ i, ¬ i = 31 → ¬ i = 32 → N i = M i
theorem wk_31 {M N : aM} {j : Nat} {x : Int32} (h : wk M N) : wk M (am_up N 31 j x) := fun i a b => by rw [am_up_ne a]; exact h i a b
theorem wk_32 {M N : aM} {j : Nat} {x : Int32} (h : wk M N) : wk M (am_up N 32 j x) := fun i a b => by rw [am_up_ne b]; exact h i a b
def sp_Model_like1 : aS := fun as M K => match as with
  | [.ref a, .int x, .int y] => a = 19 ∧ (tr_ok M ∧ mc_ok M ∧ mw_ok M) ∧ ∀ (N : aM), wq_rel M N → wk M N → K (some (.int (b2 (m_like M x y)))) N
  | _ => False
set_option maxRecDepth 100000 in
set_option maxHeartbeats 4000000 in
theorem lp_Model_like1 {G : aG} (hG : am_ok G) {K : aR} {M0 : aM} {x0 y0 : Int32} {res : Bool} (ht : tr_ok M0) (hc : mc_ok M0) (hK : ∀ (N : aM), wq_rel M0 N → wk M0 N → K (some (.int (b2 res))) N) : ∀ (k m : Nat) (M : aM) (o5 o6 : Option Value), nu (M 31) m < k → wq_rel M0 M → wk M0 M → lq_ok (mN M0) M m → res = stA M0 (M 31) (M 32) m → am_X G Y_Model_like 1 K 37 [some (.ref 19), some (.int x0), some (.int y0), some (.int (nI m)), some (.int 1), o5, o6] [] M := by
  intro k
  have h200 := hc.2
  have F : ∀ (m : Nat) (M : aM) (o5 o6 : Option Value), m ≤ 200 → wq_rel M0 M → wk M0 M → res = false → am_X G Y_Model_like 1 K 37 [some (.ref 19), some (.int x0), some (.int y0), some (.int (nI m)), some (.int 0), o5, o6] [] M := by
    intro m M o5 o6 hm hM hwk hres
    rw [hres] at hK
    by_cases c : nI m ≤ 0
    · refine am_from (tb_Model_like (ok_Model_isNode hG) (by decide) (ok_Model_same1 hG) (by decide)) k_Model_like 400 ?_
      simp only [q_Model_like_37, r_Model_like_0, r_Model_like_1, r_Model_like_2, r_Model_like_5, r_Model_like_8, r_Model_like_9, r_Model_like_10, r_Model_like_13, r_Model_like_16, r_Model_like_17, r_Model_like_18, r_Model_like_19, r_Model_like_22, r_Model_like_23, r_Model_like_24, r_Model_like_25, r_Model_like_26, r_Model_like_29, r_Model_like_30, r_Model_like_31, r_Model_like_32, r_Model_like_33, r_Model_like_34, r_Model_like_35, r_Model_like_37, r_Model_like_38, r_Model_like_41, r_Model_like_43, r_Model_like_46, r_Model_like_47, r_Model_like_48, r_Model_like_49, r_Model_like_50, r_Model_like_51, r_Model_like_54, r_Model_like_55, r_Model_like_56, r_Model_like_58, r_Model_like_59, r_Model_like_62, r_Model_like_63, r_Model_like_64, r_Model_like_66, r_Model_like_67, r_Model_like_69, r_Model_like_71, r_Model_like_74, r_Model_like_76, r_Model_like_78, r_Model_like_81, r_Model_like_82, r_Model_like_85, r_Model_like_87, r_Model_like_88, r_Model_like_89, r_Model_like_92, r_Model_like_93, r_Model_like_96, r_Model_like_97, r_Model_like_98, r_Model_like_101, r_Model_like_103, r_Model_like_104, r_Model_like_105, r_Model_like_106, r_Model_like_109, r_Model_like_110, r_Model_like_111, r_Model_like_114, r_Model_like_116, r_Model_like_117, r_Model_like_118, r_Model_like_119, r_Model_like_122, r_Model_like_123, r_Model_like_124, r_Model_like_125, r_Model_like_126, r_Model_like_129, r_Model_like_131, r_Model_like_132, r_Model_like_133, r_Model_like_134, r_Model_like_137, r_Model_like_138, r_Model_like_139, r_Model_like_140, r_Model_like_141, r_Model_like_144, r_Model_like_146, r_Model_like_147, r_Model_like_148, r_Model_like_149, r_Model_like_150, r_Model_like_151, r_Model_like_152, r_Model_like_155, r_Model_like_157, ai_aload, ai_iload, ai_callv2, am_push, am_few, ai_ifeq, ai_ifne, ai_const, ai_zret, ai_getf, ai_iast, ai_istore, am_cut_0, am_cut_s, am_c1, ai_ifle, ai_isub, ai_bin, ai_iald, ai_callv3, ai_cmpne, ai_iadd, ai_goto, kd_0, fd_0_0, fd_0_1, fd_0_2, fd_0_3, fd_0_4, kd_1, fd_1_0, fd_1_1, ln_2, kd_3, fd_3_0, fd_3_1, fd_3_2, fd_3_3, fd_3_4, fd_3_5, fd_3_6, fd_3_7, fd_3_8, fd_3_9, ln_4, ln_5, ln_6, ln_7, ln_8, ln_9, ln_10, kd_11, fd_11_0, fd_11_1, fd_11_2, fd_11_3, fd_11_4, kd_12, fd_12_0, fd_12_1, fd_12_2, fd_12_3, ln_13, ln_14, ln_15, kd_16, fd_16_0, fd_16_1, fd_16_2, ln_17, kd_18, fd_18_0, fd_18_1, kd_19, fd_19_0, fd_19_1, fd_19_2, fd_19_3, fd_19_4, fd_19_5, fd_19_6, fd_19_7, fd_19_8, fd_19_9, fd_19_10, fd_19_11, fd_19_12, fd_19_13, fd_19_14, fd_19_15, fd_19_16, fd_19_17, fd_19_18, fd_19_19, fd_19_20, ln_20, ln_21, ln_22, ln_23, ln_24, ln_25, ln_26, ln_27, ln_28, ln_29, ln_30, ln_31, ln_32, List.getElem?_cons_zero, List.getElem?_cons_succ, List.set_cons_zero, List.set_cons_succ, true_and, and_true, ↓reduceIte, Int32.reduceLT, Int32.reduceLE, li_10, or_true, true_or, c]
      exact hK M hM hwk
    · refine am_from (tb_Model_like (ok_Model_isNode hG) (by decide) (ok_Model_same1 hG) (by decide)) k_Model_like 400 ?_
      simp only [q_Model_like_37, r_Model_like_0, r_Model_like_1, r_Model_like_2, r_Model_like_5, r_Model_like_8, r_Model_like_9, r_Model_like_10, r_Model_like_13, r_Model_like_16, r_Model_like_17, r_Model_like_18, r_Model_like_19, r_Model_like_22, r_Model_like_23, r_Model_like_24, r_Model_like_25, r_Model_like_26, r_Model_like_29, r_Model_like_30, r_Model_like_31, r_Model_like_32, r_Model_like_33, r_Model_like_34, r_Model_like_35, r_Model_like_37, r_Model_like_38, r_Model_like_41, r_Model_like_43, r_Model_like_46, r_Model_like_47, r_Model_like_48, r_Model_like_49, r_Model_like_50, r_Model_like_51, r_Model_like_54, r_Model_like_55, r_Model_like_56, r_Model_like_58, r_Model_like_59, r_Model_like_62, r_Model_like_63, r_Model_like_64, r_Model_like_66, r_Model_like_67, r_Model_like_69, r_Model_like_71, r_Model_like_74, r_Model_like_76, r_Model_like_78, r_Model_like_81, r_Model_like_82, r_Model_like_85, r_Model_like_87, r_Model_like_88, r_Model_like_89, r_Model_like_92, r_Model_like_93, r_Model_like_96, r_Model_like_97, r_Model_like_98, r_Model_like_101, r_Model_like_103, r_Model_like_104, r_Model_like_105, r_Model_like_106, r_Model_like_109, r_Model_like_110, r_Model_like_111, r_Model_like_114, r_Model_like_116, r_Model_like_117, r_Model_like_118, r_Model_like_119, r_Model_like_122, r_Model_like_123, r_Model_like_124, r_Model_like_125, r_Model_like_126, r_Model_like_129, r_Model_like_131, r_Model_like_132, r_Model_like_133, r_Model_like_134, r_Model_like_137, r_Model_like_138, r_Model_like_139, r_Model_like_140, r_Model_like_141, r_Model_like_144, r_Model_like_146, r_Model_like_147, r_Model_like_148, r_Model_like_149, r_Model_like_150, r_Model_like_151, r_Model_like_152, r_Model_like_155, r_Model_like_157, ai_aload, ai_iload, ai_callv2, am_push, am_few, ai_ifeq, ai_ifne, ai_const, ai_zret, ai_getf, ai_iast, ai_istore, am_cut_0, am_cut_s, am_c1, ai_ifle, ai_isub, ai_bin, ai_iald, ai_callv3, ai_cmpne, ai_iadd, ai_goto, kd_0, fd_0_0, fd_0_1, fd_0_2, fd_0_3, fd_0_4, kd_1, fd_1_0, fd_1_1, ln_2, kd_3, fd_3_0, fd_3_1, fd_3_2, fd_3_3, fd_3_4, fd_3_5, fd_3_6, fd_3_7, fd_3_8, fd_3_9, ln_4, ln_5, ln_6, ln_7, ln_8, ln_9, ln_10, kd_11, fd_11_0, fd_11_1, fd_11_2, fd_11_3, fd_11_4, kd_12, fd_12_0, fd_12_1, fd_12_2, fd_12_3, ln_13, ln_14, ln_15, kd_16, fd_16_0, fd_16_1, fd_16_2, ln_17, kd_18, fd_18_0, fd_18_1, kd_19, fd_19_0, fd_19_1, fd_19_2, fd_19_3, fd_19_4, fd_19_5, fd_19_6, fd_19_7, fd_19_8, fd_19_9, fd_19_10, fd_19_11, fd_19_12, fd_19_13, fd_19_14, fd_19_15, fd_19_16, fd_19_17, fd_19_18, fd_19_19, fd_19_20, ln_20, ln_21, ln_22, ln_23, ln_24, ln_25, ln_26, ln_27, ln_28, ln_29, ln_30, ln_31, ln_32, List.getElem?_cons_zero, List.getElem?_cons_succ, List.set_cons_zero, List.set_cons_succ, true_and, and_true, ↓reduceIte, Int32.reduceLT, Int32.reduceLE, li_10, or_true, true_or, c]
      exact hK M hM hwk
  induction k with
  | zero =>
    intro m M o5 o6 h
    omega
  | succ k ih =>
    intro m M o5 o6 hnu hM hwk hq hres
    by_cases c : m = 0
    · subst c
      have z : nI 0 ≤ 0 := by decide
      refine am_from (tb_Model_like (ok_Model_isNode hG) (by decide) (ok_Model_same1 hG) (by decide)) k_Model_like 400 ?_
      simp only [q_Model_like_37, r_Model_like_0, r_Model_like_1, r_Model_like_2, r_Model_like_5, r_Model_like_8, r_Model_like_9, r_Model_like_10, r_Model_like_13, r_Model_like_16, r_Model_like_17, r_Model_like_18, r_Model_like_19, r_Model_like_22, r_Model_like_23, r_Model_like_24, r_Model_like_25, r_Model_like_26, r_Model_like_29, r_Model_like_30, r_Model_like_31, r_Model_like_32, r_Model_like_33, r_Model_like_34, r_Model_like_35, r_Model_like_37, r_Model_like_38, r_Model_like_41, r_Model_like_43, r_Model_like_46, r_Model_like_47, r_Model_like_48, r_Model_like_49, r_Model_like_50, r_Model_like_51, r_Model_like_54, r_Model_like_55, r_Model_like_56, r_Model_like_58, r_Model_like_59, r_Model_like_62, r_Model_like_63, r_Model_like_64, r_Model_like_66, r_Model_like_67, r_Model_like_69, r_Model_like_71, r_Model_like_74, r_Model_like_76, r_Model_like_78, r_Model_like_81, r_Model_like_82, r_Model_like_85, r_Model_like_87, r_Model_like_88, r_Model_like_89, r_Model_like_92, r_Model_like_93, r_Model_like_96, r_Model_like_97, r_Model_like_98, r_Model_like_101, r_Model_like_103, r_Model_like_104, r_Model_like_105, r_Model_like_106, r_Model_like_109, r_Model_like_110, r_Model_like_111, r_Model_like_114, r_Model_like_116, r_Model_like_117, r_Model_like_118, r_Model_like_119, r_Model_like_122, r_Model_like_123, r_Model_like_124, r_Model_like_125, r_Model_like_126, r_Model_like_129, r_Model_like_131, r_Model_like_132, r_Model_like_133, r_Model_like_134, r_Model_like_137, r_Model_like_138, r_Model_like_139, r_Model_like_140, r_Model_like_141, r_Model_like_144, r_Model_like_146, r_Model_like_147, r_Model_like_148, r_Model_like_149, r_Model_like_150, r_Model_like_151, r_Model_like_152, r_Model_like_155, r_Model_like_157, ai_aload, ai_iload, ai_callv2, am_push, am_few, ai_ifeq, ai_ifne, ai_const, ai_zret, ai_getf, ai_iast, ai_istore, am_cut_0, am_cut_s, am_c1, ai_ifle, ai_isub, ai_bin, ai_iald, ai_callv3, ai_cmpne, ai_iadd, ai_goto, kd_0, fd_0_0, fd_0_1, fd_0_2, fd_0_3, fd_0_4, kd_1, fd_1_0, fd_1_1, ln_2, kd_3, fd_3_0, fd_3_1, fd_3_2, fd_3_3, fd_3_4, fd_3_5, fd_3_6, fd_3_7, fd_3_8, fd_3_9, ln_4, ln_5, ln_6, ln_7, ln_8, ln_9, ln_10, kd_11, fd_11_0, fd_11_1, fd_11_2, fd_11_3, fd_11_4, kd_12, fd_12_0, fd_12_1, fd_12_2, fd_12_3, ln_13, ln_14, ln_15, kd_16, fd_16_0, fd_16_1, fd_16_2, ln_17, kd_18, fd_18_0, fd_18_1, kd_19, fd_19_0, fd_19_1, fd_19_2, fd_19_3, fd_19_4, fd_19_5, fd_19_6, fd_19_7, fd_19_8, fd_19_9, fd_19_10, fd_19_11, fd_19_12, fd_19_13, fd_19_14, fd_19_15, fd_19_16, fd_19_17, fd_19_18, fd_19_19, fd_19_20, ln_20, ln_21, ln_22, ln_23, ln_24, ln_25, ln_26, ln_27, ln_28, ln_29, ln_30, ln_31, ln_32, List.getElem?_cons_zero, List.getElem?_cons_succ, List.set_cons_zero, List.set_cons_succ, true_and, and_true, ↓reduceIte, Int32.reduceLT, Int32.reduceLE, li_10, or_true, true_or, z]
      rw [hres] at hK
      exact hK M hM hwk
    obtain ⟨m, rfl⟩ : ∃ q, m = q + 1 := ⟨m - 1, by omega⟩
    obtain ⟨x, y, ex, hj, hx, ey, hy⟩ := hq m (by omega)
    have z : ¬ nI (m + 1) ≤ 0 := nI_nle (by omega) (by omega)
    have e1 : nI (m + 1) - 1 = nI m := nI_pred m
    have vm : vp_in (nI m) 420 := vp_in_nI (by omega) (by decide)
    have cm : (nI m).toNatClampNeg = m := nI_clamp (by omega)
    have vm1 : vp_in (nI (m + 1)) 420 := vp_in_nI (by omega) (by decide)
    have cm1 : (nI (m + 1)).toNatClampNeg = m + 1 := nI_clamp (by omega)
    have em2 : nI m + 2 = nI (m + 2) := nI_add m 2
    have ht2 := hM.tree ht
    have hc2 := hM.mc hc
    have eN : mN M = mN M0 := by unfold mN; rw [hM.2.1 5 (by decide)]
    have hex : (∃ a b, a < mN M ∧ nI x = nI a ∧ b < mN M ∧ nI y = nI b) = True := eq_true ⟨x, y, by omega, rfl, by omega, rfl⟩
    have cx : (nI x).toNatClampNeg = x := nI_clamp (by omega)
    have vx : vp_in (nI x) 200 := vp_in_nI (by omega) (by decide)
    have cy : (nI y).toNatClampNeg = y := nI_clamp (by omega)
    have vy : vp_in (nI y) 200 := vp_in_nI (by omega) (by decide)
    have hnu2 : nu (M 31) (m + 1) = nu (M 31) m + 3 ^ (201 - x) := by
      show nu (M 31) m + 3 ^ (201 - cl (M 31 m)) = _
      rw [ex, show cl (nI x) = x from cx]
    have h3p : 0 < 3 ^ (201 - x) := Nat.pow_pos (by decide)
    refine am_from (tb_Model_like (ok_Model_isNode hG) (by decide) (ok_Model_same1 hG) (by decide)) k_Model_like 400 ?_
    simp only [q_Model_like_37, r_Model_like_0, r_Model_like_1, r_Model_like_2, r_Model_like_5, r_Model_like_8, r_Model_like_9, r_Model_like_10, r_Model_like_13, r_Model_like_16, r_Model_like_17, r_Model_like_18, r_Model_like_19, r_Model_like_22, r_Model_like_23, r_Model_like_24, r_Model_like_25, r_Model_like_26, r_Model_like_29, r_Model_like_30, r_Model_like_31, r_Model_like_32, r_Model_like_33, r_Model_like_34, r_Model_like_35, r_Model_like_37, r_Model_like_38, r_Model_like_41, r_Model_like_43, r_Model_like_46, r_Model_like_47, r_Model_like_48, r_Model_like_49, r_Model_like_50, r_Model_like_51, r_Model_like_54, r_Model_like_55, r_Model_like_56, r_Model_like_58, r_Model_like_59, r_Model_like_62, r_Model_like_63, r_Model_like_64, r_Model_like_66, r_Model_like_67, r_Model_like_69, r_Model_like_71, r_Model_like_74, r_Model_like_76, r_Model_like_78, r_Model_like_81, r_Model_like_82, r_Model_like_85, r_Model_like_87, r_Model_like_88, r_Model_like_89, r_Model_like_92, r_Model_like_93, r_Model_like_96, r_Model_like_97, r_Model_like_98, r_Model_like_101, r_Model_like_103, r_Model_like_104, r_Model_like_105, r_Model_like_106, r_Model_like_109, r_Model_like_110, r_Model_like_111, r_Model_like_114, r_Model_like_116, r_Model_like_117, r_Model_like_118, r_Model_like_119, r_Model_like_122, r_Model_like_123, r_Model_like_124, r_Model_like_125, r_Model_like_126, r_Model_like_129, r_Model_like_131, r_Model_like_132, r_Model_like_133, r_Model_like_134, r_Model_like_137, r_Model_like_138, r_Model_like_139, r_Model_like_140, r_Model_like_141, r_Model_like_144, r_Model_like_146, r_Model_like_147, r_Model_like_148, r_Model_like_149, r_Model_like_150, r_Model_like_151, r_Model_like_152, r_Model_like_155, r_Model_like_157, ai_aload, ai_iload, ai_callv2, am_push, am_few, ai_ifeq, ai_ifne, ai_const, ai_zret, ai_getf, ai_iast, ai_istore, am_cut_0, am_cut_s, am_c1, ai_ifle, ai_isub, ai_bin, ai_iald, ai_callv3, ai_cmpne, ai_iadd, ai_goto, kd_0, fd_0_0, fd_0_1, fd_0_2, fd_0_3, fd_0_4, kd_1, fd_1_0, fd_1_1, ln_2, kd_3, fd_3_0, fd_3_1, fd_3_2, fd_3_3, fd_3_4, fd_3_5, fd_3_6, fd_3_7, fd_3_8, fd_3_9, ln_4, ln_5, ln_6, ln_7, ln_8, ln_9, ln_10, kd_11, fd_11_0, fd_11_1, fd_11_2, fd_11_3, fd_11_4, kd_12, fd_12_0, fd_12_1, fd_12_2, fd_12_3, ln_13, ln_14, ln_15, kd_16, fd_16_0, fd_16_1, fd_16_2, ln_17, kd_18, fd_18_0, fd_18_1, kd_19, fd_19_0, fd_19_1, fd_19_2, fd_19_3, fd_19_4, fd_19_5, fd_19_6, fd_19_7, fd_19_8, fd_19_9, fd_19_10, fd_19_11, fd_19_12, fd_19_13, fd_19_14, fd_19_15, fd_19_16, fd_19_17, fd_19_18, fd_19_19, fd_19_20, ln_20, ln_21, ln_22, ln_23, ln_24, ln_25, ln_26, ln_27, ln_28, ln_29, ln_30, ln_31, ln_32, List.getElem?_cons_zero, List.getElem?_cons_succ, List.set_cons_zero, List.set_cons_succ, true_and, and_true, ↓reduceIte, Int32.reduceLT, Int32.reduceLE, li_10, or_true, true_or, ↓sp_Model_same1, z, e1, vm, cm, ex, ey, ht2, hc2, hex]
    rw [show cl (nI x) = x from cx, show cl (nI y) = y from cy]
    have hsm := m_same_wq hM x y
    have hlk := lk_eq ht h200 hx hy
    have hst : stA M0 (M 31) (M 32) (m + 1) = (lk M0 x y && stA M0 (M 31) (M 32) m) := by
      rw [stA, ex, ey, show cl (nI x) = x from cx, show cl (nI y) = y from cy]
    have e21 := hM.1 21 (by decide) (by decide) (by decide) (by decide)
    cases hb : m_same M x y
    · have b0 : b2 false = 0 := rfl
      simp only [q_Model_like_37, r_Model_like_0, r_Model_like_1, r_Model_like_2, r_Model_like_5, r_Model_like_8, r_Model_like_9, r_Model_like_10, r_Model_like_13, r_Model_like_16, r_Model_like_17, r_Model_like_18, r_Model_like_19, r_Model_like_22, r_Model_like_23, r_Model_like_24, r_Model_like_25, r_Model_like_26, r_Model_like_29, r_Model_like_30, r_Model_like_31, r_Model_like_32, r_Model_like_33, r_Model_like_34, r_Model_like_35, r_Model_like_37, r_Model_like_38, r_Model_like_41, r_Model_like_43, r_Model_like_46, r_Model_like_47, r_Model_like_48, r_Model_like_49, r_Model_like_50, r_Model_like_51, r_Model_like_54, r_Model_like_55, r_Model_like_56, r_Model_like_58, r_Model_like_59, r_Model_like_62, r_Model_like_63, r_Model_like_64, r_Model_like_66, r_Model_like_67, r_Model_like_69, r_Model_like_71, r_Model_like_74, r_Model_like_76, r_Model_like_78, r_Model_like_81, r_Model_like_82, r_Model_like_85, r_Model_like_87, r_Model_like_88, r_Model_like_89, r_Model_like_92, r_Model_like_93, r_Model_like_96, r_Model_like_97, r_Model_like_98, r_Model_like_101, r_Model_like_103, r_Model_like_104, r_Model_like_105, r_Model_like_106, r_Model_like_109, r_Model_like_110, r_Model_like_111, r_Model_like_114, r_Model_like_116, r_Model_like_117, r_Model_like_118, r_Model_like_119, r_Model_like_122, r_Model_like_123, r_Model_like_124, r_Model_like_125, r_Model_like_126, r_Model_like_129, r_Model_like_131, r_Model_like_132, r_Model_like_133, r_Model_like_134, r_Model_like_137, r_Model_like_138, r_Model_like_139, r_Model_like_140, r_Model_like_141, r_Model_like_144, r_Model_like_146, r_Model_like_147, r_Model_like_148, r_Model_like_149, r_Model_like_150, r_Model_like_151, r_Model_like_152, r_Model_like_155, r_Model_like_157, ai_aload, ai_iload, ai_callv2, am_push, am_few, ai_ifeq, ai_ifne, ai_const, ai_zret, ai_getf, ai_iast, ai_istore, am_cut_0, am_cut_s, am_c1, ai_ifle, ai_isub, ai_bin, ai_iald, ai_callv3, ai_cmpne, ai_iadd, ai_goto, kd_0, fd_0_0, fd_0_1, fd_0_2, fd_0_3, fd_0_4, kd_1, fd_1_0, fd_1_1, ln_2, kd_3, fd_3_0, fd_3_1, fd_3_2, fd_3_3, fd_3_4, fd_3_5, fd_3_6, fd_3_7, fd_3_8, fd_3_9, ln_4, ln_5, ln_6, ln_7, ln_8, ln_9, ln_10, kd_11, fd_11_0, fd_11_1, fd_11_2, fd_11_3, fd_11_4, kd_12, fd_12_0, fd_12_1, fd_12_2, fd_12_3, ln_13, ln_14, ln_15, kd_16, fd_16_0, fd_16_1, fd_16_2, ln_17, kd_18, fd_18_0, fd_18_1, kd_19, fd_19_0, fd_19_1, fd_19_2, fd_19_3, fd_19_4, fd_19_5, fd_19_6, fd_19_7, fd_19_8, fd_19_9, fd_19_10, fd_19_11, fd_19_12, fd_19_13, fd_19_14, fd_19_15, fd_19_16, fd_19_17, fd_19_18, fd_19_19, fd_19_20, ln_20, ln_21, ln_22, ln_23, ln_24, ln_25, ln_26, ln_27, ln_28, ln_29, ln_30, ln_31, ln_32, List.getElem?_cons_zero, List.getElem?_cons_succ, List.set_cons_zero, List.set_cons_succ, true_and, and_true, ↓reduceIte, Int32.reduceLT, Int32.reduceLE, li_10, or_true, true_or, b0]
      refine F m M _ _ (by omega) hM hwk ?_
      rw [hres, hst, hlk, ← hsm, hb]
      rfl
    · have b1 : ¬ b2 true = 0 := by decide
      have b11 : b2 true = 1 := rfl
      rw [← hsm, hb, Bool.true_and] at hlk
      by_cases c4 : M 21 x = 4
      · have c4' : (M 21 x = 4) = True := eq_true c4
        have hxy : M 21 x = M 21 y := same_k hb
        have c4y : M 21 y = 4 := by rw [← hxy]; exact c4
        obtain ⟨h1, t1, eh, et, a1, a2, a3, a4⟩ := (ht2 x (by omega)).2.2 c4
        obtain ⟨h2, t2, eh2, et2, d1, d2, d3, d4⟩ := (ht2 y (by omega)).2.2 c4y
        have p1 := pw_3 a1 (by omega)
        have p2 := pw_3 a3 (by omega)
        simp only [q_Model_like_37, r_Model_like_0, r_Model_like_1, r_Model_like_2, r_Model_like_5, r_Model_like_8, r_Model_like_9, r_Model_like_10, r_Model_like_13, r_Model_like_16, r_Model_like_17, r_Model_like_18, r_Model_like_19, r_Model_like_22, r_Model_like_23, r_Model_like_24, r_Model_like_25, r_Model_like_26, r_Model_like_29, r_Model_like_30, r_Model_like_31, r_Model_like_32, r_Model_like_33, r_Model_like_34, r_Model_like_35, r_Model_like_37, r_Model_like_38, r_Model_like_41, r_Model_like_43, r_Model_like_46, r_Model_like_47, r_Model_like_48, r_Model_like_49, r_Model_like_50, r_Model_like_51, r_Model_like_54, r_Model_like_55, r_Model_like_56, r_Model_like_58, r_Model_like_59, r_Model_like_62, r_Model_like_63, r_Model_like_64, r_Model_like_66, r_Model_like_67, r_Model_like_69, r_Model_like_71, r_Model_like_74, r_Model_like_76, r_Model_like_78, r_Model_like_81, r_Model_like_82, r_Model_like_85, r_Model_like_87, r_Model_like_88, r_Model_like_89, r_Model_like_92, r_Model_like_93, r_Model_like_96, r_Model_like_97, r_Model_like_98, r_Model_like_101, r_Model_like_103, r_Model_like_104, r_Model_like_105, r_Model_like_106, r_Model_like_109, r_Model_like_110, r_Model_like_111, r_Model_like_114, r_Model_like_116, r_Model_like_117, r_Model_like_118, r_Model_like_119, r_Model_like_122, r_Model_like_123, r_Model_like_124, r_Model_like_125, r_Model_like_126, r_Model_like_129, r_Model_like_131, r_Model_like_132, r_Model_like_133, r_Model_like_134, r_Model_like_137, r_Model_like_138, r_Model_like_139, r_Model_like_140, r_Model_like_141, r_Model_like_144, r_Model_like_146, r_Model_like_147, r_Model_like_148, r_Model_like_149, r_Model_like_150, r_Model_like_151, r_Model_like_152, r_Model_like_155, r_Model_like_157, ai_aload, ai_iload, ai_callv2, am_push, am_few, ai_ifeq, ai_ifne, ai_const, ai_zret, ai_getf, ai_iast, ai_istore, am_cut_0, am_cut_s, am_c1, ai_ifle, ai_isub, ai_bin, ai_iald, ai_callv3, ai_cmpne, ai_iadd, ai_goto, kd_0, fd_0_0, fd_0_1, fd_0_2, fd_0_3, fd_0_4, kd_1, fd_1_0, fd_1_1, ln_2, kd_3, fd_3_0, fd_3_1, fd_3_2, fd_3_3, fd_3_4, fd_3_5, fd_3_6, fd_3_7, fd_3_8, fd_3_9, ln_4, ln_5, ln_6, ln_7, ln_8, ln_9, ln_10, kd_11, fd_11_0, fd_11_1, fd_11_2, fd_11_3, fd_11_4, kd_12, fd_12_0, fd_12_1, fd_12_2, fd_12_3, ln_13, ln_14, ln_15, kd_16, fd_16_0, fd_16_1, fd_16_2, ln_17, kd_18, fd_18_0, fd_18_1, kd_19, fd_19_0, fd_19_1, fd_19_2, fd_19_3, fd_19_4, fd_19_5, fd_19_6, fd_19_7, fd_19_8, fd_19_9, fd_19_10, fd_19_11, fd_19_12, fd_19_13, fd_19_14, fd_19_15, fd_19_16, fd_19_17, fd_19_18, fd_19_19, fd_19_20, ln_20, ln_21, ln_22, ln_23, ln_24, ln_25, ln_26, ln_27, ln_28, ln_29, ln_30, ln_31, ln_32, List.getElem?_cons_zero, List.getElem?_cons_succ, List.set_cons_zero, List.set_cons_succ, true_and, and_true, ↓reduceIte, Int32.reduceLT, Int32.reduceLE, li_10, or_true, true_or, b1, vx, cx, vy, cy, c4', vm, cm, vm1, cm1, nI_1, em2, am_up_ap, Nat.reduceEqDiff, eh, et, eh2, et2, b11]
        refine ih (m + 2) _ _ _ ?_ ?_ (wk_32 (wk_31 (wk_32 (wk_31 hwk)))) ?_ ?_
        · have E : nu (am_up (am_up (am_up (am_up M 31 m (nI t1)) 32 m (nI t2)) 31 (m + 1) (nI h1)) 32 (m + 1) (nI h2) 31) (m + 2) = nu (M 31) m + 3 ^ (201 - t1) + 3 ^ (201 - h1) := by
            show nu _ m + 3 ^ (201 - cl _) + 3 ^ (201 - cl _) = _
            rw [nu_eq (t := M 31) m (fun j hj => by
              simp only [am_up_ap, ↓reduceIte, Nat.reduceEqDiff]
              rw [if_neg (by omega), if_neg (by omega)])]
            simp only [am_up_ap, ↓reduceIte, Nat.reduceEqDiff]
            rw [if_neg (by omega), show cl (nI t1) = t1 from nI_clamp (by omega), show cl (nI h1) = h1 from nI_clamp (by omega)]
          rw [E]
          have h3q : 0 < 3 ^ (201 - t1) := Nat.pow_pos (by decide)
          omega
        · exact wq_32 (wq_31 (wq_32 (wq_31 hM)))
        · intro j hjm
          by_cases cj : j < m
          · obtain ⟨x', y', g1, g2, g3, g4, g5⟩ := hq j (by omega)
            refine ⟨x', y', ?_, g2, g3, ?_, g5⟩
            · simp only [am_up_ap, ↓reduceIte, Nat.reduceEqDiff]
              rw [if_neg (by omega), if_neg (by omega)]
              exact g1
            · simp only [am_up_ap, ↓reduceIte, Nat.reduceEqDiff]
              rw [if_neg (by omega), if_neg (by omega)]
              exact g4
          · rcases (show j = m ∨ j = m + 1 by omega) with rfl | rfl
            · refine ⟨t1, t2, ?_, by omega, by omega, ?_, by omega⟩
              · simp only [am_up_ap, ↓reduceIte, Nat.reduceEqDiff]
                rw [if_neg (by omega)]
              · simp only [am_up_ap, ↓reduceIte, Nat.reduceEqDiff]
                rw [if_neg (by omega)]
            · refine ⟨h1, h2, ?_, by omega, by omega, ?_, by omega⟩
              · simp only [am_up_ap, ↓reduceIte, Nat.reduceEqDiff]
              · simp only [am_up_ap, ↓reduceIte, Nat.reduceEqDiff]
        · have e24 := hM.1 24 (by decide) (by decide) (by decide) (by decide)
          have e25 := hM.1 25 (by decide) (by decide) (by decide) (by decide)
          rw [if_pos (by rw [← e21]; exact c4), ← e24, ← e25, eh, et, eh2, et2, show cl (nI h1) = h1 from nI_clamp (by omega), show cl (nI h2) = h2 from nI_clamp (by omega), show cl (nI t1) = t1 from nI_clamp (by omega), show cl (nI t2) = t2 from nI_clamp (by omega)] at hlk
          have y1 : am_up (am_up (am_up (am_up M 31 m (nI t1)) 32 m (nI t2)) 31 (m + 1) (nI h1)) 32 (m + 1) (nI h2) 31 = upd (upd (M 31) m (nI t1)) (m + 1) (nI h1) := by simp only [am_up_i, ↓reduceIte, Nat.reduceEqDiff]
          have y2 : am_up (am_up (am_up (am_up M 31 m (nI t1)) 32 m (nI t2)) 31 (m + 1) (nI h1)) 32 (m + 1) (nI h2) 32 = upd (upd (M 32) m (nI t2)) (m + 1) (nI h2) := by simp only [am_up_i, ↓reduceIte, Nat.reduceEqDiff]
          rw [y1, y2, stA, stA, upd_eq, upd_eq, upd_lt _ _ (Nat.lt_succ_self m), upd_eq, upd_lt _ _ (Nat.lt_succ_self m), upd_eq, stA_eq (s := M 31) (t := M 32) m (fun j hj => ⟨by rw [upd_lt _ _ (by omega), upd_lt _ _ hj], by rw [upd_lt _ _ (by omega), upd_lt _ _ hj]⟩)]
          rw [show cl (nI h1) = h1 from nI_clamp (by omega), show cl (nI h2) = h2 from nI_clamp (by omega), show cl (nI t1) = t1 from nI_clamp (by omega), show cl (nI t2) = t2 from nI_clamp (by omega)]
          rw [hres, hst, hlk, Bool.and_assoc]
      · simp only [q_Model_like_37, r_Model_like_0, r_Model_like_1, r_Model_like_2, r_Model_like_5, r_Model_like_8, r_Model_like_9, r_Model_like_10, r_Model_like_13, r_Model_like_16, r_Model_like_17, r_Model_like_18, r_Model_like_19, r_Model_like_22, r_Model_like_23, r_Model_like_24, r_Model_like_25, r_Model_like_26, r_Model_like_29, r_Model_like_30, r_Model_like_31, r_Model_like_32, r_Model_like_33, r_Model_like_34, r_Model_like_35, r_Model_like_37, r_Model_like_38, r_Model_like_41, r_Model_like_43, r_Model_like_46, r_Model_like_47, r_Model_like_48, r_Model_like_49, r_Model_like_50, r_Model_like_51, r_Model_like_54, r_Model_like_55, r_Model_like_56, r_Model_like_58, r_Model_like_59, r_Model_like_62, r_Model_like_63, r_Model_like_64, r_Model_like_66, r_Model_like_67, r_Model_like_69, r_Model_like_71, r_Model_like_74, r_Model_like_76, r_Model_like_78, r_Model_like_81, r_Model_like_82, r_Model_like_85, r_Model_like_87, r_Model_like_88, r_Model_like_89, r_Model_like_92, r_Model_like_93, r_Model_like_96, r_Model_like_97, r_Model_like_98, r_Model_like_101, r_Model_like_103, r_Model_like_104, r_Model_like_105, r_Model_like_106, r_Model_like_109, r_Model_like_110, r_Model_like_111, r_Model_like_114, r_Model_like_116, r_Model_like_117, r_Model_like_118, r_Model_like_119, r_Model_like_122, r_Model_like_123, r_Model_like_124, r_Model_like_125, r_Model_like_126, r_Model_like_129, r_Model_like_131, r_Model_like_132, r_Model_like_133, r_Model_like_134, r_Model_like_137, r_Model_like_138, r_Model_like_139, r_Model_like_140, r_Model_like_141, r_Model_like_144, r_Model_like_146, r_Model_like_147, r_Model_like_148, r_Model_like_149, r_Model_like_150, r_Model_like_151, r_Model_like_152, r_Model_like_155, r_Model_like_157, ai_aload, ai_iload, ai_callv2, am_push, am_few, ai_ifeq, ai_ifne, ai_const, ai_zret, ai_getf, ai_iast, ai_istore, am_cut_0, am_cut_s, am_c1, ai_ifle, ai_isub, ai_bin, ai_iald, ai_callv3, ai_cmpne, ai_iadd, ai_goto, kd_0, fd_0_0, fd_0_1, fd_0_2, fd_0_3, fd_0_4, kd_1, fd_1_0, fd_1_1, ln_2, kd_3, fd_3_0, fd_3_1, fd_3_2, fd_3_3, fd_3_4, fd_3_5, fd_3_6, fd_3_7, fd_3_8, fd_3_9, ln_4, ln_5, ln_6, ln_7, ln_8, ln_9, ln_10, kd_11, fd_11_0, fd_11_1, fd_11_2, fd_11_3, fd_11_4, kd_12, fd_12_0, fd_12_1, fd_12_2, fd_12_3, ln_13, ln_14, ln_15, kd_16, fd_16_0, fd_16_1, fd_16_2, ln_17, kd_18, fd_18_0, fd_18_1, kd_19, fd_19_0, fd_19_1, fd_19_2, fd_19_3, fd_19_4, fd_19_5, fd_19_6, fd_19_7, fd_19_8, fd_19_9, fd_19_10, fd_19_11, fd_19_12, fd_19_13, fd_19_14, fd_19_15, fd_19_16, fd_19_17, fd_19_18, fd_19_19, fd_19_20, ln_20, ln_21, ln_22, ln_23, ln_24, ln_25, ln_26, ln_27, ln_28, ln_29, ln_30, ln_31, ln_32, List.getElem?_cons_zero, List.getElem?_cons_succ, List.set_cons_zero, List.set_cons_succ, true_and, and_true, ↓reduceIte, Int32.reduceLT, Int32.reduceLE, li_10, or_true, true_or, b1, vx, cx, c4, b11]
        refine ih m M _ _ (by omega) hM hwk (fun j hj => hq j (by omega)) ?_
        rw [if_neg (by rw [← e21]; exact c4)] at hlk
        rw [hres, hst, hlk, Bool.true_and]
set_option maxRecDepth 100000 in
set_option maxHeartbeats 4000000 in
theorem ok_Model_like1 {G : aG} (hG : am_ok G) : am_Sp G Y_Model_like 1 sp_Model_like1 := by
  intro as M K h
  unfold sp_Model_like1 at h
  split at h
  · next a x y =>
    obtain ⟨rfl, ⟨ht, hc, hw⟩, h⟩ := h
    unfold m_like at h
    have h0 : m_has M x = false ∨ m_has M y = false → K (some (.int 0)) M := fun q => by
      have := h M (wr_rel.rf hw).wq (fun _ _ _ => rfl)
      rcases q with q | q
      · rw [q, Bool.false_and] at this; exact this
      · rw [q, Bool.false_and, Bool.and_false] at this; exact this
    cases c1 : m_has M x
    · refine am_entry hG (by decide +kernel) (Nat.le_of_ble_eq_true rfl) ?_
      refine am_go (cuts := k_Model_like) (tb_Model_like (ok_Model_isNode hG) (by decide) (ok_Model_same1 hG) (by decide)) 400 _ _ _ _ ?_
      change am_run _ _ _ _ _ _ [some (.ref 19), some (.int x), some (.int y), none, none, none, none] [] _
      simp only [q_Model_like_37, r_Model_like_0, r_Model_like_1, r_Model_like_2, r_Model_like_5, r_Model_like_8, r_Model_like_9, r_Model_like_10, r_Model_like_13, r_Model_like_16, r_Model_like_17, r_Model_like_18, r_Model_like_19, r_Model_like_22, r_Model_like_23, r_Model_like_24, r_Model_like_25, r_Model_like_26, r_Model_like_29, r_Model_like_30, r_Model_like_31, r_Model_like_32, r_Model_like_33, r_Model_like_34, r_Model_like_35, r_Model_like_37, r_Model_like_38, r_Model_like_41, r_Model_like_43, r_Model_like_46, r_Model_like_47, r_Model_like_48, r_Model_like_49, r_Model_like_50, r_Model_like_51, r_Model_like_54, r_Model_like_55, r_Model_like_56, r_Model_like_58, r_Model_like_59, r_Model_like_62, r_Model_like_63, r_Model_like_64, r_Model_like_66, r_Model_like_67, r_Model_like_69, r_Model_like_71, r_Model_like_74, r_Model_like_76, r_Model_like_78, r_Model_like_81, r_Model_like_82, r_Model_like_85, r_Model_like_87, r_Model_like_88, r_Model_like_89, r_Model_like_92, r_Model_like_93, r_Model_like_96, r_Model_like_97, r_Model_like_98, r_Model_like_101, r_Model_like_103, r_Model_like_104, r_Model_like_105, r_Model_like_106, r_Model_like_109, r_Model_like_110, r_Model_like_111, r_Model_like_114, r_Model_like_116, r_Model_like_117, r_Model_like_118, r_Model_like_119, r_Model_like_122, r_Model_like_123, r_Model_like_124, r_Model_like_125, r_Model_like_126, r_Model_like_129, r_Model_like_131, r_Model_like_132, r_Model_like_133, r_Model_like_134, r_Model_like_137, r_Model_like_138, r_Model_like_139, r_Model_like_140, r_Model_like_141, r_Model_like_144, r_Model_like_146, r_Model_like_147, r_Model_like_148, r_Model_like_149, r_Model_like_150, r_Model_like_151, r_Model_like_152, r_Model_like_155, r_Model_like_157, ai_aload, ai_iload, ai_callv2, am_push, am_few, ai_ifeq, ai_ifne, ai_const, ai_zret, ai_getf, ai_iast, ai_istore, am_cut_0, am_cut_s, am_c1, ai_ifle, ai_isub, ai_bin, ai_iald, ai_callv3, ai_cmpne, ai_iadd, ai_goto, kd_0, fd_0_0, fd_0_1, fd_0_2, fd_0_3, fd_0_4, kd_1, fd_1_0, fd_1_1, ln_2, kd_3, fd_3_0, fd_3_1, fd_3_2, fd_3_3, fd_3_4, fd_3_5, fd_3_6, fd_3_7, fd_3_8, fd_3_9, ln_4, ln_5, ln_6, ln_7, ln_8, ln_9, ln_10, kd_11, fd_11_0, fd_11_1, fd_11_2, fd_11_3, fd_11_4, kd_12, fd_12_0, fd_12_1, fd_12_2, fd_12_3, ln_13, ln_14, ln_15, kd_16, fd_16_0, fd_16_1, fd_16_2, ln_17, kd_18, fd_18_0, fd_18_1, kd_19, fd_19_0, fd_19_1, fd_19_2, fd_19_3, fd_19_4, fd_19_5, fd_19_6, fd_19_7, fd_19_8, fd_19_9, fd_19_10, fd_19_11, fd_19_12, fd_19_13, fd_19_14, fd_19_15, fd_19_16, fd_19_17, fd_19_18, fd_19_19, fd_19_20, ln_20, ln_21, ln_22, ln_23, ln_24, ln_25, ln_26, ln_27, ln_28, ln_29, ln_30, ln_31, ln_32, List.getElem?_cons_zero, List.getElem?_cons_succ, List.set_cons_zero, List.set_cons_succ, true_and, and_true, ↓reduceIte, Int32.reduceLT, Int32.reduceLE, li_10, or_true, true_or, ↓sp_Model_isNode, b2_eq0, c1]
      exact h0 (Or.inl c1)
    cases c2 : m_has M y
    · refine am_entry hG (by decide +kernel) (Nat.le_of_ble_eq_true rfl) ?_
      refine am_go (cuts := k_Model_like) (tb_Model_like (ok_Model_isNode hG) (by decide) (ok_Model_same1 hG) (by decide)) 400 _ _ _ _ ?_
      change am_run _ _ _ _ _ _ [some (.ref 19), some (.int x), some (.int y), none, none, none, none] [] _
      simp only [q_Model_like_37, r_Model_like_0, r_Model_like_1, r_Model_like_2, r_Model_like_5, r_Model_like_8, r_Model_like_9, r_Model_like_10, r_Model_like_13, r_Model_like_16, r_Model_like_17, r_Model_like_18, r_Model_like_19, r_Model_like_22, r_Model_like_23, r_Model_like_24, r_Model_like_25, r_Model_like_26, r_Model_like_29, r_Model_like_30, r_Model_like_31, r_Model_like_32, r_Model_like_33, r_Model_like_34, r_Model_like_35, r_Model_like_37, r_Model_like_38, r_Model_like_41, r_Model_like_43, r_Model_like_46, r_Model_like_47, r_Model_like_48, r_Model_like_49, r_Model_like_50, r_Model_like_51, r_Model_like_54, r_Model_like_55, r_Model_like_56, r_Model_like_58, r_Model_like_59, r_Model_like_62, r_Model_like_63, r_Model_like_64, r_Model_like_66, r_Model_like_67, r_Model_like_69, r_Model_like_71, r_Model_like_74, r_Model_like_76, r_Model_like_78, r_Model_like_81, r_Model_like_82, r_Model_like_85, r_Model_like_87, r_Model_like_88, r_Model_like_89, r_Model_like_92, r_Model_like_93, r_Model_like_96, r_Model_like_97, r_Model_like_98, r_Model_like_101, r_Model_like_103, r_Model_like_104, r_Model_like_105, r_Model_like_106, r_Model_like_109, r_Model_like_110, r_Model_like_111, r_Model_like_114, r_Model_like_116, r_Model_like_117, r_Model_like_118, r_Model_like_119, r_Model_like_122, r_Model_like_123, r_Model_like_124, r_Model_like_125, r_Model_like_126, r_Model_like_129, r_Model_like_131, r_Model_like_132, r_Model_like_133, r_Model_like_134, r_Model_like_137, r_Model_like_138, r_Model_like_139, r_Model_like_140, r_Model_like_141, r_Model_like_144, r_Model_like_146, r_Model_like_147, r_Model_like_148, r_Model_like_149, r_Model_like_150, r_Model_like_151, r_Model_like_152, r_Model_like_155, r_Model_like_157, ai_aload, ai_iload, ai_callv2, am_push, am_few, ai_ifeq, ai_ifne, ai_const, ai_zret, ai_getf, ai_iast, ai_istore, am_cut_0, am_cut_s, am_c1, ai_ifle, ai_isub, ai_bin, ai_iald, ai_callv3, ai_cmpne, ai_iadd, ai_goto, kd_0, fd_0_0, fd_0_1, fd_0_2, fd_0_3, fd_0_4, kd_1, fd_1_0, fd_1_1, ln_2, kd_3, fd_3_0, fd_3_1, fd_3_2, fd_3_3, fd_3_4, fd_3_5, fd_3_6, fd_3_7, fd_3_8, fd_3_9, ln_4, ln_5, ln_6, ln_7, ln_8, ln_9, ln_10, kd_11, fd_11_0, fd_11_1, fd_11_2, fd_11_3, fd_11_4, kd_12, fd_12_0, fd_12_1, fd_12_2, fd_12_3, ln_13, ln_14, ln_15, kd_16, fd_16_0, fd_16_1, fd_16_2, ln_17, kd_18, fd_18_0, fd_18_1, kd_19, fd_19_0, fd_19_1, fd_19_2, fd_19_3, fd_19_4, fd_19_5, fd_19_6, fd_19_7, fd_19_8, fd_19_9, fd_19_10, fd_19_11, fd_19_12, fd_19_13, fd_19_14, fd_19_15, fd_19_16, fd_19_17, fd_19_18, fd_19_19, fd_19_20, ln_20, ln_21, ln_22, ln_23, ln_24, ln_25, ln_26, ln_27, ln_28, ln_29, ln_30, ln_31, ln_32, List.getElem?_cons_zero, List.getElem?_cons_succ, List.set_cons_zero, List.set_cons_succ, true_and, and_true, ↓reduceIte, Int32.reduceLT, Int32.reduceLE, li_10, or_true, true_or, ↓sp_Model_isNode, b2_eq0, c1, c2, Bool.true_eq_false]
      exact h0 (Or.inr c2)
    rw [c1, c2, Bool.true_and, Bool.true_and] at h
    have hx := m_hasD hc c1
    have hy := m_hasD hc c2
    have v0 : vp_in 0 420 := vp_in_nI (n := 0) (by decide) (by decide)
    have c0 : (0 : Int32).toNatClampNeg = 0 := rfl
    have hL : am_X G Y_Model_like 1 K 37 [some (.ref 19), some (.int x), some (.int y), some (.int 1), some (.int 1), none, none] [] (am_up (am_up M 31 0 x) 32 0 y) := by
      refine lp_Model_like1 hG ht hc h _ 1 _ none none (Nat.lt_succ_self _) (wq_32 (wq_31 (wr_rel.rf hw).wq)) (wk_32 (wk_31 (fun _ _ _ => rfl))) ?_ ?_
      case refine_2 =>
        have y1 : am_up (am_up M 31 0 x) 32 0 y 31 0 = x := by simp only [am_up_ap, ↓reduceIte, Nat.reduceEqDiff]
        have y2 : am_up (am_up M 31 0 x) 32 0 y 32 0 = y := by simp only [am_up_ap, ↓reduceIte]
        rw [stA, stA, y1, y2, Bool.and_true]
      intro j hj
      have : j = 0 := by omega
      subst this
      refine ⟨cl x, cl y, ?_, by omega, hx.2.1, ?_, hy.2.1⟩
      · simp only [am_up_ap, ↓reduceIte, Nat.reduceEqDiff]; exact hx.1
      · simp only [am_up_ap, ↓reduceIte]; exact hy.1
    refine am_entry hG (by decide +kernel) (Nat.le_of_ble_eq_true rfl) ?_
    refine am_go (cuts := k_Model_like) (tb_Model_like (ok_Model_isNode hG) (by decide) (ok_Model_same1 hG) (by decide)) 400 _ _ _ _ ?_
    change am_run _ _ _ _ _ _ [some (.ref 19), some (.int x), some (.int y), none, none, none, none] [] _
    simp only [q_Model_like_37, r_Model_like_0, r_Model_like_1, r_Model_like_2, r_Model_like_5, r_Model_like_8, r_Model_like_9, r_Model_like_10, r_Model_like_13, r_Model_like_16, r_Model_like_17, r_Model_like_18, r_Model_like_19, r_Model_like_22, r_Model_like_23, r_Model_like_24, r_Model_like_25, r_Model_like_26, r_Model_like_29, r_Model_like_30, r_Model_like_31, r_Model_like_32, r_Model_like_33, r_Model_like_34, r_Model_like_35, r_Model_like_37, r_Model_like_38, r_Model_like_41, r_Model_like_43, r_Model_like_46, r_Model_like_47, r_Model_like_48, r_Model_like_49, r_Model_like_50, r_Model_like_51, r_Model_like_54, r_Model_like_55, r_Model_like_56, r_Model_like_58, r_Model_like_59, r_Model_like_62, r_Model_like_63, r_Model_like_64, r_Model_like_66, r_Model_like_67, r_Model_like_69, r_Model_like_71, r_Model_like_74, r_Model_like_76, r_Model_like_78, r_Model_like_81, r_Model_like_82, r_Model_like_85, r_Model_like_87, r_Model_like_88, r_Model_like_89, r_Model_like_92, r_Model_like_93, r_Model_like_96, r_Model_like_97, r_Model_like_98, r_Model_like_101, r_Model_like_103, r_Model_like_104, r_Model_like_105, r_Model_like_106, r_Model_like_109, r_Model_like_110, r_Model_like_111, r_Model_like_114, r_Model_like_116, r_Model_like_117, r_Model_like_118, r_Model_like_119, r_Model_like_122, r_Model_like_123, r_Model_like_124, r_Model_like_125, r_Model_like_126, r_Model_like_129, r_Model_like_131, r_Model_like_132, r_Model_like_133, r_Model_like_134, r_Model_like_137, r_Model_like_138, r_Model_like_139, r_Model_like_140, r_Model_like_141, r_Model_like_144, r_Model_like_146, r_Model_like_147, r_Model_like_148, r_Model_like_149, r_Model_like_150, r_Model_like_151, r_Model_like_152, r_Model_like_155, r_Model_like_157, ai_aload, ai_iload, ai_callv2, am_push, am_few, ai_ifeq, ai_ifne, ai_const, ai_zret, ai_getf, ai_iast, ai_istore, am_cut_0, am_cut_s, am_c1, ai_ifle, ai_isub, ai_bin, ai_iald, ai_callv3, ai_cmpne, ai_iadd, ai_goto, kd_0, fd_0_0, fd_0_1, fd_0_2, fd_0_3, fd_0_4, kd_1, fd_1_0, fd_1_1, ln_2, kd_3, fd_3_0, fd_3_1, fd_3_2, fd_3_3, fd_3_4, fd_3_5, fd_3_6, fd_3_7, fd_3_8, fd_3_9, ln_4, ln_5, ln_6, ln_7, ln_8, ln_9, ln_10, kd_11, fd_11_0, fd_11_1, fd_11_2, fd_11_3, fd_11_4, kd_12, fd_12_0, fd_12_1, fd_12_2, fd_12_3, ln_13, ln_14, ln_15, kd_16, fd_16_0, fd_16_1, fd_16_2, ln_17, kd_18, fd_18_0, fd_18_1, kd_19, fd_19_0, fd_19_1, fd_19_2, fd_19_3, fd_19_4, fd_19_5, fd_19_6, fd_19_7, fd_19_8, fd_19_9, fd_19_10, fd_19_11, fd_19_12, fd_19_13, fd_19_14, fd_19_15, fd_19_16, fd_19_17, fd_19_18, fd_19_19, fd_19_20, ln_20, ln_21, ln_22, ln_23, ln_24, ln_25, ln_26, ln_27, ln_28, ln_29, ln_30, ln_31, ln_32, List.getElem?_cons_zero, List.getElem?_cons_succ, List.set_cons_zero, List.set_cons_succ, true_and, and_true, ↓reduceIte, Int32.reduceLT, Int32.reduceLE, li_10, or_true, true_or, ↓sp_Model_isNode, b2_eq0, c1, c2, v0, c0, Bool.true_eq_false]
    exact hL
  · cases h
end
