/-! TWO STORES OF NODES, the desk's and the reference's -/
def StN (C R : aM) (n : Nat) : Prop := C 3 5 = nI n ∧ R 19 5 = nI n ∧ n ≤ 200 ∧ ∀ x, x < n → C 4 x = R 21 x ∧ C 5 x = R 22 x ∧ C 7 x = R 24 x ∧ C 8 x = R 25 x
def ltrs (C R : aM) (x lc : Nat) : Prop := ∃ s a, C 6 x = nI s ∧ C 5 x = nI a ∧ a ≤ 20 ∧ s + a ≤ lc ∧ ∀ k, k < a → C 10 (s + k) = R 23 (20 * x + k)
def StL (C R : aM) (n lc : Nat) : Prop := C 3 9 = nI lc ∧ 5 ≤ lc ∧ lc ≤ 405 ∧ (∀ k, k < 5 → C 10 k = QF k) ∧ ∀ x, x < n → C 4 x = 2 ∨ C 4 x = 3 → ltrs C R x lc
theorem StN_mN {C R : aM} {n : Nat} (h : StN C R n) : mN R = n := by
  unfold mN
  rw [h.2.1]
  exact nI_clamp (by have := h.2.2.1; omega)
theorem StN_has {C R : aM} {n l : Nat} (h : StN C R n) (hl : l < n) : hasN C (nI l) = true := by
  have h2 := h.2.2.1
  unfold hasN
  rw [h.1]
  have a1 : ¬ nI l < 0 := nI_pos (by omega)
  have a2 : nI l < nI n := nI_lt hl (by omega)
  have a3 : nI l < 200 := nI_lt (b := 200) (by omega) (by decide)
  simp [a1, a2, a3]
/-- the desk's new node -/
def n_newM (C : aM) (n : Nat) (k : Int32) : aM := am_up (am_up (am_up (am_up (am_up (am_up C 4 n k) 5 n 0) 6 n (C 3 9)) 7 n (-1)) 8 n (-1)) 3 5 (nI (n + 1))
theorem add_lt {C : aM} {n : Nat} {k : Int32} (h : C 3 5 = nI n) (hn : n < 200) : n_add C k = (nI n, n_newM C n k) ∧ r_add C k = (nI n, n_newM C n k) := by
  have e : n_add C k = (nI n, n_newM C n k) := by
    unfold n_add n_newM
    rw [h, if_neg (nI_pos (by omega)), if_pos (show nI n < 200 from nI_lt (b := 200) hn (by decide)), show cl (nI n) = n from nI_clamp (by omega), nI_1]
  refine ⟨e, ?_⟩
  unfold r_add
  rw [e]
  rw [if_neg (nI_ne (by omega))]
theorem add_200 {C : aM} {k : Int32} (h : C 3 5 = nI 200) : n_add C k = (-1, C) ∧ r_add C k = (-1, r_fltM C) := by
  have e : n_add C k = (-1, C) := by
    unfold n_add
    rw [h, if_neg (nI_pos (by omega)), if_neg (show ¬ nI 200 < 200 from nI_nlt (a := 200) (b := 200) (by omega) (by omega))]
  refine ⟨e, ?_⟩
  unfold r_add
  rw [e]
  rw [if_pos rfl]
theorem newM_c (C : aM) (n : Nat) (k : Int32) : (∀ i, ¬ i = 3 → ¬ i = 4 → ¬ i = 5 → ¬ i = 6 → ¬ i = 7 → ¬ i = 8 → n_newM C n k i = C i) ∧ (∀ j, ¬ j = 5 → n_newM C n k 3 j = C 3 j) ∧ n_newM C n k 3 5 = nI (n + 1) ∧ n_newM C n k 4 = upd (C 4) n k ∧ n_newM C n k 5 = upd (C 5) n 0 ∧ n_newM C n k 6 = upd (C 6) n (C 3 9) ∧ n_newM C n k 7 = upd (C 7) n (-1) ∧ n_newM C n k 8 = upd (C 8) n (-1) := by
  unfold n_newM
  refine ⟨fun i a b c d e f => ?_, fun j h => ?_, ?_, ?_, ?_, ?_, ?_, ?_⟩
  · rw [am_up_ne a, am_up_ne f, am_up_ne e, am_up_ne d, am_up_ne c, am_up_ne b]
  · simp only [am_up_ap, h, ↓reduceIte, Nat.reduceEqDiff]
  · simp only [am_up_ap, ↓reduceIte]
  · simp only [am_up_i, ↓reduceIte, Nat.reduceEqDiff]
  · simp only [am_up_i, ↓reduceIte, Nat.reduceEqDiff]
  · simp only [am_up_i, ↓reduceIte, Nat.reduceEqDiff]
  · simp only [am_up_i, ↓reduceIte, Nat.reduceEqDiff]
  · simp only [am_up_i, ↓reduceIte, Nat.reduceEqDiff]
theorem StN_new {C R : aM} {n : Nat} (k : Int32) (h : StN C R n) (hn : n < 200) : StN (n_newM C n k) (m_new R k) (n + 1) := by
  obtain ⟨h1, h2, h3, h4⟩ := h
  have eN : mN R = n := by unfold mN; rw [h2]; exact nI_clamp (by omega)
  obtain ⟨a1, a2, a3, a4, a5, a6, a7, a8⟩ := newM_c C n k
  obtain ⟨b1, b2, b3, b4, b5, b6, b7⟩ := new_c R k
  rw [eN] at b3 b4 b5 b6 b7
  refine ⟨a3, b3, by omega, fun x hx => ?_⟩
  rw [a4, a5, a7, a8, b4, b5, b6, b7]
  by_cases c : x = n
  · subst c
    rw [upd_eq, upd_eq, upd_eq, upd_eq, upd_eq, upd_eq, upd_eq, upd_eq]
    exact ⟨rfl, rfl, rfl, rfl⟩
  · have hx2 : x < n := by omega
    rw [upd_lt _ _ hx2, upd_lt _ _ hx2, upd_lt _ _ hx2, upd_lt _ _ hx2, upd_lt _ _ hx2, upd_lt _ _ hx2, upd_lt _ _ hx2, upd_lt _ _ hx2]
    exact h4 x hx2
theorem StL_new {C R : aM} {n lc : Nat} (k : Int32) (hN : StN C R n) (h : StL C R n lc) (hn : n < 200) : StL (n_newM C n k) (m_new R k) (n + 1) lc := by
  obtain ⟨h1, h2, h3, h4, h5⟩ := h
  obtain ⟨a1, a2, a3, a4, a5, a6, a7, a8⟩ := newM_c C n k
  obtain ⟨b1, b2, b3, b4, b5, b6, b7⟩ := new_c R k
  have c10 : n_newM C n k 10 = C 10 := a1 10 (by decide) (by decide) (by decide) (by decide) (by decide) (by decide)
  have r23 : m_new R k 23 = R 23 := b1 23 (by decide) (by decide) (by decide) (by decide) (by decide)
  refine ⟨by rw [a2 9 (by decide)]; exact h1, h2, h3, fun j hj => by rw [c10]; exact h4 j hj, fun x hx hk => ?_⟩
  by_cases c : x = n
  · subst c
    refine ⟨lc, 0, ?_, ?_, by omega, by omega, fun j hj => by omega⟩
    · rw [a6, upd_eq]; exact h1
    · rw [a5, upd_eq]; rfl
  · have hx2 : x < n := by omega
    rw [a4, upd_lt _ _ hx2] at hk
    obtain ⟨s, a, e1, e2, e3, e4, e5⟩ := h5 x hx2 hk
    refine ⟨s, a, by rw [a6, upd_lt _ _ hx2]; exact e1, by rw [a5, upd_lt _ _ hx2]; exact e2, e3, e4, fun j hj => ?_⟩
    rw [c10, r23]
    exact e5 j hj
theorem set_lt {C R : aM} {n l c : Nat} {v : Int32} (h : StN C R n) (hl : l < n) : n_set c C (nI l) v = am_up C c l v := by
  unfold n_set
  rw [if_pos (StN_has h hl), show cl (nI l) = l from nI_clamp (by have := h.2.2.1; omega)]
/-- heads and tails are set alike; w, z: the cells of the two sides -/
theorem StN_head {C R : aM} {n l : Nat} {v : Int32} (h : StN C R n) : StN (am_up C 7 l v) (am_up R 24 l v) n := by
  obtain ⟨h1, h2, h3, h4⟩ := h
  refine ⟨by rw [am_up_ne (by decide)]; exact h1, by rw [am_up_ne (by decide)]; exact h2, h3, fun x hx => ?_⟩
  obtain ⟨a, b, c, d⟩ := h4 x hx
  refine ⟨by rw [am_up_ne (by decide), am_up_ne (by decide)]; exact a, by rw [am_up_ne (by decide), am_up_ne (by decide)]; exact b, ?_, by rw [am_up_ne (by decide), am_up_ne (by decide)]; exact d⟩
  simp only [am_up_ap, ↓reduceIte]
  rw [c]
theorem StN_tail {C R : aM} {n l : Nat} {v : Int32} (h : StN C R n) : StN (am_up C 8 l v) (am_up R 25 l v) n := by
  obtain ⟨h1, h2, h3, h4⟩ := h
  refine ⟨by rw [am_up_ne (by decide)]; exact h1, by rw [am_up_ne (by decide)]; exact h2, h3, fun x hx => ?_⟩
  obtain ⟨a, b, c, d⟩ := h4 x hx
  refine ⟨by rw [am_up_ne (by decide), am_up_ne (by decide)]; exact a, by rw [am_up_ne (by decide), am_up_ne (by decide)]; exact b, by rw [am_up_ne (by decide), am_up_ne (by decide)]; exact c, ?_⟩
  simp only [am_up_ap, ↓reduceIte]
  rw [d]
theorem StN_amt {C R : aM} {n l : Nat} {v : Int32} (h : StN C R n) : StN (am_up C 5 l v) (am_up R 22 l v) n := by
  obtain ⟨h1, h2, h3, h4⟩ := h
  refine ⟨by rw [am_up_ne (by decide)]; exact h1, by rw [am_up_ne (by decide)]; exact h2, h3, fun x hx => ?_⟩
  obtain ⟨a, b, c, d⟩ := h4 x hx
  refine ⟨by rw [am_up_ne (by decide), am_up_ne (by decide)]; exact a, ?_, by rw [am_up_ne (by decide), am_up_ne (by decide)]; exact c, by rw [am_up_ne (by decide), am_up_ne (by decide)]; exact d⟩
  simp only [am_up_ap, ↓reduceIte]
  rw [b]
/-- letters need just these cells -/
theorem StL_of {C R C' R' : aM} {n lc : Nat} (h : StL C R n lc) (h3 : C' 3 9 = C 3 9) (h4 : C' 4 = C 4) (h5 : C' 5 = C 5) (h6 : C' 6 = C 6) (h10 : C' 10 = C 10) (h23 : R' 23 = R 23) : StL C' R' n lc := by
  unfold StL ltrs
  rw [h3, h4, h5, h6, h10, h23]
  exact h
/-- a letter for the newest node, on both sides -/
theorem ltr_ok {C R : aM} {n x lc s a : Nat} {b : Int32} (hN : StN C R n) (hL : StL C R n lc) (hx : x < n) (hk : C 4 x = 2 ∨ C 4 x = 3) (hs : C 6 x = nI s) (ha : C 5 x = nI a) (hsa : s + a = lc) (ha20 : a < 20) (hlc : lc < 405) (h5s : 5 ≤ s) :
    StN (n_ltr C (nI x) b) (m_let R x b) n ∧ StL (n_ltr C (nI x) b) (m_let R x b) n (lc + 1) ∧ n_ltr C (nI x) b 6 = C 6 ∧ n_ltr C (nI x) b 5 x = nI (a + 1) ∧ n_ltr C (nI x) b 4 = C 4 := by
  have h200 := hN.2.2.1
  have eR : R 22 x = nI a := by rw [← (hN.2.2.2 x hx).2.1]; exact ha
  have e : n_ltr C (nI x) b = am_up (am_up (am_up C 10 lc b) 3 9 (nI (lc + 1))) 5 x (nI (a + 1)) := by
    unfold n_ltr
    rw [if_pos (StN_has hN hx), hL.1, if_neg (nI_pos (by omega)), if_pos (show nI lc < 405 from nI_lt (b := 405) hlc (by decide)), show cl (nI lc) = lc from nI_clamp (by omega), show cl (nI x) = x from nI_clamp (by omega), nI_1, ha, nI_1]
  have eM : m_let R x b = am_up (am_up R 23 (20 * x + a) b) 22 x (nI (a + 1)) := by
    unfold m_let
    rw [eR, show cl (nI a) = a from nI_clamp (by omega)]
  rw [e, eM]
  have c4 : am_up (am_up (am_up C 10 lc b) 3 9 (nI (lc + 1))) 5 x (nI (a + 1)) 4 = C 4 := by simp only [am_up_i, ↓reduceIte, Nat.reduceEqDiff]
  have c5 : am_up (am_up (am_up C 10 lc b) 3 9 (nI (lc + 1))) 5 x (nI (a + 1)) 5 = upd (C 5) x (nI (a + 1)) := by simp only [am_up_i, ↓reduceIte, Nat.reduceEqDiff]
  have c6 : am_up (am_up (am_up C 10 lc b) 3 9 (nI (lc + 1))) 5 x (nI (a + 1)) 6 = C 6 := by simp only [am_up_i, ↓reduceIte, Nat.reduceEqDiff]
  have c7 : am_up (am_up (am_up C 10 lc b) 3 9 (nI (lc + 1))) 5 x (nI (a + 1)) 7 = C 7 := by simp only [am_up_i, ↓reduceIte, Nat.reduceEqDiff]
  have c8 : am_up (am_up (am_up C 10 lc b) 3 9 (nI (lc + 1))) 5 x (nI (a + 1)) 8 = C 8 := by simp only [am_up_i, ↓reduceIte, Nat.reduceEqDiff]
  have c10 : am_up (am_up (am_up C 10 lc b) 3 9 (nI (lc + 1))) 5 x (nI (a + 1)) 10 = upd (C 10) lc b := by simp only [am_up_i, ↓reduceIte, Nat.reduceEqDiff]
  have c35 : am_up (am_up (am_up C 10 lc b) 3 9 (nI (lc + 1))) 5 x (nI (a + 1)) 3 5 = C 3 5 := by simp only [am_up_ap, ↓reduceIte, Nat.reduceEqDiff]
  have c39 : am_up (am_up (am_up C 10 lc b) 3 9 (nI (lc + 1))) 5 x (nI (a + 1)) 3 9 = nI (lc + 1) := by simp only [am_up_ap, ↓reduceIte, Nat.reduceEqDiff]
  have r5 : am_up (am_up R 23 (20 * x + a) b) 22 x (nI (a + 1)) 19 = R 19 := by simp only [am_up_i, ↓reduceIte, Nat.reduceEqDiff]
  have r21 : am_up (am_up R 23 (20 * x + a) b) 22 x (nI (a + 1)) 21 = R 21 := by simp only [am_up_i, ↓reduceIte, Nat.reduceEqDiff]
  have r22 : am_up (am_up R 23 (20 * x + a) b) 22 x (nI (a + 1)) 22 = upd (R 22) x (nI (a + 1)) := by simp only [am_up_i, ↓reduceIte, Nat.reduceEqDiff]
  have r23 : am_up (am_up R 23 (20 * x + a) b) 22 x (nI (a + 1)) 23 = upd (R 23) (20 * x + a) b := by simp only [am_up_i, ↓reduceIte, Nat.reduceEqDiff]
  have r24 : am_up (am_up R 23 (20 * x + a) b) 22 x (nI (a + 1)) 24 = R 24 := by simp only [am_up_i, ↓reduceIte, Nat.reduceEqDiff]
  have r25 : am_up (am_up R 23 (20 * x + a) b) 22 x (nI (a + 1)) 25 = R 25 := by simp only [am_up_i, ↓reduceIte, Nat.reduceEqDiff]
  generalize am_up (am_up (am_up C 10 lc b) 3 9 (nI (lc + 1))) 5 x (nI (a + 1)) = C' at c4 c5 c6 c7 c8 c10 c35 c39 ⊢
  generalize am_up (am_up R 23 (20 * x + a) b) 22 x (nI (a + 1)) = R' at r5 r21 r22 r23 r24 r25 ⊢
  obtain ⟨h1, h2, h3, h4⟩ := hN
  obtain ⟨g1, g2, g3, g4, g5⟩ := hL
  refine ⟨⟨by rw [c35]; exact h1, by rw [r5]; exact h2, h3, fun y hy => ?_⟩, ⟨c39, by omega, by omega, fun k hk5 => ?_, fun y hy hky => ?_⟩, c6, by rw [c5, upd_eq], c4⟩
  · obtain ⟨p1, p2, p3, p4⟩ := h4 y hy
    rw [c4, c5, c7, c8, r21, r22, r24, r25]
    refine ⟨p1, ?_, p3, p4⟩
    simp only [upd]
    split
    · rfl
    · exact p2
  · rw [c10, upd_lt _ _ (by omega)]
    exact g4 k hk5
  · rw [c4] at hky
    by_cases cy : y = x
    · subst cy
      obtain ⟨s', a', e1, e2, e3, e4, e5⟩ := g5 y hy hky
      have es : s' = s := (nI_eq (by omega) (by omega)).mp (by rw [← e1]; exact hs)
      have ea : a' = a := (nI_eq (by omega) (by omega)).mp (by rw [← e2]; exact ha)
      subst es
      subst ea
      refine ⟨s', a' + 1, by rw [c6]; exact e1, by rw [c5, upd_eq], by omega, by omega, fun k hk1 => ?_⟩
      rw [c10, r23]
      by_cases ck : k = a'
      · subst ck
        rw [show s' + k = lc by omega, upd_eq, upd_eq]
      · simp only [upd]
        rw [if_neg (by omega), if_neg (by omega)]
        exact e5 k (by omega)
    · obtain ⟨s', a', e1, e2, e3, e4, e5⟩ := g5 y hy hky
      refine ⟨s', a', by rw [c6]; exact e1, ?_, e3, by omega, fun k hk1 => ?_⟩
      · rw [c5]
        simp only [upd]
        rw [if_neg cy]
        exact e2
      · rw [c10, r23]
        simp only [upd]
        rw [if_neg (by omega), if_neg (by omega)]
        exact e5 k hk1
