/-! A QUOTE'S THREE NODES, on both sides -/
theorem qL_23 (x : Nat) : ∀ (f k : Nat) (M : aM), M 22 x = nI k → k + f ≤ 20 → (∀ j, k ≤ j → j < k + f → mqL x f k M 23 (20 * x + j) = QF j) ∧ (∀ y, y < 20 * x + k ∨ 20 * x + 20 ≤ y → mqL x f k M 23 y = M 23 y)
  | 0, k, M, _, _ => ⟨fun j h1 h2 => by omega, fun _ _ => rfl⟩
  | f + 1, k, M, hv, hf => by
    have ec : cl (M 22 x) = k := by rw [hv]; exact nI_clamp (by omega)
    have hv2 : m_let M x (QF k) 22 x = nI (k + 1) := by rw [m_let_22, ec]
    have h23 : ∀ y, m_let M x (QF k) 23 y = if y = 20 * x + k then QF k else M 23 y := fun y => by
      unfold m_let
      rw [ec]
      simp only [am_up_ap, ↓reduceIte, Nat.reduceEqDiff]
    obtain ⟨a, b⟩ := qL_23 x f (k + 1) (m_let M x (QF k)) hv2 (by omega)
    unfold mqL
    refine ⟨fun j h1 h2 => ?_, fun y hy => ?_⟩
    · by_cases c : j = k
      · subst c
        rw [b _ (Or.inl (by omega)), h23, if_pos rfl]
      · exact a j (by omega) (by omega)
    · rw [b y (by omega), h23, if_neg (by omega)]
theorem StN_ref {C R S : aM} {n : Nat} (h : StN C R n) (h5 : S 19 5 = R 19 5) (h21 : S 21 = R 21) (h22 : S 22 = R 22) (h24 : S 24 = R 24) (h25 : S 25 = R 25) : StN C S n := by
  unfold StN at h ⊢
  rw [h5, h21, h22, h24, h25]
  exact h
theorem StL_ref {C R S : aM} {n lc : Nat} (h : StL C R n lc) (h23 : S 23 = R 23) : StL C S n lc := by
  unfold StL ltrs at h ⊢
  rw [h23]
  exact h
def Q3 (C : aM) (n : Nat) : aM := n_newM (n_newM (n_newM C n 4) (n + 1) 2) (n + 2) 4
/-- the name "quote", on both sides -/
theorem quo_name {E T : aM} {n lc x : Nat} (hN : StN E T n) (hL : StL E T n lc) (hx : x < n) (h22 : T 22 x = nI 0) : StN (am_up (am_up E 6 x 0) 5 x 5) (mqL x 5 0 T) n ∧ StL (am_up (am_up E 6 x 0) 5 x 5) (mqL x 5 0 T) n lc := by
  obtain ⟨q1, q2, q3⟩ := qL_22 x 5 0 0 T h22 (by omega)
  obtain ⟨q4, q5⟩ := qL_23 x 5 0 T h22 (by omega)
  obtain ⟨a1, a2, a3, a4⟩ := hN
  obtain ⟨l1, l2, l3, l4, l5⟩ := hL
  generalize mqL x 5 0 T = U at q1 q2 q3 q4 q5 ⊢
  have e5 : ∀ y, am_up (am_up E 6 x 0) 5 x 5 5 y = if y = x then 5 else E 5 y := fun y => by simp only [am_up_ap, ↓reduceIte, Nat.reduceEqDiff]
  have e6 : ∀ y, am_up (am_up E 6 x 0) 5 x 5 6 y = if y = x then 0 else E 6 y := fun y => by simp only [am_up_ap, ↓reduceIte, Nat.reduceEqDiff]
  have eo : ∀ q, ¬ q = 5 → ¬ q = 6 → am_up (am_up E 6 x 0) 5 x 5 q = E q := fun q h1 h2 => by rw [am_up_ne h1, am_up_ne h2]
  generalize am_up (am_up E 6 x 0) 5 x 5 = F at e5 e6 eo ⊢
  refine ⟨⟨by rw [eo 3 (by decide) (by decide)]; exact a1, by rw [q1 19 (by decide) (by decide)]; exact a2, a3, fun y hy => ?_⟩, by rw [eo 3 (by decide) (by decide)]; exact l1, l2, l3, by rw [eo 10 (by decide) (by decide)]; exact l4, fun y hy hk => ?_⟩
  · obtain ⟨b1, b2, b3, b4⟩ := a4 y hy
    refine ⟨by rw [eo 4 (by decide) (by decide), q1 21 (by decide) (by decide)]; exact b1, ?_, by rw [eo 7 (by decide) (by decide), q1 24 (by decide) (by decide)]; exact b3, by rw [eo 8 (by decide) (by decide), q1 25 (by decide) (by decide)]; exact b4⟩
    rw [e5]
    by_cases c : y = x
    · rw [if_pos c, c, q3]; rfl
    · rw [if_neg c, q2 y c]; exact b2
  · by_cases c : y = x
    · refine ⟨0, 5, by rw [e6, if_pos c]; rfl, by rw [e5, if_pos c]; rfl, by omega, by omega, fun k hk5 => ?_⟩
      rw [eo 10 (by decide) (by decide), Nat.zero_add, l4 k hk5, c, q4 k (by omega) (by omega)]
    · rw [eo 4 (by decide) (by decide)] at hk
      obtain ⟨s, a, p1, p2, p3, p4, p5⟩ := l5 y hy hk
      refine ⟨s, a, by rw [e6, if_neg c]; exact p1, by rw [e5, if_neg c]; exact p2, p3, p4, fun k hka => ?_⟩
      rw [eo 10 (by decide) (by decide), q5 _ (by omega)]
      exact p5 k hka
theorem quo_open {C B : aM} {n lc o : Nat} (hN : StN C B n) (hL : StL C B n lc) (hn : n + 3 ≤ 200) : StN (am_up (am_up (am_up (am_up (Q3 C n) 6 (n + 1) 0) 5 (n + 1) 5) 7 n (nI (n + 1))) 8 n (nI (n + 2))) (m_opL n o (mqL (n + 1) 5 0 (m_new (m_new (m_new B 4) 2) 4))) (n + 3) ∧ StL (am_up (am_up (am_up (am_up (Q3 C n) 6 (n + 1) 0) 5 (n + 1) 5) 7 n (nI (n + 1))) 8 n (nI (n + 2))) (m_opL n o (mqL (n + 1) 5 0 (m_new (m_new (m_new B 4) 2) 4))) (n + 3) lc := by
  have s1 := StN_new 4 hN (by omega)
  have t1 := StL_new 4 hN hL (by omega)
  have s2 := StN_new 2 s1 (by omega)
  have t2 := StL_new 2 s1 t1 (by omega)
  have s3 := StN_new 4 s2 (by omega)
  have t3 := StL_new 4 s2 t2 (by omega)
  have hm := StN_mN hN
  have hc : mc_ok B := ⟨by rw [hm]; exact hN.2.1, by omega⟩
  obtain ⟨-, -, -, -, n5, -, -⟩ := new3 hc (by omega)
  have v0 : m_new (m_new (m_new B 4) 2) 4 22 (n + 1) = nI 0 := by
    rw [n5, hm, upd_lt _ _ (by omega), upd_eq]
    rfl
  unfold Q3
  generalize n_newM (n_newM (n_newM C n 4) (n + 1) 2) (n + 2) 4 = E at s3 t3 ⊢
  generalize m_new (m_new (m_new B 4) 2) 4 = T at s3 t3 v0 ⊢
  obtain ⟨u1, u2⟩ := quo_name (x := n + 1) s3 t3 (by omega) v0
  generalize am_up (am_up E 6 (n + 1) 0) 5 (n + 1) 5 = F at u1 u2 ⊢
  generalize mqL (n + 1) 5 0 T = U at u1 u2 ⊢
  unfold m_opL
  have w1 := StN_tail (l := n) (v := nI (n + 2)) (StN_head (l := n) (v := nI (n + 1)) u1)
  refine ⟨StN_ref w1 (by rw [am_up_ne (by decide), am_up_ne (by decide)]) (by rw [am_up_ne (by decide), am_up_ne (by decide)]) (by rw [am_up_ne (by decide), am_up_ne (by decide)]) (by rw [am_up_ne (by decide), am_up_ne (by decide)]) (by rw [am_up_ne (by decide), am_up_ne (by decide)]), ?_⟩
  refine StL_of u2 ?_ ?_ ?_ ?_ ?_ ?_
  · rw [am_up_ne (by decide), am_up_ne (by decide)]
  · rw [am_up_ne (by decide), am_up_ne (by decide)]
  · rw [am_up_ne (by decide), am_up_ne (by decide)]
  · rw [am_up_ne (by decide), am_up_ne (by decide)]
  · rw [am_up_ne (by decide), am_up_ne (by decide)]
  · rw [am_up_ne (by decide), am_up_ne (by decide), am_up_ne (by decide), am_up_ne (by decide)]
/-- the desk's three adds -/
theorem flt_c (C : aM) : ∀ q, ¬ q = 11 → r_fltM C q = C q := fun q h => by unfold r_fltM; rw [am_up_ne h]
theorem quo_add {C : aM} {n : Nat} (h : C 3 5 = nI n) (hn : n + 3 ≤ 200) : r_add C 4 = (nI n, n_newM C n 4) ∧ r_add (r_add C 4).2 2 = (nI (n + 1), n_newM (n_newM C n 4) (n + 1) 2) ∧ r_add (r_add (r_add C 4).2 2).2 4 = (nI (n + 2), Q3 C n) := by
  have e1 := (add_lt (k := 4) h (by omega)).2
  have c1 := (newM_c C n 4).2.2.1
  have e2 := (add_lt (k := 2) c1 (by omega)).2
  have c2 := (newM_c (n_newM C n 4) (n + 1) 2).2.2.1
  have e3 := (add_lt (k := 4) c2 (by omega)).2
  rw [e1]
  refine ⟨rfl, e2, ?_⟩
  dsimp only
  rw [e2]
  exact e3
theorem quo_full {C : aM} {n : Nat} (h : C 3 5 = nI n) (h2 : n ≤ 200) (hn : ¬ n + 3 ≤ 200) : (r_add (r_add (r_add C 4).2 2).2 4).1 = -1 := by
  have key : ∀ (A : aM) (a : Nat) (k : Int32), A 3 5 = nI a → a ≤ 200 → ∃ b, (r_add A k).2 3 5 = nI b ∧ b ≤ 200 ∧ (b = a + 1 ∨ b = 200) := by
    intro A a k hA ha
    by_cases c : a = 200
    · subst c
      refine ⟨200, ?_, by omega, Or.inr rfl⟩
      rw [(add_200 hA).2]
      dsimp only
      rw [flt_c A 3 (by decide)]
      exact hA
    · refine ⟨a + 1, ?_, by omega, Or.inl rfl⟩
      rw [(add_lt hA (by omega)).2]
      exact (newM_c A a k).2.2.1
  obtain ⟨b, b1, b2, b3⟩ := key C n 4 h h2
  obtain ⟨d, d1, d2, d3⟩ := key _ b 2 b1 b2
  have : d = 200 := by omega
  rw [this] at d1
  rw [(add_200 d1).2]
