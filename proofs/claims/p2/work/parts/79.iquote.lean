/-! A QUOTE'S BEGIN, on both sides -/
theorem quo_M {C B : aM} {n lc : Nat} (hN : StN C B n) (hL : StL C B n lc) (hn : n + 3 ≤ 200) : q_M (nI n) (nI (n + 1)) (nI (n + 2)) (Q3 C n) = r_nx (am_up (am_up (am_up (am_up (Q3 C n) 6 (n + 1) 0) 5 (n + 1) 5) 7 n (nI (n + 1))) 8 n (nI (n + 2))) := by
  have s1 := StN_new 4 hN (by omega)
  have t1 := StL_new 4 hN hL (by omega)
  have s2 := StN_new 2 s1 (by omega)
  have t2 := StL_new 2 s1 t1 (by omega)
  have s3 := StN_new 4 s2 (by omega)
  have t3 := StL_new 4 s2 t2 (by omega)
  have hm := StN_mN hN
  have hc : mc_ok B := ⟨by rw [hm]; exact hN.2.1, by omega⟩
  obtain ⟨-, -, -, -, n5, -, -⟩ := new3 hc (by omega)
  have v0 : m_new (m_new (m_new B 4) 2) 4 22 (n + 1) = nI 0 := by
    rw [n5, hm, upd_lt _ _ (by omega), upd_eq]
    rfl
  unfold Q3
  generalize n_newM (n_newM (n_newM C n 4) (n + 1) 2) (n + 2) 4 = E at s3 t3 ⊢
  generalize m_new (m_new (m_new B 4) 2) 4 = T at s3 t3 v0
  obtain ⟨u1, u2⟩ := quo_name (x := n + 1) s3 t3 (by omega) v0
  unfold q_M nqM
  rw [if_pos (StN_has s3 (by omega)), show cl (nI (n + 1)) = n + 1 from nI_clamp (by omega), set_lt u1 (by omega), set_lt (StN_head u1) (by omega)]
theorem opP_c (q : Bool) (o : Nat) (B : aM) : (∀ i, ¬ i = 19 → ¬ i = 29 → m_opP q o B i = B i) ∧ (∀ j, ¬ j = 13 → m_opP q o B 19 j = B 19 j) ∧ m_opP q o B 19 13 = nI (o + 1) ∧ m_opP q o B 29 = upd (B 29) o (if q = true then 4 else 0) := by
  unfold m_opP
  refine ⟨fun i h1 h2 => by rw [am_up_ne h1, am_up_ne h2], fun j hj => ?_, ?_, ?_⟩
  · simp only [am_up_ap, hj, ↓reduceIte, Nat.reduceEqDiff]
  · simp only [am_up_ap, ↓reduceIte]
  · simp only [am_up_i, ↓reduceIte, Nat.reduceEqDiff]
theorem opA_B {N : aM} (hO : ¬ mO N = 15) : m_opA N = m_beg N := by unfold m_opA; rw [if_neg hO]
theorem q3_eq {P : aM} (hc : mc_ok P) (hn : mN P + 3 ≤ 200) : m_q3 P = m_new (m_new (m_new P 4) 2) 4 := by
  have n1 := mN_new (k := 4) hc
  have hb1 : mc_ok (m_new P 4) := by have := mc_nd (k := 4) hc; rw [nd_s (by omega)] at this; exact this
  have n2 := mN_new (k := 2) hb1
  unfold m_q3
  rw [nd_s (M := P) (by omega)]
  dsimp only
  rw [nd_s (M := m_new P 4) (by omega)]
  dsimp only
  rw [nd_s (M := m_new (m_new P 4) 2) (by omega)]
theorem open_q {N B : aM} {n o : Nat} (hB : m_beg N = B) (hO : mO N = o) (ho : o < 15) (h4 : B 19 4 < 0) (hc : mc_ok B) (hm : mN B = n) (hn : n + 3 ≤ 200) : m_open true N = m_opL n o (mqL (n + 1) 5 0 (m_new (m_new (m_new (m_opP true o B) 4) 2) 4)) ∧ m_open true N 19 4 = B 19 4 := by
  have eA : m_opA N = B := by rw [opA_B (by omega), hB]
  obtain ⟨p1, p2, p3, p4⟩ := opP_c true o B
  have e1 : m_open true N = m_opQ o (m_opP true o B) := by
    unfold m_open
    rw [eA, if_pos h4, if_pos rfl, hO]
  rw [e1]
  generalize m_opP true o B = P at p1 p2 p3 p4 ⊢
  have eN : mN P = n := by rw [← hm]; unfold mN; rw [p2 5 (by decide)]
  have hcP : mc_ok P := ⟨by rw [eN, p2 5 (by decide), hc.1, hm], by omega⟩
  have e3 := q3_eq hcP (by omega)
  have e4 : m_new (m_new (m_new P 4) 2) 4 19 4 = B 19 4 := by rw [(new3 hcP (by omega)).2.1 4 (by decide), p2 4 (by decide)]
  have v0 : m_new (m_new (m_new P 4) 2) 4 22 (n + 1) = nI 0 := by
    rw [(new3 hcP (by omega)).2.2.2.2.1, eN, upd_lt _ _ (by omega), upd_eq]
    rfl
  unfold m_opQ
  rw [e3, e4, if_pos h4, eN]
  refine ⟨rfl, ?_⟩
  generalize m_new (m_new (m_new P 4) 2) 4 = T at e4 v0 ⊢
  unfold m_opL
  rw [am_up_ne (by decide), am_up_ne (by decide), am_up_ne (by decide), am_up_ne (by decide), (qL_22 (n + 1) 5 0 0 T v0 (by omega)).1 19 (by decide) (by decide)]
  exact e4
theorem open_qf {N B : aM} {n o : Nat} (hB : m_beg N = B) (hO : mO N = o) (ho : o < 15) (h4 : B 19 4 < 0) (hc : mc_ok B) (hm : mN B = n) (hp : ¬ B 19 3 < 0) (hn : ¬ n + 3 ≤ 200) : 0 ≤ m_open true N 19 4 := by
  have eA : m_opA N = B := by rw [opA_B (by omega), hB]
  obtain ⟨p1, p2, p3, p4⟩ := opP_c true o B
  have e1 : m_open true N = m_opQ o (m_opP true o B) := by
    unfold m_open
    rw [eA, if_pos h4, if_pos rfl, hO]
  rw [e1]
  generalize m_opP true o B = P at p1 p2 p3 p4 ⊢
  have eN : mN P = n := by rw [← hm]; unfold mN; rw [p2 5 (by decide)]
  have hcP : mc_ok P := ⟨by rw [eN, p2 5 (by decide), hc.1, hm], by rw [eN, ← hm]; exact hc.2⟩
  have hz : ¬ m_q3 P 19 4 < 0 := fun z => by
    have := (nd_3 hcP (by rw [p2 3 (by decide)]; exact hp) z).1
    omega
  unfold m_opQ
  rw [if_neg hz]
  exact Int32.not_lt.mp hz
theorem rdD_8 {C : aM} (j : Nat) (hk : tkS C = 8) : rdD (j + 1) C = r_quo (rdD j) C := by
  rw [rdD, hk]
  rw [if_neg (by decide), if_neg (by decide), if_neg (by decide), if_neg (by decide), if_pos rfl]
theorem rdD_6 {C : aM} (j : Nat) (hk : tkS C = 6) : rdD (j + 1) C = r_lst (rdD j) C := by
  rw [rdD, hk]
  rw [if_neg (by decide), if_neg (by decide), if_neg (by decide), if_pos rfl]
