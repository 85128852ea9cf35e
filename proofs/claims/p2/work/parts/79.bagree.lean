/-! ATOMS AGREE: the desk's reading of an atom and the reference's -/
/-- an atom's token before both: it goes from s to e, there are n nodes and lc letters -/
def AtP (C R : aM) (s e N n lc : Nat) : Prop := r_beg C = nI s ∧ r_end C = nI e ∧ s < e ∧ e ≤ N ∧ N ≤ 400 ∧ C 1 1 = nI N ∧ C 2 = R 20 ∧ m_tl R = N ∧ m_pl R = s ∧ m_e R = e ∧ StN C R n ∧ StL C R n lc ∧ lc + (e - s) ≤ 405
/-- what both made of it -/
def AtQ (C R : aM) (p : Int32 × aM) (k : Int32) (s e n lc : Nat) : Prop := p.1 = nI n ∧ (∃ lc', lc' ≤ lc + (e - s) ∧ StN p.2 (m_atmM R k) (n + 1) ∧ StL p.2 (m_atmM R k) (n + 1) lc') ∧ (∀ q, ¬ q = 3 → ¬ q = 4 → ¬ q = 5 → ¬ q = 6 → ¬ q = 7 → ¬ q = 8 → ¬ q = 10 → p.2 q = C q)
theorem nI_p {e : Nat} (h : 0 < e) : nI e - 1 = nI (e - 1) := by
  obtain ⟨d, rfl⟩ : ∃ d, e = d + 1 := ⟨e - 1, by omega⟩
  rw [← nI_1, Int32.add_sub_cancel, Nat.add_sub_cancel]
theorem val_eq {C R : aM} {s e N n lc : Nat} (h : AtP C R s e N n lc) (hf : nmF (R 20) s ≤ e) (hd : ∀ j, nmF (R 20) s ≤ j → j < e → ¬ R 20 j = 45) : r_numV C = m_val R := by
  obtain ⟨h1, h2, h3, h4, h5, h6, h7, h8, h9, h10, hN, hL, hl⟩ := h
  have hte : tl C = N := by unfold tl; rw [h6]; exact nI_clamp (by omega)
  have htx : tx_ok C := ⟨by rw [hte]; exact h6, by rw [hte]; exact h5⟩
  have hb : f_at C (nI s) = R 20 s := by
    rw [f_bt htx (by omega), h7, hte]
    unfold bt
    rw [if_pos (by omega)]
  unfold r_numV m_val
  rw [h1, h2, h9, h10, hb]
  by_cases c : R 20 s = 45
  · rw [if_pos c, if_pos c]
    unfold nmF at hf hd
    rw [if_pos c] at hf hd
    rw [nI_1, stp_nI (by omega) hf, num_eq (t := R 20) h4 h5 h7 h6 (e - (s + 1)) (s + 1) 0 (by omega) hd]
    obtain ⟨f, hf⟩ : ∃ f, e - s = f + 1 := ⟨e - s - 1, by omega⟩
    rw [hf, mA1, if_pos c, show e - (s + 1) = f by omega]
  · rw [if_neg c, if_neg c]
    unfold nmF at hf hd
    rw [if_neg c] at hf hd
    rw [stp_nI (by omega) hf, num_eq (t := R 20) h4 h5 h7 h6 (e - s) s 0 (by omega) hd]
theorem at_num {C R : aM} {s e N n lc : Nat} (h : AtP C R s e N n lc) (hn : n < 200) (hf : nmF (R 20) s ≤ e) (hd : ∀ j, nmF (R 20) s ≤ j → j < e → ¬ R 20 j = 45) : AtQ C R (r_num C) 1 s e n lc := by
  have hv := val_eq h hf hd
  obtain ⟨h1, h2, h3, h4, h5, h6, h7, h8, h9, h10, hN, hL, hl⟩ := h
  have gN := StN_new 1 hN hn
  have gL := StL_new 1 hN hL hn
  have hm := StN_mN hN
  obtain ⟨c1, c2, c3, c4, c5, c6, c7, c8⟩ := newM_c C n 1
  unfold AtQ r_num m_atmM
  rw [(add_lt hN.1 hn).2, if_pos rfl, hm, hv]
  rw [show n_set 5 (nI n, n_newM C n 1).2 (nI n, n_newM C n 1).1 (m_val R) = am_up (n_newM C n 1) 5 n (m_val R) from set_lt gN (by omega)]
  dsimp only
  refine ⟨rfl, ⟨lc, by omega, StN_amt gN, ?_⟩, ?_⟩
  · obtain ⟨l1, l2, l3, l4, l5⟩ := gL
    refine ⟨by rw [am_up_ne (by decide)]; exact l1, l2, l3, by rw [am_up_ne (by decide)]; exact l4, ?_⟩
    intro x hx hk
    rw [am_up_ne (by decide)] at hk
    have hxn : ¬ x = n := by
      rintro rfl
      rw [c4, upd_eq] at hk
      revert hk
      decide
    obtain ⟨s', a', q1, q2, q3, q4, q5⟩ := l5 x hx hk
    refine ⟨s', a', by rw [am_up_ne (by decide)]; exact q1, ?_, q3, q4, ?_⟩
    · rw [am_up_self, upd, if_neg hxn]; exact q2
    · intro k hk'
      rw [am_up_ne (by decide), am_up_ne (by decide)]
      exact q5 k hk'
  · intro q q3 q4 q5 q6 q7 q8 q10
    rw [am_up_ne q5]
    exact c1 q q3 q4 q5 q6 q7 q8
theorem at_name {C R : aM} {s e N n lc : Nat} (h : AtP C R s e N n lc) (hn : n < 200) (h20 : e - s ≤ 20) : AtQ C R (r_name C) 2 s e n lc := by
  obtain ⟨h1, h2, h3, h4, h5, h6, h7, h8, h9, h10, hN, hL, hl⟩ := h
  have gN := StN_new 2 hN hn
  have gL := StL_new 2 hN hL hn
  have hm := StN_mN hN
  obtain ⟨c1, c2, c3, c4, c5, c6, c7, c8⟩ := newM_c C n 2
  have hb : r_beg (n_newM C n 2) = nI s := by
    rw [← h1]
    unfold r_beg tk
    rw [c1 11 (by decide) (by decide) (by decide) (by decide) (by decide) (by decide), c1 12 (by decide) (by decide) (by decide) (by decide) (by decide) (by decide), c1 14 (by decide) (by decide) (by decide) (by decide) (by decide) (by decide)]
  unfold AtQ r_name m_atmM
  rw [(add_lt hN.1 hn).2, if_neg (by decide), if_pos rfl, hm, h9, h10]
  dsimp only
  rw [hb, h2, stp_nI (by omega) (by omega)]
  obtain ⟨r1, r2, r3, r4⟩ := nm_eq (t := R 20) (n := n + 1) (x := n) (e := e) (N := N) (by omega) h4 h5 (e - s) s 0 lc lc (n_newM C n 2) (m_new R 2) (by omega) (by rw [c1 2 (by decide) (by decide) (by decide) (by decide) (by decide) (by decide)]; exact h7) (by rw [c1 1 (by decide) (by decide) (by decide) (by decide) (by decide) (by decide)]; exact h6) gN gL (Or.inl (by rw [c4, upd_eq])) (by rw [c6, upd_eq]; exact hL.1) (by rw [c5, upd_eq]; rfl) (by omega) hL.2.1 (by omega) hl
  refine ⟨rfl, ⟨lc + (e - s), by omega, r1, r2⟩, ?_⟩
  intro q q3 q4 q5 q6 q7 q8 q10
  rw [r4 q q3 q5 q10]
  exact c1 q q3 q4 q5 q6 q7 q8
theorem at_str {C R : aM} {s e N n lc : Nat} (h : AtP C R s e N n lc) (hn : n < 200) (hst : stE (R 20) N 21 (s + 1) = nI e) (hse : s + 2 ≤ e) : AtQ C R (r_str C) 3 s e n lc := by
  obtain ⟨h1, h2, h3, h4, h5, h6, h7, h8, h9, h10, hN, hL, hl⟩ := h
  have gN := StN_new 3 hN hn
  have gL := StL_new 3 hN hL hn
  have hm := StN_mN hN
  obtain ⟨c1, c2, c3, c4, c5, c6, c7, c8⟩ := newM_c C n 3
  have hb : r_beg (n_newM C n 3) = nI s := by
    rw [← h1]
    unfold r_beg tk
    rw [c1 11 (by decide) (by decide) (by decide) (by decide) (by decide) (by decide), c1 12 (by decide) (by decide) (by decide) (by decide) (by decide) (by decide), c1 14 (by decide) (by decide) (by decide) (by decide) (by decide) (by decide)]
  unfold AtQ r_str m_atmM
  rw [(add_lt hN.1 hn).2, if_neg (by decide), if_neg (by decide), hm, h9, h8]
  dsimp only
  rw [hb, h2, nI_p (by omega), nI_1, stp_nI (by omega) (by omega)]
  obtain ⟨lc', r0, r1, r2, r3⟩ := st_eq (t := R 20) (n := n + 1) (x := n) (e := e) (N := N) (by omega) h4 h5 20 (s + 1) 0 lc lc (e - 1 - (s + 1)) (n_newM C n 3) (m_new R 3) hst (by omega) (by omega) (by rw [c1 2 (by decide) (by decide) (by decide) (by decide) (by decide) (by decide)]; exact h7) (by rw [c1 1 (by decide) (by decide) (by decide) (by decide) (by decide) (by decide)]; exact h6) gN gL (Or.inr (by rw [c4, upd_eq])) (by rw [c6, upd_eq]; exact hL.1) (by rw [c5, upd_eq]; rfl) (by omega) hL.2.1 (by omega) (by omega)
  refine ⟨rfl, ⟨lc', by omega, r1, r2⟩, ?_⟩
  intro q q3 q4 q5 q6 q7 q8 q10
  rw [r3 q q3 q5 q10]
  exact c1 q q3 q4 q5 q6 q7 q8
