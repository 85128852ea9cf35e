section
/-! WHAT STANDS BY ITSELF is read alike -/
theorem stp_nI {e i : Nat} (he : e < 2 ^ 31) (hi : i ≤ e) : stp (nI e) (nI i) = e - i := by
  unfold stp
  rw [nI_toInt he, nI_toInt (by omega)]
  omega
theorem al_ltr (M : aM) (x b : Int32) : ∀ i, ¬ i = 3 → ¬ i = 5 → ¬ i = 10 → n_ltr M x b i = M i := fun i h1 h2 h3 => by
  unfold n_ltr
  split
  · split
    · rfl
    split
    · rw [am_up_ne h2, am_up_ne h1, am_up_ne h3]
    · rfl
  · rfl
/-- the letters of a name -/
theorem nm_eq {t : Nat → Int32} {n x e N : Nat} (hx : x < n) (he : e ≤ N) (hN4 : N ≤ 400) : ∀ (f i a s lc : Nat) (C R : aM), i + f = e → C 2 = t → C 1 1 = nI N → StN C R n → StL C R n lc → (C 4 x = 2 ∨ C 4 x = 3) → C 6 x = nI s → C 5 x = nI a → s + a = lc → 5 ≤ s → a + f ≤ 20 → lc + f ≤ 405 →
    StN (nmL (nI x) (nI e) f (nI i) C) (mA2 t x f i R) n ∧ StL (nmL (nI x) (nI e) f (nI i) C) (mA2 t x f i R) n (lc + f) ∧ nmL (nI x) (nI e) f (nI i) C 4 = C 4 ∧ (∀ q, ¬ q = 3 → ¬ q = 5 → ¬ q = 10 → nmL (nI x) (nI e) f (nI i) C q = C q)
  | 0, i, a, s, lc, C, R, hi, h2, h1, hN, hL, hk, hs, ha, hsa, h5, haf, hlf => ⟨hN, hL, rfl, fun _ _ _ _ => rfl⟩
  | f + 1, i, a, s, lc, C, R, hi, h2, h1, hN, hL, hk, hs, ha, hsa, h5, haf, hlf => by
    have hte : tl C = N := by unfold tl; rw [h1]; exact nI_clamp (by omega)
    have htx : tx_ok C := ⟨by rw [hte]; exact h1, by rw [hte]; exact hN4⟩
    have hb : f_at C (nI i) = t i := by
      rw [f_bt htx (by omega), h2, hte]
      unfold bt
      rw [if_pos (by omega)]
    obtain ⟨g1, g2, g3, g4, g5⟩ := ltr_ok (b := t i) hN hL hx hk hs ha hsa (by omega) (by omega) h5
    have al := al_ltr C (nI x) (t i)
    unfold nmL mA2
    rw [if_pos (nI_lt (by omega) (by omega)), hb, nI_1]
    obtain ⟨r1, r2, r3, r4⟩ := nm_eq (t := t) hx he hN4 f (i + 1) (a + 1) s (lc + 1) _ _ (by omega) (by rw [al 2 (by decide) (by decide) (by decide)]; exact h2) (by rw [al 1 (by decide) (by decide) (by decide)]; exact h1) g1 g2 (by rw [g5]; exact hk) (by rw [g3]; exact hs) g4 (by omega) h5 (by omega) (by omega)
    refine ⟨r1, ?_, by rw [r3, g5], fun q q1 q2 q3 => by rw [r4 q q1 q2 q3, al q q1 q2 q3]⟩
    rw [show lc + (f + 1) = lc + 1 + f by omega]
    exact r2
/-- the letters of a string -/
theorem st_eq {t : Nat → Int32} {n x e N : Nat} (hx : x < n) (he : e ≤ N) (hN4 : N ≤ 400) : ∀ (c i a s lc f : Nat) (C R : aM), stE t N (c + 1) i = nI e → a + c = 20 → e - 1 - i ≤ f → C 2 = t → C 1 1 = nI N → StN C R n → StL C R n lc → (C 4 x = 2 ∨ C 4 x = 3) → C 6 x = nI s → C 5 x = nI a → s + a = lc → 5 ≤ s → lc + (e - i) ≤ 405 → i ≤ 401 →
    ∃ lc', lc' ≤ lc + (e - i) ∧ StN (stL (nI x) (nI (e - 1)) f (nI i) C) (mA3 t N x (c + 1) i R) n ∧ StL (stL (nI x) (nI (e - 1)) f (nI i) C) (mA3 t N x (c + 1) i R) n lc' ∧ (∀ q, ¬ q = 3 → ¬ q = 5 → ¬ q = 10 → stL (nI x) (nI (e - 1)) f (nI i) C q = C q) := by
  have hne : ¬ (-1 : Int32) = nI e := fun q => nI_ne (by omega) q.symm
  have Hend : ∀ (i lc f : Nat) (C R : aM), e = i + 1 → StN C R n → StL C R n lc → ∃ lc', lc' ≤ lc + (e - i) ∧ StN (stL (nI x) (nI (e - 1)) f (nI i) C) R n ∧ StL (stL (nI x) (nI (e - 1)) f (nI i) C) R n lc' ∧ (∀ q, ¬ q = 3 → ¬ q = 5 → ¬ q = 10 → stL (nI x) (nI (e - 1)) f (nI i) C q = C q) := by
    intro i lc f C R hei hN hL
    have es : stL (nI x) (nI (e - 1)) f (nI i) C = C := by
      cases f with
      | zero => rfl
      | succ f =>
        unfold stL
        rw [if_neg (nI_nlt (by omega) (by omega))]
    rw [es]
    exact ⟨lc, by omega, hN, hL, fun _ _ _ _ => rfl⟩
  intro c
  induction c with
  | zero =>
    intro i a s lc f C R hst hac hf h2 h1 hN hL hk hs ha hsa h5 hlf hi4
    by_cases c1 : bt t N i = 34
    · rw [stE, if_pos c1] at hst
      rw [mA3, if_pos c1]
      have := (nI_eq (a := i + 1) (b := e) (by omega) (by omega)).mp hst
      exact Hend i lc f C R this.symm hN hL
    · exfalso
      rw [stE, if_neg c1] at hst
      (repeat' split at hst) <;> exact hne hst
  | succ c ih =>
    intro i a s lc f C R hst hac hf h2 h1 hN hL hk hs ha hsa h5 hlf hi4
    by_cases c1 : bt t N i = 34
    · rw [stE, if_pos c1] at hst
      rw [mA3, if_pos c1]
      have := (nI_eq (a := i + 1) (b := e) (by omega) (by omega)).mp hst
      exact Hend i lc f C R this.symm hN hL
    rw [stE, if_neg c1] at hst
    rw [mA3, if_neg c1]
    have hte : tl C = N := by unfold tl; rw [h1]; exact nI_clamp (by omega)
    have htx : tx_ok C := ⟨by rw [hte]; exact h1, by rw [hte]; exact hN4⟩
    have hfb : ∀ j, j < 2 ^ 31 → f_at C (nI j) = bt t N j := fun j hj => by rw [f_bt htx hj, h2, hte]
    have hti : ∀ j, j < N → bt t N j = t j := fun j hj => by unfold bt; rw [if_pos hj]
    by_cases c2 : bt t N i = 92
    · rw [if_pos c2] at hst ⊢
      have hst2 : stE t N (c + 1) (i + 2) = nI e ∧ i + 1 < N := by
        by_cases c3 : bt t N (i + 1) = 34
        · rw [if_pos c3] at hst
          exact ⟨hst, bt_lt (t := t) (by rw [c3]; decide)⟩
        rw [if_neg c3] at hst
        by_cases c4 : bt t N (i + 1) = 92
        · rw [if_pos c4] at hst
          exact ⟨hst, bt_lt (t := t) (by rw [c4]; decide)⟩
        · rw [if_neg c4] at hst
          exact absurd hst hne
      have hgt := stE_gt (by omega) (c + 1) (i + 2) hN4 (by omega) (by omega) hst2.1
      obtain ⟨f, rfl⟩ : ∃ g, f = g + 1 := ⟨f - 1, by omega⟩
      obtain ⟨g1, g2, g3, g4, g5⟩ := ltr_ok (b := t (i + 1)) hN hL hx hk hs ha hsa (by omega) (by omega) h5
      have al := al_ltr C (nI x) (t (i + 1))
      unfold stL
      rw [if_pos (nI_lt (by omega) (by omega)), hfb i (by omega), if_pos c2, nI_1, nI_1, hfb (i + 1) (by omega), hti (i + 1) hst2.2]
      obtain ⟨lc', r0, r1, r2, r3⟩ := ih (i + 1 + 1) (a + 1) s (lc + 1) f _ _ hst2.1 (by omega) (by omega) (by rw [al 2 (by decide) (by decide) (by decide)]; exact h2) (by rw [al 1 (by decide) (by decide) (by decide)]; exact h1) g1 g2 (by rw [g5]; exact hk) (by rw [g3]; exact hs) g4 (by omega) h5 (by omega) (by omega)
      exact ⟨lc', by omega, r1, r2, fun q q1 q2 q3 => by rw [r3 q q1 q2 q3, al q q1 q2 q3]⟩
    · rw [if_neg c2] at hst ⊢
      have hil : i < N := by
        apply bt_lt (t := t)
        intro q
        rw [q] at hst
        rw [if_pos (by decide)] at hst
        exact hne hst
      have hst2 : stE t N (c + 1) (i + 1) = nI e := by
        by_cases c5 : bt t N i < 32
        · rw [if_pos c5] at hst; exact absurd hst hne
        rw [if_neg c5] at hst
        by_cases c6 : 126 < bt t N i
        · rw [if_pos c6] at hst; exact absurd hst hne
        rw [if_neg c6] at hst
        exact hst
      have hgt := stE_gt (by omega) (c + 1) (i + 1) hN4 (by omega) (by omega) hst2
      obtain ⟨f, rfl⟩ : ∃ g, f = g + 1 := ⟨f - 1, by omega⟩
      obtain ⟨g1, g2, g3, g4, g5⟩ := ltr_ok (b := t i) hN hL hx hk hs ha hsa (by omega) (by omega) h5
      have al := al_ltr C (nI x) (t i)
      unfold stL
      rw [if_pos (nI_lt (by omega) (by omega)), hfb i (by omega), if_neg c2, nI_1, hti i hil]
      obtain ⟨lc', r0, r1, r2, r3⟩ := ih (i + 1) (a + 1) s (lc + 1) f _ _ hst2 (by omega) (by omega) (by rw [al 2 (by decide) (by decide) (by decide)]; exact h2) (by rw [al 1 (by decide) (by decide) (by decide)]; exact h1) g1 g2 (by rw [g5]; exact hk) (by rw [g3]; exact hs) g4 (by omega) h5 (by omega) (by omega)
      exact ⟨lc', by omega, r1, r2, fun q q1 q2 q3 => by rw [r3 q q1 q2 q3, al q q1 q2 q3]⟩
/-- the value of a number -/
theorem num_eq {t : Nat → Int32} {e N : Nat} {C : aM} (he : e ≤ N) (hN4 : N ≤ 400) (h2 : C 2 = t) (h1 : C 1 1 = nI N) : ∀ (f i : Nat) (acc : Int32), i + f = e → (∀ j, i ≤ j → j < e → ¬ t j = 45) → nmA C (nI e) f (nI i) acc = mA1 t f i acc
  | 0, _, _, _, _ => rfl
  | f + 1, i, acc, hi, h => by
    have hte : tl C = N := by unfold tl; rw [h1]; exact nI_clamp (by omega)
    have htx : tx_ok C := ⟨by rw [hte]; exact h1, by rw [hte]; exact hN4⟩
    have hb : f_at C (nI i) = t i := by
      rw [f_bt htx (by omega), h2, hte]
      unfold bt
      rw [if_pos (by omega)]
    unfold nmA mA1
    rw [if_pos (nI_lt (by omega) (by omega)), hb, nI_1, if_neg (h i (by omega) (by omega)), num_eq he hN4 h2 h1 f (i + 1) _ (by omega) (fun j a b => h j (by omega) b)]
    congr 1
    rw [Int32.sub_eq_add_neg, Int32.sub_eq_add_neg, Int32.mul_comm, Int32.add_assoc]
theorem allD_in {t : Nat → Int32} : ∀ (k i : Nat), allD t k i = true → ∀ j, i ≤ j → j < i + k → dgB (t j) = true
  | 0, i, _, j, h1, h2 => by omega
  | k + 1, i, h, j, h1, h2 => by
    unfold allD at h
    rw [Bool.and_eq_true] at h
    by_cases c : j = i
    · subst c; exact h.1
    · exact allD_in k (i + 1) h.2 j (by omega) (by omega)
/-- a number's token, byte by byte -/
theorem num_tok {V : aM} (h : tx_ok V) {s e : Nat} (hs : s < tl V) (he : f_num V s = nI e) (hee : e ≤ 401) : nmF (V 2) s ≤ e ∧ (∀ j, nmF (V 2) s ≤ j → j < e → ¬ V 2 j = 45) := by
  have h4 := h.2
  have hn : nmF (V 2) s = s + 1 ∨ nmF (V 2) s = s := by unfold nmF; split <;> simp
  have hw := f_word_le h (i := nmF (V 2) s) (by omega)
  have hne : ¬ (-1 : Int32) = nI e := fun q => nI_ne (by omega) q.symm
  unfold f_num at he
  generalize nmF (V 2) s = b at hn hw he ⊢
  by_cases c1 : f_word V b - b < 1
  · rw [if_pos c1] at he; exact absurd he hne
  rw [if_neg c1] at he
  by_cases c2 : 9 < f_word V b - b
  · rw [if_pos c2] at he; exact absurd he hne
  rw [if_neg c2] at he
  by_cases c3 : allD (V 2) (f_word V b - b) b = true
  · rw [if_pos c3] at he
    have := (nI_eq (a := f_word V b) (b := e) (by omega) (by omega)).mp he
    refine ⟨by omega, fun j h1 h2 q => ?_⟩
    have hd := allD_in _ _ c3 j h1 (by omega)
    rw [q] at hd
    revert hd
    decide
  · rw [if_neg c3] at he; exact absurd he hne
end
section
/-! ATOMS AGREE: the desk's reading of an atom and the reference's -/
/-- an atom's token before both: it goes from s to e, there are n nodes and lc letters -/
def AtP (C R : aM) (s e N n lc : Nat) : Prop := r_beg C = nI s ∧ r_end C = nI e ∧ s < e ∧ e ≤ N ∧ N ≤ 400 ∧ C 1 1 = nI N ∧ C 2 = R 20 ∧ m_tl R = N ∧ m_pl R = s ∧ m_e R = e ∧ StN C R n ∧ StL C R n lc ∧ lc + (e - s) ≤ 405
/-- what both made of it -/
def AtQ (C R : aM) (p : Int32 × aM) (k : Int32) (s e n lc : Nat) : Prop := p.1 = nI n ∧ (∃ lc', lc' ≤ lc + (e - s) ∧ StN p.2 (m_atmM R k) (n + 1) ∧ StL p.2 (m_atmM R k) (n + 1) lc') ∧ (∀ q, ¬ q = 3 → ¬ q = 4 → ¬ q = 5 → ¬ q = 6 → ¬ q = 7 → ¬ q = 8 → ¬ q = 10 → p.2 q = C q)
theorem nI_p {e : Nat} (h : 0 < e) : nI e - 1 = nI (e - 1) := by
  obtain ⟨d, rfl⟩ : ∃ d, e = d + 1 := ⟨e - 1, by omega⟩
  rw [← nI_1, Int32.add_sub_cancel, Nat.add_sub_cancel]
theorem val_eq {C R : aM} {s e N n lc : Nat} (h : AtP C R s e N n lc) (hf : nmF (R 20) s ≤ e) (hd : ∀ j, nmF (R 20) s ≤ j → j < e → ¬ R 20 j = 45) : r_numV C = m_val R := by
  obtain ⟨h1, h2, h3, h4, h5, h6, h7, h8, h9, h10, hN, hL, hl⟩ := h
  have hte : tl C = N := by unfold tl; rw [h6]; exact nI_clamp (by omega)
  have htx : tx_ok C := ⟨by rw [hte]; exact h6, by rw [hte]; exact h5⟩
  have hb : f_at C (nI s) = R 20 s := by
    rw [f_bt htx (by omega), h7, hte]
    unfold bt
    rw [if_pos (by omega)]
  unfold r_numV m_val
  rw [h1, h2, h9, h10, hb]
  by_cases c : R 20 s = 45
  · rw [if_pos c, if_pos c]
    unfold nmF at hf hd
    rw [if_pos c] at hf hd
    rw [nI_1, stp_nI (by omega) hf, num_eq (t := R 20) h4 h5 h7 h6 (e - (s + 1)) (s + 1) 0 (by omega) hd]
    obtain ⟨f, hf⟩ : ∃ f, e - s = f + 1 := ⟨e - s - 1, by omega⟩
    rw [hf, mA1, if_pos c, show e - (s + 1) = f by omega]
  · rw [if_neg c, if_neg c]
    unfold nmF at hf hd
    rw [if_neg c] at hf hd
    rw [stp_nI (by omega) hf, num_eq (t := R 20) h4 h5 h7 h6 (e - s) s 0 (by omega) hd]
theorem at_num {C R : aM} {s e N n lc : Nat} (h : AtP C R s e N n lc) (hn : n < 200) (hf : nmF (R 20) s ≤ e) (hd : ∀ j, nmF (R 20) s ≤ j → j < e → ¬ R 20 j = 45) : AtQ C R (r_num C) 1 s e n lc := by
  have hv := val_eq h hf hd
  obtain ⟨h1, h2, h3, h4, h5, h6, h7, h8, h9, h10, hN, hL, hl⟩ := h
  have gN := StN_new 1 hN hn
  have gL := StL_new 1 hN hL hn
  have hm := StN_mN hN
  obtain ⟨c1, c2, c3, c4, c5, c6, c7, c8⟩ := newM_c C n 1
  unfold AtQ r_num m_atmM
  rw [(add_lt hN.1 hn).2, if_pos rfl, hm, hv]
  rw [show n_set 5 (nI n, n_newM C n 1).2 (nI n, n_newM C n 1).1 (m_val R) = am_up (n_newM C n 1) 5 n (m_val R) from set_lt gN (by omega)]
  dsimp only
  refine ⟨rfl, ⟨lc, by omega, StN_amt gN, ?_⟩, ?_⟩
  · obtain ⟨l1, l2, l3, l4, l5⟩ := gL
    refine ⟨by rw [am_up_ne (by decide)]; exact l1, l2, l3, by rw [am_up_ne (by decide)]; exact l4, ?_⟩
    intro x hx hk
    rw [am_up_ne (by decide)] at hk
    have hxn : ¬ x = n := by
      rintro rfl
      rw [c4, upd_eq] at hk
      revert hk
      decide
    obtain ⟨s', a', q1, q2, q3, q4, q5⟩ := l5 x hx hk
    refine ⟨s', a', by rw [am_up_ne (by decide)]; exact q1, ?_, q3, q4, ?_⟩
    · rw [am_up_self, upd, if_neg hxn]; exact q2
    · intro k hk'
      rw [am_up_ne (by decide), am_up_ne (by decide)]
      exact q5 k hk'
  · intro q q3 q4 q5 q6 q7 q8 q10
    rw [am_up_ne q5]
    exact c1 q q3 q4 q5 q6 q7 q8
theorem at_name {C R : aM} {s e N n lc : Nat} (h : AtP C R s e N n lc) (hn : n < 200) (h20 : e - s ≤ 20) : AtQ C R (r_name C) 2 s e n lc := by
  obtain ⟨h1, h2, h3, h4, h5, h6, h7, h8, h9, h10, hN, hL, hl⟩ := h
  have gN := StN_new 2 hN hn
  have gL := StL_new 2 hN hL hn
  have hm := StN_mN hN
  obtain ⟨c1, c2, c3, c4, c5, c6, c7, c8⟩ := newM_c C n 2
  have hb : r_beg (n_newM C n 2) = nI s := by
    rw [← h1]
    unfold r_beg tk
    rw [c1 11 (by decide) (by decide) (by decide) (by decide) (by decide) (by decide), c1 12 (by decide) (by decide) (by decide) (by decide) (by decide) (by decide), c1 14 (by decide) (by decide) (by decide) (by decide) (by decide) (by decide)]
  unfold AtQ r_name m_atmM
  rw [(add_lt hN.1 hn).2, if_neg (by decide), if_pos rfl, hm, h9, h10]
  dsimp only
  rw [hb, h2, stp_nI (by omega) (by omega)]
  obtain ⟨r1, r2, r3, r4⟩ := nm_eq (t := R 20) (n := n + 1) (x := n) (e := e) (N := N) (by omega) h4 h5 (e - s) s 0 lc lc (n_newM C n 2) (m_new R 2) (by omega) (by rw [c1 2 (by decide) (by decide) (by decide) (by decide) (by decide) (by decide)]; exact h7) (by rw [c1 1 (by decide) (by decide) (by decide) (by decide) (by decide) (by decide)]; exact h6) gN gL (Or.inl (by rw [c4, upd_eq])) (by rw [c6, upd_eq]; exact hL.1) (by rw [c5, upd_eq]; rfl) (by omega) hL.2.1 (by omega) hl
  refine ⟨rfl, ⟨lc + (e - s), by omega, r1, r2⟩, ?_⟩
  intro q q3 q4 q5 q6 q7 q8 q10
  rw [r4 q q3 q5 q10]
  exact c1 q q3 q4 q5 q6 q7 q8
theorem at_str {C R : aM} {s e N n lc : Nat} (h : AtP C R s e N n lc) (hn : n < 200) (hst : stE (R 20) N 21 (s + 1) = nI e) (hse : s + 2 ≤ e) : AtQ C R (r_str C) 3 s e n lc := by
  obtain ⟨h1, h2, h3, h4, h5, h6, h7, h8, h9, h10, hN, hL, hl⟩ := h
  have gN := StN_new 3 hN hn
  have gL := StL_new 3 hN hL hn
  have hm := StN_mN hN
  obtain ⟨c1, c2, c3, c4, c5, c6, c7, c8⟩ := newM_c C n 3
  have hb : r_beg (n_newM C n 3) = nI s := by
    rw [← h1]
    unfold r_beg tk
    rw [c1 11 (by decide) (by decide) (by decide) (by decide) (by decide) (by decide), c1 12 (by decide) (by decide) (by decide) (by decide) (by decide) (by decide), c1 14 (by decide) (by decide) (by decide) (by decide) (by decide) (by decide)]
  unfold AtQ r_str m_atmM
  rw [(add_lt hN.1 hn).2, if_neg (by decide), if_neg (by decide), hm, h9, h8]
  dsimp only
  rw [hb, h2, nI_p (by omega), nI_1, stp_nI (by omega) (by omega)]
  obtain ⟨lc', r0, r1, r2, r3⟩ := st_eq (t := R 20) (n := n + 1) (x := n) (e := e) (N := N) (by omega) h4 h5 20 (s + 1) 0 lc lc (e - 1 - (s + 1)) (n_newM C n 3) (m_new R 3) hst (by omega) (by omega) (by rw [c1 2 (by decide) (by decide) (by decide) (by decide) (by decide) (by decide)]; exact h7) (by rw [c1 1 (by decide) (by decide) (by decide) (by decide) (by decide) (by decide)]; exact h6) gN gL (Or.inr (by rw [c4, upd_eq])) (by rw [c6, upd_eq]; exact hL.1) (by rw [c5, upd_eq]; rfl) (by omega) hL.2.1 (by omega) (by omega)
  refine ⟨rfl, ⟨lc', by omega, r1, r2⟩, ?_⟩
  intro q q3 q4 q5 q6 q7 q8 q10
  rw [r3 q q3 q5 q10]
  exact c1 q q3 q4 q5 q6 q7 q8
end
section
/-! ONE TOKEN OF THE REFERENCE, whatever comes after -/
/-- between two tokens, no fault so far -/
def bdy (M : aM) : Prop := M 19 4 < 0 ∧ SI false M ∧ bs_ok M ∧ mt_ok M ∧ tb_ok M ∧ at_ok M
def fltK (Kf : aM → Prop) (M : aM) : Prop := ∀ N, frx M N → 0 ≤ N 19 4 → Kf N
theorem fltK.of {Kf : aM → Prop} {M N : aM} (h : fltK Kf M) (hx : frx M N) : fltK Kf N := fun P hP h4 => h P (hx.tr hP) h4
theorem rd_flt {Kf : aM → Prop} {M N : aM} {f : Nat} (hK : fltK Kf M) (hx : frx M N) (h4 : 0 ≤ N 19 4) : m_rd Kf (f + 1) N := by
  rw [m_rd, if_pos h4]
  exact hK N hx h4
theorem rd_bad {Kf : aM → Prop} {M : aM} {f : Nat} (h : bdy M) (ce : sc_e (vw M) (cl (M 19 2)) = -1) (hK : fltK Kf M) : m_rd Kf (f + 1) M := by
  obtain ⟨h4, hS, hb, ht, htb, hat⟩ := h
  have h400 := ht.2
  rw [m_rd, if_neg (Int32.not_le.mpr h4)]
  refine ⟨⟨ht, htb, hat⟩, ?_⟩
  have hsl := f_skip_le (M := vw M) (pos := cl (M 19 2)) hat.2
  rw [vw_tl] at hsl
  have hss : sc_s (vw M) (cl (M 19 2)) = f_skip (vw M) (cl (M 19 2)) := by rfl
  rw [← hss] at hsl
  rw [if_pos ce]
  intro a
  obtain ⟨a1, a2, a3, a4⟩ := tk2_c M (sc_s (vw M) (cl (M 19 2))) a
  generalize am_up (tkP M (sc_s (vw M) (cl (M 19 2)))) 19 2 a = N at a1 a2 a3 a4 ⊢
  have hx : tkx M N := ⟨a1, a2⟩
  refine hK _ (hx.x.tr (frm_fail N _).x) ?_
  exact Int32.not_lt.mp (failM_ge (nI_pos (by omega)))
/-- the text's end -/
theorem rd_end {Kf : aM → Prop} {M : aM} {f : Nat} (h : bdy M) (ce : ¬ sc_e (vw M) (cl (M 19 2)) = -1) (c10 : sc_k (vw M) (cl (M 19 2)) = 10) (hK : ¬ mO M = 0 → fltK Kf M) (hE : mO M = 0 → ∀ N, tkx M N → Kf N) : m_rd Kf (f + 1) M := by
  obtain ⟨h4, hS, hb, ht, htb, hat⟩ := h
  have h400 := ht.2
  rw [m_rd, if_neg (Int32.not_le.mpr h4)]
  refine ⟨⟨ht, htb, hat⟩, ?_⟩
  rw [if_neg ce, if_pos c10]
  refine ⟨hb.2.2, ?_⟩
  obtain ⟨a1, a2, a3, a4⟩ := tkP_c M (sc_s (vw M) (cl (M 19 2)))
  generalize tkP M (sc_s (vw M) (cl (M 19 2))) = N at a1 a2 a3 a4 ⊢
  have hx : tkx M N := ⟨a1, a2⟩
  unfold m_atEnd
  by_cases cO : mO N = 0
  · rw [if_pos cO]
    exact hE (by rw [← (tkx_N hx).2.2.1]; exact cO) N hx
  · rw [if_neg cO]
    refine hK (by rw [← (tkx_N hx).2.2.1]; exact cO) _ (hx.x.tr (frm_fail N _).x) ?_
    refine Int32.not_lt.mp (failM_ge ?_)
    rw [a2 1 (by decide) (by decide), ht.1]
    exact nI_pos (by omega)
/-- a token that is acted on -/
def TokK (N : aM) (k : Int32) : Prop := k = 6 ∨ k = 7 ∨ k = 8 ∨ k = 9 ∨ ((k = 1 ∨ k = 2 ∨ k = 3) ∧ at_kd N k)
theorem rd_act {Kf : aM → Prop} {M : aM} {f : Nat} (h : bdy M) (ce : ¬ sc_e (vw M) (cl (M 19 2)) = -1) (c10 : ¬ sc_k (vw M) (cl (M 19 2)) = 10)
    (hA : ∀ (N : aM) (e : Nat), sc_e (vw M) (cl (M 19 2)) = nI e → sc_s (vw M) (cl (M 19 2)) < e → e ≤ m_tl M → tkx M N → N 19 2 = nI e → N 19 3 = nI (sc_s (vw M) (cl (M 19 2))) → bdy N → pl_ok N → TokK N (sc_k (vw M) (cl (M 19 2))) → frx M (m_act N (sc_k (vw M) (cl (M 19 2)))) → m_act N (sc_k (vw M) (cl (M 19 2))) 19 2 = nI e → (0 ≤ m_act N (sc_k (vw M) (cl (M 19 2))) 19 4 ∨ bdy (m_act N (sc_k (vw M) (cl (M 19 2))))) → m_rd Kf f (m_act N (sc_k (vw M) (cl (M 19 2))))) : m_rd Kf (f + 1) M := by
  obtain ⟨h4, hS, hb, ht, htb, hat⟩ := h
  have h400 := ht.2
  rw [m_rd, if_neg (Int32.not_le.mpr h4)]
  refine ⟨⟨ht, htb, hat⟩, ?_⟩
  have htx : tx_ok (vw M) := ht
  have hsl := f_skip_le (M := vw M) (pos := cl (M 19 2)) hat.2
  rw [vw_tl] at hsl
  have hss : sc_s (vw M) (cl (M 19 2)) = f_skip (vw M) (cl (M 19 2)) := by rfl
  rw [← hss] at hsl
  rw [if_neg ce, if_neg c10]
  obtain ⟨e, he, hse, hel⟩ := tend_in (M := vw M) htx (i := sc_s (vw M) (cl (M 19 2))) c10 ce
  have he2 : sc_e (vw M) (cl (M 19 2)) = nI e := he
  rw [vw_tl] at hel
  obtain ⟨a1, a2, a3, a4⟩ := tk2_c M (sc_s (vw M) (cl (M 19 2))) (sc_e (vw M) (cl (M 19 2)))
  have hkd : ∀ N : aM, tkx M N → N 19 2 = nI e → N 19 3 = nI (sc_s (vw M) (cl (M 19 2))) → (sc_k (vw M) (cl (M 19 2)) = 6 ∨ sc_k (vw M) (cl (M 19 2)) = 7 ∨ sc_k (vw M) (cl (M 19 2)) = 8 ∨ sc_k (vw M) (cl (M 19 2)) = 9 ∨ ((sc_k (vw M) (cl (M 19 2)) = 1 ∨ sc_k (vw M) (cl (M 19 2)) = 2 ∨ sc_k (vw M) (cl (M 19 2)) = 3) ∧ at_kd N (sc_k (vw M) (cl (M 19 2))))) := by
    intro N hx hN2 hN3
    have eE : m_e N = e := by unfold m_e; rw [hN2]; exact nI_clamp (by omega)
    have eP : m_pl N = sc_s (vw M) (cl (M 19 2)) := by unfold m_pl; rw [hN3]; exact nI_clamp (by omega)
    have hin : srt (bt (vw M 2) (tl (vw M)) (sc_s (vw M) (cl (M 19 2)))) = 10 ∨ _ := srt_in (bt (vw M 2) (tl (vw M)) (sc_s (vw M) (cl (M 19 2))))
    have hck : sc_k (vw M) (cl (M 19 2)) = srt (bt (vw M 2) (tl (vw M)) (sc_s (vw M) (cl (M 19 2)))) := by rfl
    rw [← hck] at hin he
    rcases hin with q | q | q | q | q | q | q | q | q
    · exact absurd q c10
    · rw [q] at he ⊢
      rw [ft_3, vw_2, vw_tl] at he
      refine Or.inr (Or.inr (Or.inr (Or.inr ⟨Or.inr (Or.inr rfl), Or.inr (Or.inr ⟨rfl, ?_⟩)⟩)))
      rw [eE, eP, (tkx_N hx).2.2.2, hx.1 20 (by decide)]
      exact he
    · exact Or.inr (Or.inr (Or.inl q))
    · exact Or.inl q
    · exact Or.inr (Or.inl q)
    · exact Or.inr (Or.inr (Or.inr (Or.inl q)))
    · exact Or.inr (Or.inr (Or.inr (Or.inr ⟨Or.inl q, Or.inl q⟩)))
    · rw [q] at he ⊢
      refine Or.inr (Or.inr (Or.inr (Or.inr ⟨Or.inr (Or.inl rfl), Or.inr (Or.inl ⟨rfl, ?_⟩)⟩)))
      rw [eE, eP]
      have hf : f_tend (vw M) (sc_s (vw M) (cl (M 19 2))) 2 = f_name (vw M) (sc_s (vw M) (cl (M 19 2))) := by
        unfold f_tend
        rw [if_neg (by decide), if_pos rfl]
      rw [hf] at he
      unfold f_name at he
      by_cases z : 12 < f_word (vw M) (sc_s (vw M) (cl (M 19 2))) - sc_s (vw M) (cl (M 19 2))
      · rw [if_pos z] at he
        exact absurd he.symm (nI_ne (by omega))
      · rw [if_neg z] at he
        have hwl := f_word_le htx (i := sc_s (vw M) (cl (M 19 2))) (by omega)
        have := (nI_eq (by omega) (by omega)).mp he
        omega
    · exfalso
      rw [q, ft_11] at he
      exact nI_ne (by omega) he.symm
  have hNe : tkN M = am_up (tkP M (sc_s (vw M) (cl (M 19 2)))) 19 2 (sc_e (vw M) (cl (M 19 2))) := by rfl
  rw [← hNe] at a1 a2 a3 a4
  rw [he2] at a3
  have hA2 := hA (tkN M) e he2 hse hel
  generalize tkN M = N at a1 a2 a3 a4 hA2 ⊢
  have hx : tkx M N := ⟨a1, a2⟩
  have hkd2 := hkd N hx a3 a4
  have htN := tkx_mt hx ht
  have eT := (tkx_N hx).2.2.2
  have eE : m_e N = e := by unfold m_e; rw [a3]; exact nI_clamp (by omega)
  have eP : m_pl N = sc_s (vw M) (cl (M 19 2)) := by unfold m_pl; rw [a4]; exact nI_clamp (by omega)
  have hplN : pl_ok N := ⟨by rw [eP, a4], by rw [eE, a3], by rw [eP, eE]; exact hse, by rw [eE, eT]; exact hel⟩
  have h4N : N 19 4 < 0 := by rw [a2 4 (by decide) (by decide)]; exact h4
  have htbN : tb_ok N := by
    intro i hi
    rw [a1 20 (by decide)]
    rw [eT] at hi
    exact htb i hi
  have hce : cl (N 19 2) = e := by rw [a3]; exact nI_clamp (by omega)
  have hatN : at_ok N := ⟨by rw [hce, a3], by rw [hce, eT]; exact hel⟩
  have hSN := tkx_SI hx hS
  have hbN := tkx_bs hx hb
  obtain ⟨p1, p2⟩ := act_ok hSN hbN htN hplN h4N hkd2
  refine ⟨p1, ?_⟩
  have hfr := frm_act N (sc_k (vw M) (cl (M 19 2)))
  obtain ⟨r1, r2, r3, r4, r5⟩ := frm_mt hfr htN htbN hatN
  refine hA2 hx a3 a4 ⟨h4N, hSN, hbN, htN, htbN, hatN⟩ hplN hkd2 (hx.x.tr hfr.x) ((hfr.2 2 (Or.inr (Or.inl rfl))).trans a3) ?_
  by_cases c4 : 0 ≤ m_act N (sc_k (vw M) (cl (M 19 2))) 19 4
  · exact Or.inl c4
  · obtain ⟨z1, z2⟩ := p2.resolve_left c4
    exact Or.inr ⟨Int32.not_le.mp c4, z1, z2, r1, r2, r3⟩
end
section
/-! THE DESK'S READING: what it leaves alone, and the token it stands at -/
def dkC (c j : Nat) : Prop := (¬ c = 1 ∧ ¬ c = 2 ∧ ¬ c = 9 ∧ c < 12) ∧ (¬ c = 3 ∨ ¬ j = 7)
def dk (M N : aM) : Prop := (∀ i, i = 1 ∨ i = 2 ∨ i = 9 ∨ 12 ≤ i → N i = M i) ∧ N 3 7 = M 3 7
theorem dk.rf (M : aM) : dk M M := ⟨fun _ _ => rfl, rfl⟩
theorem dk.tr {M N P : aM} (h1 : dk M N) (h2 : dk N P) : dk M P := ⟨fun i hi => (h2.1 i hi).trans (h1.1 i hi), h2.2.trans h1.2⟩
theorem dk.up {M N : aM} (h : dk M N) {c j : Nat} {x : Int32} (hc : dkC c j) : dk M (am_up N c j x) := by
  obtain ⟨⟨a1, a2, a3, a4⟩, a5⟩ := hc
  refine ⟨fun i hi => ?_, ?_⟩
  · rw [am_up_ne (by omega)]; exact h.1 i hi
  · by_cases q : 3 = c
    · rw [am_up_i, if_pos q, upd, if_neg (by omega), ← q]; exact h.2
    · rw [am_up_ne q]; exact h.2
theorem dk_add (M : aM) (k : Int32) : dk M (n_add M k).2 := by
  unfold n_add
  split
  · exact dk.rf M
  split
  · exact ((((((dk.rf M).up (by first | exact ⟨by decide, Or.inl (by decide)⟩ | exact ⟨by decide, Or.inr (by decide)⟩)).up (by first | exact ⟨by decide, Or.inl (by decide)⟩ | exact ⟨by decide, Or.inr (by decide)⟩)).up (by first | exact ⟨by decide, Or.inl (by decide)⟩ | exact ⟨by decide, Or.inr (by decide)⟩)).up (by first | exact ⟨by decide, Or.inl (by decide)⟩ | exact ⟨by decide, Or.inr (by decide)⟩)).up (by first | exact ⟨by decide, Or.inl (by decide)⟩ | exact ⟨by decide, Or.inr (by decide)⟩)).up (by first | exact ⟨by decide, Or.inl (by decide)⟩ | exact ⟨by decide, Or.inr (by decide)⟩)
  · exact dk.rf M
theorem dk_flt (M : aM) : dk M (r_fltM M) := (dk.rf M).up (by first | exact ⟨by decide, Or.inl (by decide)⟩ | exact ⟨by decide, Or.inr (by decide)⟩)
theorem dk_radd (M : aM) (k : Int32) : dk M (r_add M k).2 := by
  unfold r_add
  split
  · exact (dk_add M k).tr (dk_flt _)
  · exact dk_add M k
theorem dk_nx (M : aM) : dk M (r_nx M) := (dk.rf M).up (by first | exact ⟨by decide, Or.inl (by decide)⟩ | exact ⟨by decide, Or.inr (by decide)⟩)
theorem dk_set {c : Nat} (hc : (¬ c = 1 ∧ ¬ c = 2 ∧ ¬ c = 9 ∧ c < 12) ∧ ¬ c = 3) (M : aM) (x v : Int32) : dk M (n_set c M x v) := by
  unfold n_set
  split
  · exact (dk.rf M).up ⟨hc.1, Or.inl hc.2⟩
  · exact dk.rf M
theorem dk_ltr (M : aM) (x b : Int32) : dk M (n_ltr M x b) := by
  unfold n_ltr
  split
  · split
    · exact dk.rf M
    split
    · exact (((dk.rf M).up (by first | exact ⟨by decide, Or.inl (by decide)⟩ | exact ⟨by decide, Or.inr (by decide)⟩)).up (by first | exact ⟨by decide, Or.inl (by decide)⟩ | exact ⟨by decide, Or.inr (by decide)⟩)).up (by first | exact ⟨by decide, Or.inl (by decide)⟩ | exact ⟨by decide, Or.inr (by decide)⟩)
    · exact dk.rf M
  · exact dk.rf M
theorem dk_nmL (nd e : Int32) : ∀ (k : Nat) (i : Int32) (M : aM), dk M (nmL nd e k i M)
  | 0, _, M => dk.rf M
  | k + 1, i, M => by
    unfold nmL
    split
    · exact (dk_ltr _ _ _).tr (dk_nmL nd e k _ _)
    · exact dk.rf M
theorem dk_stL (nd e : Int32) : ∀ (k : Nat) (i : Int32) (M : aM), dk M (stL nd e k i M)
  | 0, _, M => dk.rf M
  | k + 1, i, M => by
    unfold stL
    split
    · split
      · exact (dk_ltr _ _ _).tr (dk_stL nd e k _ _)
      · exact (dk_ltr _ _ _).tr (dk_stL nd e k _ _)
    · exact dk.rf M
theorem dk_num (M : aM) : dk M (r_num M).2 := (dk_radd M 1).tr (dk_set (by decide) _ _ _)
theorem dk_name (M : aM) : dk M (r_name M).2 := (dk_radd M 2).tr (dk_nmL _ _ _ _ _)
theorem dk_str (M : aM) : dk M (r_str M).2 := (dk_radd M 3).tr (dk_stL _ _ _ _ _)
theorem dk_qM (a b c : Int32) (M : aM) : dk M (q_M a b c M) := by
  unfold q_M
  have h : dk M (if hasN M b = true then nqM M b else M) := by
    split
    · exact ((dk.rf M).up (by first | exact ⟨by decide, Or.inl (by decide)⟩ | exact ⟨by decide, Or.inr (by decide)⟩)).up (by first | exact ⟨by decide, Or.inl (by decide)⟩ | exact ⟨by decide, Or.inr (by decide)⟩)
    · exact dk.rf M
  exact ((h.tr (dk_set (by decide) _ _ _)).tr (dk_set (by decide) _ _ _)).tr (dk_nx _)
theorem dk_qA (a b : Int32) (M : aM) (q : Int32) : dk M (q_A a b M q).2 := by
  unfold q_A
  have h1 := dk_set (c := 7) (by decide) M b q
  generalize n_set 7 M b q = N at h1 ⊢
  have h2 := dk_radd N 5
  generalize r_add N 5 = P at h2 ⊢
  exact (h1.tr h2).tr (dk_set (by decide) _ _ _)
theorem dk_qB {f : aM → Int32 × aM} (hf : ∀ M, dk M (f M).2) (a b c : Int32) (M : aM) : dk M (q_B f a b c M).2 := by
  unfold q_B
  have h1 := dk_qM a b c M
  generalize q_M a b c M = N at h1 ⊢
  have h2 := hf N
  generalize f N = P at h2 ⊢
  by_cases q : P.1 = -1
  · rw [if_pos q]; exact h1.tr h2
  · rw [if_neg q]; exact (h1.tr h2).tr (dk_qA _ _ _ _)
theorem dk_quo {f : aM → Int32 × aM} (hf : ∀ M, dk M (f M).2) (M : aM) : dk M (r_quo f M).2 := by
  unfold r_quo
  have h1 := dk_radd M 4
  generalize r_add M 4 = p1 at h1 ⊢
  have h2 := dk_radd p1.2 2
  generalize r_add p1.2 2 = p2 at h2 ⊢
  have h3 := dk_radd p2.2 4
  generalize r_add p2.2 4 = p3 at h3 ⊢
  by_cases q : p3.1 = -1
  · rw [if_pos q]; exact (h1.tr h2).tr h3
  · rw [if_neg q]; exact ((h1.tr h2).tr h3).tr (dk_qB hf _ _ _ _)
theorem dk_dot {f : aM → Int32 × aM} (hf : ∀ M, dk M (f M).2) (M : aM) : dk M (r_dot f M).2 := by
  have h1 := (dk_nx M).tr (hf (r_nx M))
  unfold r_dot
  split
  · exact h1
  split
  · exact h1.tr (dk_nx _)
  · exact (h1.tr (dk_nx _)).tr (dk_flt _)
theorem dk_lE {M : aM} {p : Int32 × aM} {a b : Int32} (h : dk M p.2) : dk M (r_lE p a b).2 := h.tr (dk_set (by decide) _ _ _)
theorem dk_ll {f : aM → Int32 × aM} (hf : ∀ M, dk M (f M).2) (first : Int32) : ∀ (r : Nat) (last : Int32) (M : aM), dk M (r_ll f first r last M).2
  | 0, _, M => dk.rf M
  | r + 1, last, M => by
    have hh : dk M (r_hd f last M) := ((hf M).tr (dk_set (by decide) _ _ _)).tr (dk_nx _)
    unfold r_ll
    split
    · exact dk.rf M
    split
    · exact hf M
    split
    · exact dk_lE (hh.tr (dk_radd _ 5))
    split
    · exact dk_lE (hh.tr (dk_dot hf _))
    · exact ((hh.tr (dk_radd _ 4)).tr (dk_set (by decide) _ _ _)).tr (dk_ll hf first r _ _)
theorem dk_lst {f : aM → Int32 × aM} (hf : ∀ M, dk M (f M).2) (M : aM) : dk M (r_lst f M).2 := by
  unfold r_lst
  split
  · exact (dk_nx M).tr (dk_radd _ 5)
  · exact ((dk_radd M 4).tr (dk_nx _)).tr (dk_ll hf _ _ _ _)
theorem dk_rdD : ∀ (j : Nat) (M : aM), dk M (rdD j M).2
  | 0, M => by
    unfold rdD
    split
    · exact dk_num M
    split
    · exact dk_name M
    split
    · exact dk_str M
    · exact dk_flt M
  | j + 1, M => by
    unfold rdD
    split
    · exact dk_num M
    split
    · exact dk_name M
    split
    · exact dk_str M
    split
    · exact dk_lst (dk_rdD j) M
    split
    · exact dk_quo (dk_rdD j) M
    · exact dk_flt M
/-- the rows of tokens lie on the desk -/
def TT (V C : aM) : Prop := tx_ok V ∧ C 1 1 = V 1 1 ∧ C 2 = V 2 ∧ ∀ j, j < 401 → okT V j → tok_at V C j
theorem TT.of {V C D : aM} (h : TT V C) (hd : dk C D) : TT V D := by
  obtain ⟨h0, h1, h2, h3⟩ := h
  refine ⟨h0, by rw [hd.1 1 (by omega)]; exact h1, by rw [hd.1 2 (by omega)]; exact h2, fun j hj ho => ?_⟩
  have := h3 j hj ho
  unfold tok_at at this ⊢
  rw [hd.1 12 (by omega), hd.1 13 (by omega), hd.1 14 (by omega), hd.1 15 (by omega)]
  exact this
theorem TT.lt {V C : aM} {i : Nat} (h : TT V C) (ho : okT V i) : i < 401 ∧ i ≤ pos V i ∧ pos V i ≤ tl V ∧ tl V ≤ 400 := by
  obtain ⟨a, b⟩ := pos_le h.1 i ho
  have := h.1.2
  omega
theorem TT.read {V C : aM} {i : Nat} (h : TT V C) (hi : C 11 3 = nI i) (ho : okT V i) : tkS C = (if sc_e V (pos V i) = -1 then 11 else sc_k V (pos V i)) ∧ r_beg C = nI (sc_s V (pos V i)) ∧ r_end C = sc_e V (pos V i) := by
  have hl := (h.lt ho).1
  obtain ⟨a, b, c⟩ := tok_read hl (h.2.2.2 i hl ho)
  unfold tkS r_beg r_end
  rw [hi]
  exact ⟨a, b, c⟩
/-- the token after that -/
theorem TT.next {V C : aM} {i : Nat} (h : TT V C) (hi : C 11 3 = nI i) (ho : okT V (i + 1)) : tk C 13 11 (C 11 3 + 1) = (if sc_e V (pos V (i + 1)) = -1 then 11 else sc_k V (pos V (i + 1))) := by
  have hl := (h.lt ho).1
  rw [hi, nI_1]
  exact (tok_read hl (h.2.2.2 _ hl ho)).1
theorem okT.s {V : aM} {i : Nat} (h : okT V i) (h1 : ¬ sc_e V (pos V i) = -1) (h2 : ¬ sc_k V (pos V i) = 10) : okT V (i + 1) := fun j hj => by
  by_cases c : j = i
  · subst c; exact ⟨h1, h2⟩
  · exact h j (by omega)
theorem pos_s {V : aM} {i e : Nat} (h : sc_e V (pos V i) = nI e) (he : e ≤ 400) : pos V (i + 1) = e := by
  show cl (sc_e V (pos V i)) = e
  rw [h]
  exact nI_clamp (by omega)
theorem nx_c {C : aM} {i : Nat} (hi : C 11 3 = nI i) : r_nx C 11 3 = nI (i + 1) ∧ (∀ q, ¬ q = 11 → r_nx C q = C q) := by
  unfold r_nx
  refine ⟨?_, fun q hq => am_up_ne hq⟩
  rw [am_up_i, if_pos rfl, upd_eq, hi, nI_1]
end
section
/-! BEFORE AND AFTER A DATUM, on both sides -/
theorem tkx.rf (M : aM) : tkx M M := ⟨fun _ _ => rfl, fun _ _ _ => rfl⟩
theorem tkx.up {M N : aM} (h : tkx M N) (c j : Nat) (x : Int32) : tkx (am_up M c j x) (am_up N c j x) := by
  refine ⟨fun i hi => ?_, fun i h2 h3 => ?_⟩
  · rw [am_up_i, am_up_i]
    by_cases q : i = c
    · rw [if_pos q, if_pos q, ← q, h.1 i hi]
    · rw [if_neg q, if_neg q]; exact h.1 i hi
  · rw [am_up_ap, am_up_ap, h.2 i h2 h3]
theorem tkx.new {M N : aM} (h : tkx M N) (k : Int32) : tkx (m_new M k) (m_new N k) := by
  unfold m_new
  rw [(tkx_N h).1]
  exact ((((h.up _ _ _).up _ _ _).up _ _ _).up _ _ _).up _ _ _
/-- the begin of a datum, where it is no fault -/
def bgM (M : aM) : aM := if mO M = 0 then M else if M 29 (mO M - 1) < 2 then m_begP M (mO M - 1) (nI (mN M), m_new M 4) else M
def bgK (M : aM) : Prop := ¬ mO M = 0 → ¬ M 29 (mO M - 1) = 3 ∧ (M 29 (mO M - 1) < 2 → ¬ mN M = 200)
theorem beg_bg {M : aM} (h : bgK M) : m_beg M = bgM M := by
  unfold m_beg bgM
  by_cases c0 : mO M = 0
  · rw [if_pos c0, if_pos c0]
  obtain ⟨h3, h2⟩ := h c0
  rw [if_neg c0, if_neg c0, if_neg h3]
  by_cases c2 : M 29 (mO M - 1) < 2
  · rw [if_pos c2, if_pos c2, nd_s (h2 c2)]
  · rw [if_neg c2, if_neg c2]
theorem bg_tkx {M N : aM} (h : tkx M N) : tkx (bgM M) (bgM N) := by
  obtain ⟨a, b, c, d⟩ := tkx_N h
  unfold bgM
  rw [c, a, h.1 29 (by decide)]
  by_cases c0 : mO M = 0
  · rw [if_pos c0, if_pos c0]; exact h
  rw [if_neg c0, if_neg c0]
  by_cases c2 : M 29 (mO M - 1) < 2
  · rw [if_pos c2, if_pos c2]
    unfold m_begP
    rw [h.1 29 (by decide), h.1 28 (by decide)]
    split
    · exact (((h.new 4).up _ _ _).up _ _ _).up _ _ _
    · exact (((h.new 4).up _ _ _).up _ _ _).up _ _ _
  · rw [if_neg c2, if_neg c2]; exact h
theorem bgK_tkx {M N : aM} (h : tkx M N) (hk : bgK M) : bgK N := by
  obtain ⟨a, b, c, d⟩ := tkx_N h
  unfold bgK
  rw [c, a, h.1 29 (by decide)]
  exact hk
theorem bg_19 (M : aM) (j : Nat) (hj : ¬ j = 5) : bgM M 19 j = M 19 j := by
  unfold bgM m_begP
  split
  · rfl
  split
  · split <;> simp only [am_up_ap, m_new, hj, ↓reduceIte, Nat.reduceEqDiff]
  · rfl
theorem StN_tkx {C M N : aM} {n : Nat} (h : StN C M n) (hx : tkx M N) : StN C N n := by
  unfold StN at h ⊢
  rw [hx.2 5 (by decide) (by decide), hx.1 21 (by decide), hx.1 22 (by decide), hx.1 24 (by decide), hx.1 25 (by decide)]
  exact h
theorem StL_tkx {C M N : aM} {n lc : Nat} (h : StL C M n lc) (hx : tkx M N) : StL C N n lc := by
  unfold StL ltrs at h ⊢
  rw [hx.1 23 (by decide)]
  exact h
/-- before a datum: the desk stands at token i, the reference before it; the desk has made the pair that holds the datum, the reference makes it with the token -/
def DB (V C R : aM) (i n lc : Nat) : Prop := TT V C ∧ C 11 3 = nI i ∧ okT V i ∧ bdy R ∧ R 19 1 = V 1 1 ∧ R 20 = V 2 ∧ R 19 2 = nI (pos V i) ∧ bgK R ∧ StN C (bgM R) n ∧ StL C (bgM R) n lc ∧ lc ≤ 5 + pos V i
/-- after it: the desk stands at the datum's last token i, the reference behind it and before the end of datum m -/
def DA (V C R : aM) (i n lc m : Nat) : Prop := TT V C ∧ C 11 3 = nI i ∧ okT V (i + 1) ∧ R 19 4 < 0 ∧ ¬ R 19 3 < 0 ∧ SI true R ∧ bs_ok R ∧ mt_ok R ∧ tb_ok R ∧ at_ok R ∧ dt_ok R m ∧ R 19 1 = V 1 1 ∧ R 20 = V 2 ∧ R 19 2 = nI (pos V (i + 1)) ∧ StN C R n ∧ StL C R n lc ∧ lc ≤ 5 + pos V (i + 1)
/-- what a datum leaves alone in the reference -/
def DK (B R : aM) : Prop := mO R = mO B ∧ R 19 11 = B 19 11 ∧ R 26 = B 26 ∧ ∀ o, o < mO B → R 27 o = B 27 o ∧ R 28 o = B 28 o ∧ R 29 o = B 29 o
/-- the tokens at which a datum is read at all -/
def TKp (R : aM) (k : Int32) : Prop := (k = 10 → ¬ mO R = 0) ∧ (¬ mO R = 0 → R 29 (mO R - 1) < 2 → ¬ k = 7 ∧ (R 29 (mO R - 1) = 1 → ¬ k = 9))
/-- g, the desk's reading of a datum with o open, is what the reference does -/
def DD (V : aM) (g : aM → Int32 × aM) (o : Nat) : Prop := ∀ (Kf : aM → Prop) (C R : aM) (i n lc f : Nat), mO R = o → DB V C R i n lc → TKp R (tkS C) → m_tl R - pos V i < f → ((g C).1 = -1 → fltK Kf R) → (∀ (S : aM) (f' i' n' lc' m : Nat), (g C).1 = nI m → DA V (g C).2 S i' n' lc' m → DK (bgM R) S → frx R S → n < n' → m_tl R - pos V (i' + 1) < f' → m_rd Kf f' (m_end (o + 1) (nI m) S)) → m_rd Kf f R
theorem vw_sc {V R : aM} (h1 : R 19 1 = V 1 1) (h2 : R 20 = V 2) (p : Nat) : sc_s (vw R) p = sc_s V p ∧ sc_k (vw R) p = sc_k V p ∧ sc_e (vw R) p = sc_e V p := sc_same (V := vw R) (M := V) h1 h2 p
/-- a token, on both sides -/
theorem dd_cases {Kf : aM → Prop} {V C R : aM} {i n lc f : Nat} (h : DB V C R i n lc) (hT : TKp R (tkS C)) (hfu : m_tl R - pos V i < f) (hbad : tkS C = 10 ∨ tkS C = 11 → fltK Kf R)
    (hact : ∀ (N : aM) (e g : Nat), f = g + 1 → tkS C = sc_k V (pos V i) → r_beg C = nI (sc_s V (pos V i)) → r_end C = nI e → pos V i ≤ sc_s V (pos V i) → sc_s V (pos V i) < e → e ≤ m_tl R → pos V (i + 1) = e → okT V (i + 1) → sc_e V (pos V i) = nI e → tkx R N → N 19 2 = nI e → N 19 3 = nI (sc_s V (pos V i)) → bdy N → pl_ok N → TokK N (tkS C) → frx R (m_act N (tkS C)) → m_act N (tkS C) 19 2 = nI e → (0 ≤ m_act N (tkS C) 19 4 ∨ bdy (m_act N (tkS C))) → m_rd Kf g (m_act N (tkS C))) : m_rd Kf f R := by
  obtain ⟨d1, d2, d3, d4, d5, d6, d7, d8, d9, d10, d11⟩ := h
  obtain ⟨g, rfl⟩ : ∃ g, f = g + 1 := ⟨f - 1, by omega⟩
  obtain ⟨l1, l2, l3, l4⟩ := d1.lt d3
  obtain ⟨k1, k2, k3⟩ := d1.read d2 d3
  have hp : cl (R 19 2) = pos V i := by rw [d7]; exact nI_clamp (by omega)
  obtain ⟨v1, v2, v3⟩ := vw_sc d5 d6 (pos V i)
  have etl : m_tl R = tl V := by unfold m_tl tl; rw [d5]
  by_cases ce : sc_e V (pos V i) = -1
  · rw [if_pos ce] at k1
    exact rd_bad d4 (by rw [hp, v3]; exact ce) (hbad (Or.inr k1))
  rw [if_neg ce] at k1
  by_cases c10 : sc_k V (pos V i) = 10
  · rw [c10] at k1
    have hO := hT.1 k1
    exact rd_end d4 (by rw [hp, v3]; exact ce) (by rw [hp, v2]; exact c10) (fun _ => hbad (Or.inl k1)) (fun z => absurd z hO)
  refine rd_act d4 (by rw [hp, v3]; exact ce) (by rw [hp, v2]; exact c10) ?_
  rw [hp, v1, v2, v3, ← k1]
  intro N e h1 h2 h3 h4 h5 h6 h7 h8 h9 h10 h11 h12
  obtain ⟨e', q1, q2, q3, q4⟩ := sc_in d1.1 l3 ce c10
  exact hact N e g rfl k1 k2 (by rw [k3]; exact h1) q2 h2 h3 (pos_s h1 (by omega)) (d3.s ce c10) h1 h4 h5 h6 h7 h8 h9 h10 h11 h12
end
section
/-! A DATUM THAT STANDS BY ITSELF, on both sides -/
def atD (C : aM) (k : Int32) : Int32 × aM := if k = 1 then r_num C else if k = 2 then r_name C else r_str C
theorem at_all {V C B : aM} {s e N n lc : Nat} {k : Int32} (h : AtP C B s e N n lc) (hn : n < 200) (hV : tx_ok V) (hV2 : B 20 = V 2) (hVN : tl V = N) (hk : k = 1 ∨ k = 2 ∨ k = 3) (ha : at_kd B k) (ht : f_tend V s k = nI e) : AtQ C B (atD C k) k s e n lc := by
  have h' := h
  obtain ⟨h1, h2, h3, h4, h5, h6, h7, h8, h9, h10, hN, hL, hl⟩ := h'
  unfold atD
  rcases hk with rfl | rfl | rfl
  · rw [if_pos rfl]
    have e1 : f_tend V s 1 = f_num V s := by unfold f_tend; rw [if_pos rfl]
    rw [e1] at ht
    obtain ⟨a, b⟩ := num_tok hV (s := s) (e := e) (by omega) ht (by omega)
    rw [← hV2] at a b
    exact at_num h hn a b
  · rw [if_neg (by decide), if_pos rfl]
    refine at_name h hn ?_
    rcases ha with q | ⟨-, q⟩ | ⟨q, -⟩
    · exact absurd q (by decide)
    · rw [h10, h9] at q; exact q
    · exact absurd q (by decide)
  · rw [if_neg (by decide), if_neg (by decide)]
    have q : stE (B 20) N 21 (s + 1) = nI e := by
      rcases ha with q | ⟨q, -⟩ | ⟨-, q⟩
      · exact absurd q (by decide)
      · exact absurd q (by decide)
      · rw [h8, h9, h10] at q; exact q
    have := stE_gt (by omega) 21 (s + 1) h5 (by omega) (by omega) q
    exact at_str h hn q (by omega)
theorem at_200 {C : aM} {k : Int32} (hk : k = 1 ∨ k = 2 ∨ k = 3) (h : C 3 5 = nI 200) : (atD C k).1 = -1 := by
  unfold atD
  rcases hk with rfl | rfl | rfl
  · rw [if_pos rfl]; unfold r_num; rw [(add_200 h).2]
  · rw [if_neg (by decide), if_pos rfl]; unfold r_name; rw [(add_200 h).2]
  · rw [if_neg (by decide), if_neg (by decide)]; unfold r_str; rw [(add_200 h).2]
theorem dk_at (C : aM) (k : Int32) : dk C (atD C k).2 := by
  unfold atD
  split
  · exact dk_num C
  split
  · exact dk_name C
  · exact dk_str C
theorem atm_c {B : aM} {k : Int32} (hk : at_kd B k) : ∀ q, ¬ q = 19 → ¬ q = 21 → ¬ q = 22 → ¬ q = 23 → ¬ q = 24 → ¬ q = 25 → m_atmM B k q = B q := by
  intro q q1 q2 q3 q4 q5 q6
  have hc := (new_c B k).1 q q1 q2 q3 q5 q6
  have n22 : m_new B k 22 (mN B) = nI 0 := by
    rw [(new_c B k).2.2.2.2.1, upd_eq]
    rfl
  unfold m_atmM
  rcases hk with hk | ⟨hk, hk2⟩ | ⟨hk, hk2⟩
  · subst hk
    rw [if_pos rfl, am_up_ne q3]
    exact hc
  · subst hk
    rw [if_neg (by decide), if_pos rfl]
    rw [(A2_22 (B 20) (mN B) (m_e B - m_pl B) (m_pl B) 0 (m_new B 2) n22 (by omega)).1 q q3 q4]
    exact hc
  · subst hk
    rw [if_neg (by decide), if_neg (by decide)]
    rw [(A3_22 (B 20) (m_tl B) (mN B) 21 (m_pl B + 1) 0 (m_new B 3) n22 (by omega)).1 q q3 q4]
    exact hc
theorem atm_11 {B : aM} {k : Int32} (hk : at_kd B k) : m_atmM B k 19 11 = B 19 11 := by
  have hc := (new_c B k).2.1 11 (by decide)
  have n22 : m_new B k 22 (mN B) = nI 0 := by
    rw [(new_c B k).2.2.2.2.1, upd_eq]
    rfl
  unfold m_atmM
  rcases hk with hk | ⟨hk, hk2⟩ | ⟨hk, hk2⟩
  · subst hk
    rw [if_pos rfl, am_up_ne (by decide)]
    exact hc
  · subst hk
    rw [if_neg (by decide), if_pos rfl]
    rw [(A2_22 (B 20) (mN B) (m_e B - m_pl B) (m_pl B) 0 (m_new B 2) n22 (by omega)).1 19 (by decide) (by decide)]
    exact hc
  · subst hk
    rw [if_neg (by decide), if_neg (by decide)]
    rw [(A3_22 (B 20) (m_tl B) (mN B) 21 (m_pl B + 1) 0 (m_new B 3) n22 (by omega)).1 19 (by decide) (by decide)]
    exact hc
theorem DK_tkx {A B S : aM} (h : tkx A B) (hk : DK B S) : DK A S := by
  obtain ⟨a, b, c, d⟩ := tkx_N h
  unfold DK at hk ⊢
  rw [c, h.1 26 (by decide), h.1 27 (by decide), h.1 28 (by decide), h.1 29 (by decide), h.2 11 (by decide) (by decide)] at hk
  exact hk
theorem dd_at {Kf : aM → Prop} {V C R N : aM} {i n lc e g o : Nat} {k : Int32} (h : DB V C R i n lc) (hO : mO R = o) (hk : k = 1 ∨ k = 2 ∨ k = 3) (hfu : m_tl R - pos V i < g + 1)
    (hb : r_beg C = nI (sc_s V (pos V i))) (he : r_end C = nI e) (hps : pos V i ≤ sc_s V (pos V i)) (hse : sc_s V (pos V i) < e) (het : e ≤ m_tl R) (hpe : pos V (i + 1) = e) (ho1 : okT V (i + 1)) (hft : f_tend V (sc_s V (pos V i)) k = nI e)
    (hx : tkx R N) (n2 : N 19 2 = nI e) (n3 : N 19 3 = nI (sc_s V (pos V i))) (hbN : bdy N) (hpl : pl_ok N) (hat : at_kd N k)
    (hF : (atD C k).1 = -1 → fltK Kf R) (hC : ∀ (S : aM) (f' i' n' lc' m : Nat), (atD C k).1 = nI m → DA V (atD C k).2 S i' n' lc' m → DK (bgM R) S → frx R S → n < n' → m_tl R - pos V (i' + 1) < f' → m_rd Kf f' (m_end (o + 1) (nI m) S)) : m_rd Kf g (m_dat N k) := by
  obtain ⟨d1, d2, d3, d4, d5, d6, d7, d8, d9, d10, d11⟩ := h
  obtain ⟨l1, l2, l3, l4⟩ := d1.lt d3
  obtain ⟨b1, b2, b3, b4, b5, b6⟩ := hbN
  have etl : m_tl R = tl V := by unfold m_tl tl; rw [d5]
  obtain ⟨g, rfl⟩ : ∃ q, g = q + 1 := ⟨g - 1, by omega⟩
  have hp : ¬ N 19 3 < 0 := by rw [n3]; exact nI_pos (by omega)
  have hkN := bgK_tkx hx d8
  have hBx := bg_tkx hx
  have eB := beg_bg hkN
  have cf : m_beg N 19 4 < 0 := by rw [eB, bg_19 N 4 (by decide)]; exact b1
  obtain ⟨g1, g2, g3, g4, -⟩ := T_beg b2 b3 hp cf
  have hfB := frm_beg N
  unfold m_dat
  rw [if_pos cf]
  have sN := StN_tkx d9 hBx
  have sL := StL_tkx d10 hBx
  rw [← eB] at sN sL hBx
  generalize m_beg N = B at cf g1 g2 g3 g4 hfB sN sL hBx ⊢
  have hm := StN_mN sN
  have hn200 := sN.2.2.1
  have f1 := hfB.2 1 (Or.inl rfl)
  have f2 := hfB.2 2 (Or.inr (Or.inl rfl))
  have f3 := hfB.2 3 (Or.inr (Or.inr (Or.inl rfl)))
  have f20 := hfB.1 20 (Or.inr (Or.inl rfl))
  have eT : m_tl B = m_tl R := by rw [← (tkx_N hx).2.2.2]; unfold m_tl; rw [f1]
  have eT2 : m_tl B = m_tl N := by unfold m_tl; rw [f1]
  have eP : m_pl B = sc_s V (pos V i) := by unfold m_pl; rw [f3, n3]; exact nI_clamp (by omega)
  have eP2 : m_pl B = m_pl N := by unfold m_pl; rw [f3]
  have eE : m_e B = e := by unfold m_e; rw [f2, n2]; exact nI_clamp (by omega)
  have eE2 : m_e B = m_e N := by unfold m_e; rw [f2]
  have hkB : at_kd B k := by
    unfold at_kd
    rw [eE2, eP2, eT2, f20]
    exact hat
  have hpB : ¬ B 19 3 < 0 := by rw [f3]; exact hp
  by_cases c2 : n = 200
  · have ea : m_atom B k = (0, failM B (B 19 3)) := by unfold m_atom; rw [if_pos (by omega)]
    rw [ea]
    have z : 0 ≤ failM B (B 19 3) 19 4 := Int32.not_lt.mp (failM_ge hpB)
    rw [m_end_f z]
    have hbad := hF (at_200 hk (by rw [sN.1, c2]))
    exact rd_flt hbad ((hx.x.tr hfB.x).tr (frm_fail B _).x) z
  · have ea : m_atom B k = (nI (mN B), m_atmM B k) := by unfold m_atom; rw [if_neg (by omega)]
    have hfa := frm_atom B k
    rw [ea] at hfa ⊢
    obtain ⟨t1, t2, t3, t4, t5, t6, t7⟩ := T_atom g1 g2 (by omega) hkB (by omega)
    have hP : AtP C B (sc_s V (pos V i)) e (tl V) n lc := ⟨hb, he, hse, by omega, l4, by rw [d1.2.1]; exact d1.1.1, by rw [d1.2.2.1, f20, hx.1 20 (by decide), d6], by omega, eP, eE, sN, sL, by omega⟩
    obtain ⟨r1, ⟨lc', r2, r3, r4⟩, r5⟩ := at_all hP (by omega) d1.1 (by rw [f20, hx.1 20 (by decide), d6]) rfl hk hkB hft
    have hla : 0 < mO B → cl (B 28 (mO B - 1)) < mN B := fun z => (g1.2.1.all (k := mO B - 1) (by omega)).2.2.2.2.1
    have hdn := g1.2.2.1
    have a27 := atm_c hkB 27 (by decide) (by decide) (by decide) (by decide) (by decide) (by decide)
    have a29 := atm_c hkB 29 (by decide) (by decide) (by decide) (by decide) (by decide) (by decide)
    have a26 := atm_c hkB 26 (by decide) (by decide) (by decide) (by decide) (by decide) (by decide)
    have a11 := atm_11 hkB
    dsimp only at hfa ⊢
    generalize m_atmM B k = S at t1 t2 t3 t4 t5 t6 t7 r3 r4 hfa a27 a29 a26 a11 ⊢
    have hdt : dt_ok S n := ⟨by omega, fun _ => by rw [t5]; omega, fun z => by rw [t4] at z ⊢; rw [t6, ← hm]; exact hla z⟩
    have hfNS : frm N S := hfB.tr hfa
    obtain ⟨m1, m2, m3, m4, m5⟩ := frm_mt hfNS b4 b5 b6
    rw [hm, (tkx_N hx).2.2.1, hO]
    refine hC S (g + 1) i (n + 1) lc' n r1 ?_ (DK_tkx hBx ⟨t4, a11, a26, fun q _ => by rw [a27, t6, a29]; exact ⟨rfl, rfl, rfl⟩⟩) (hx.x.tr hfNS.x) (by omega) (by omega)
    refine ⟨d1.of (dk_at C k), by rw [r5 11 (by decide) (by decide) (by decide) (by decide) (by decide) (by decide) (by decide)]; exact d2, ho1, by rw [t7]; exact cf, ?_, t1, t2, m1, m2, m3, hdt, ?_, ?_, ?_, r3, r4, by omega⟩
    · rw [hfNS.2 3 (Or.inr (Or.inr (Or.inl rfl)))]; exact hp
    · rw [hfNS.2 1 (Or.inl rfl), hx.2 1 (by decide) (by decide)]; exact d5
    · rw [hfNS.1 20 (Or.inr (Or.inl rfl)), hx.1 20 (by decide)]; exact d6
    · rw [hfNS.2 2 (Or.inr (Or.inl rfl)), n2, hpe]
end
section
/-! ANY DATUM, but for lists and quotes -/
theorem top_st {M : aM} {o : Nat} (h : SI false M) (ho : mO M = o + 1) : M 29 o = 0 ∨ M 29 o = 1 ∨ M 29 o = 2 ∨ M 29 o = 3 ∨ M 29 o = 4 := by
  rcases h.2.1 o (by omega) with ⟨a, -, -⟩ | ⟨a, -⟩
  · exact Or.inl a
  · rcases a with a | a | a | ⟨a, -, -⟩
    · exact Or.inr (Or.inl a)
    · exact Or.inr (Or.inr (Or.inl a))
    · exact Or.inr (Or.inr (Or.inr (Or.inr a)))
    · exact Or.inr (Or.inr (Or.inr (Or.inl a)))
theorem TKp_tkx {M N : aM} {k : Int32} (h : tkx M N) (hk : TKp M k) : TKp N k := by
  obtain ⟨a, b, c, d⟩ := tkx_N h
  unfold TKp
  rw [c, h.1 29 (by decide)]
  exact hk
/-- a bracket's end or a point, where a datum is due -/
theorem dd_no {N : aM} {k : Int32} (hS : SI false N) (hp : ¬ N 19 3 < 0) (hK : bgK N) (hT : TKp N k) (hk : k = 7 ∨ k = 9) : 0 ≤ m_act N k 19 4 := by
  have z : 0 ≤ failM N (N 19 3) 19 4 := Int32.not_lt.mp (failM_ge hp)
  have hst : mO N = 0 ∨ ∃ o, mO N = o + 1 := by
    cases q : mO N with
    | zero => exact Or.inl rfl
    | succ o => exact Or.inr ⟨o, rfl⟩
  unfold m_act
  rcases hk with rfl | rfl
  · rw [if_neg (by decide), if_neg (by decide), if_pos rfl]
    have hno : cl_no N = true := by
      unfold cl_no
      rcases hst with q | ⟨o, ho⟩
      · simp [q]
      · have h1 : mO N - 1 = o := by omega
        have h2 := hK (by omega)
        have h3 := hT.2 (by omega)
        rw [h1] at h2 h3 ⊢
        rcases top_st hS ho with q | q | q | q | q
        · exact absurd rfl (h3 (by rw [q]; decide)).1
        · exact absurd rfl (h3 (by rw [q]; decide)).1
        · simp [q]
        · exact absurd q h2.1
        · simp [q]
    unfold m_close
    rw [if_pos hno]
    exact z
  · rw [if_neg (by decide), if_neg (by decide), if_neg (by decide), if_pos rfl]
    unfold m_pt
    rcases hst with q | ⟨o, ho⟩
    · rw [if_pos q]; exact z
    · have h3 := hT.2 (by omega)
      rw [if_neg (by omega)]
      have h1 : mO N - 1 = o := by omega
      rw [h1] at h3 ⊢
      by_cases c : N 29 o = 1
      · exact absurd rfl ((h3 (by rw [c]; decide)).2 c)
      · rw [if_neg c]; exact z
/-- no more than 15 may be open -/
theorem dd_15 {N : aM} {k : Int32} (hp : ¬ N 19 3 < 0) (hO : mO N = 15) (hk : k = 6 ∨ k = 8) : 0 ≤ m_act N k 19 4 := by
  have hpB : ¬ m_beg N 19 3 < 0 := by rw [beg_19 N 3 (by decide) (by decide)]; exact hp
  have z : ¬ m_opA N 19 4 < 0 := by
    unfold m_opA
    rw [if_pos hO]
    exact failM_ge hpB
  have e : ∀ q, m_open q N = m_opA N := fun q => by unfold m_open; rw [if_neg z]
  unfold m_act
  rcases hk with rfl | rfl
  · rw [if_pos rfl, e]; exact Int32.not_lt.mp z
  · rw [if_neg (by decide), if_pos rfl, e]; exact Int32.not_lt.mp z
theorem rdD_at {C : aM} (j : Nat) (hk : tkS C = 1 ∨ tkS C = 2 ∨ tkS C = 3) : rdD j C = atD C (tkS C) := by
  unfold atD
  cases j with
  | zero => unfold rdD; rcases hk with q | q | q <;> rw [q] <;> rfl
  | succ j => unfold rdD; rcases hk with q | q | q <;> rw [q] <;> rfl
theorem rdD_no {C : aM} (j : Nat) (hk : tkS C = 7 ∨ tkS C = 9 ∨ tkS C = 10 ∨ tkS C = 11) : (rdD j C).1 = -1 := by
  cases j with
  | zero => unfold rdD; rcases hk with q | q | q | q <;> rw [q] <;> rfl
  | succ j => unfold rdD; rcases hk with q | q | q | q <;> rw [q] <;> rfl
theorem rdD_z {C : aM} (hk : tkS C = 6 ∨ tkS C = 8) : (rdD 0 C).1 = -1 := by
  unfold rdD; rcases hk with q | q <;> rw [q] <;> rfl
theorem dd_gen {V : aM} {j o : Nat} (H : ∀ (Kf : aM → Prop) (C R N : aM) (i n lc e g : Nat) (k : Int32), k = 6 ∨ k = 8 → tkS C = k → mO R = o → DB V C R i n lc → m_tl R - pos V i < g + 1 → pos V i < e → e ≤ m_tl R → pos V (i + 1) = e → okT V (i + 1) → tkx R N → N 19 2 = nI e → ¬ N 19 3 < 0 → bdy N → frx R (m_act N k) → m_act N k 19 2 = nI e → (0 ≤ m_act N k 19 4 ∨ bdy (m_act N k)) → ((rdD j C).1 = -1 → fltK Kf R) → (∀ (S : aM) (f' i' n' lc' m : Nat), (rdD j C).1 = nI m → DA V (rdD j C).2 S i' n' lc' m → DK (bgM R) S → frx R S → n < n' → m_tl R - pos V (i' + 1) < f' → m_rd Kf f' (m_end (o + 1) (nI m) S)) → m_rd Kf g (m_act N k)) : DD V (rdD j) o := by
  intro Kf C R i n lc f hO h hT hfu hF hC
  refine dd_cases h hT hfu (fun z => hF (rdD_no j (by rcases z with z | z; exact Or.inr (Or.inr (Or.inl z)); exact Or.inr (Or.inr (Or.inr z))))) ?_
  intro N e g hg k1 hb he hps hse het hpe ho1 hsc hx n2 n3 hbN hpl htk hfr ha2 hab
  subst hg
  have hl4 := h.1.1.2
  have etl : m_tl R = tl V := by unfold m_tl tl; rw [h.2.2.2.2.1]
  have hp : ¬ N 19 3 < 0 := by rw [n3]; exact nI_pos (by omega)
  have hno : (rdD j C).1 = -1 → 0 ≤ m_act N (tkS C) 19 4 → m_rd Kf g (m_act N (tkS C)) := fun z1 z2 => by
    obtain ⟨g, rfl⟩ : ∃ q, g = q + 1 := ⟨g - 1, by omega⟩
    exact rd_flt (hF z1) hfr z2
  have hkN := bgK_tkx hx h.2.2.2.2.2.2.2.1
  have hTN := TKp_tkx hx hT
  rcases htk with q | q | q | q | ⟨q, qa⟩
  · have := H Kf C R N i n lc e g (tkS C) (Or.inl q) rfl hO h hfu (by omega) het hpe ho1 hx n2 hp hbN hfr ha2 hab hF hC
    exact this
  · exact hno (rdD_no j (Or.inl q)) (dd_no hbN.2.1 hp hkN hTN (Or.inl q))
  · have := H Kf C R N i n lc e g (tkS C) (Or.inr q) rfl hO h hfu (by omega) het hpe ho1 hx n2 hp hbN hfr ha2 hab hF hC
    exact this
  · exact hno (rdD_no j (Or.inr (Or.inl q))) (dd_no hbN.2.1 hp hkN hTN (Or.inr q))
  · rw [rdD_at j q] at hF hC
    have ea : m_act N (tkS C) = m_dat N (tkS C) := by
      unfold m_act
      rw [if_neg (by rcases q with q | q | q <;> rw [q] <;> decide), if_neg (by rcases q with q | q | q <;> rw [q] <;> decide), if_neg (by rcases q with q | q | q <;> rw [q] <;> decide), if_neg (by rcases q with q | q | q <;> rw [q] <;> decide)]
    rw [ea]
    have hft : f_tend V (sc_s V (pos V i)) (tkS C) = nI e := by unfold sc_e at hsc; rw [k1]; exact hsc
    exact dd_at h hO q hfu hb he hps hse het hpe ho1 hft hx n2 n3 hbN hpl qa hF hC
theorem D_0 (V : aM) : DD V (rdD 0) 15 := by
  apply dd_gen
  intro Kf C R N i n lc e g k hk htk hO h hfu hpe1 het hpe ho1 hx n2 hp hbN hfr ha2 hab hF hC
  obtain ⟨g, rfl⟩ : ∃ q, g = q + 1 := ⟨g - 1, by omega⟩
  refine rd_flt (hF (rdD_z (by rw [htk]; exact hk))) hfr (dd_15 hp ?_ hk)
  rw [(tkx_N hx).2.2.1, hO]
end
section
/-! A QUOTE'S THREE NODES, on both sides -/
theorem qL_23 (x : Nat) : ∀ (f k : Nat) (M : aM), M 22 x = nI k → k + f ≤ 20 → (∀ j, k ≤ j → j < k + f → mqL x f k M 23 (20 * x + j) = QF j) ∧ (∀ y, y < 20 * x + k ∨ 20 * x + 20 ≤ y → mqL x f k M 23 y = M 23 y)
  | 0, k, M, _, _ => ⟨fun j h1 h2 => by omega, fun _ _ => rfl⟩
  | f + 1, k, M, hv, hf => by
    have ec : cl (M 22 x) = k := by rw [hv]; exact nI_clamp (by omega)
    have hv2 : m_let M x (QF k) 22 x = nI (k + 1) := by rw [m_let_22, ec]
    have h23 : ∀ y, m_let M x (QF k) 23 y = if y = 20 * x + k then QF k else M 23 y := fun y => by
      unfold m_let
      rw [ec]
      simp only [am_up_ap, ↓reduceIte, Nat.reduceEqDiff]
    obtain ⟨a, b⟩ := qL_23 x f (k + 1) (m_let M x (QF k)) hv2 (by omega)
    unfold mqL
    refine ⟨fun j h1 h2 => ?_, fun y hy => ?_⟩
    · by_cases c : j = k
      · subst c
        rw [b _ (Or.inl (by omega)), h23, if_pos rfl]
      · exact a j (by omega) (by omega)
    · rw [b y (by omega), h23, if_neg (by omega)]
theorem StN_ref {C R S : aM} {n : Nat} (h : StN C R n) (h5 : S 19 5 = R 19 5) (h21 : S 21 = R 21) (h22 : S 22 = R 22) (h24 : S 24 = R 24) (h25 : S 25 = R 25) : StN C S n := by
  unfold StN at h ⊢
  rw [h5, h21, h22, h24, h25]
  exact h
theorem StL_ref {C R S : aM} {n lc : Nat} (h : StL C R n lc) (h23 : S 23 = R 23) : StL C S n lc := by
  unfold StL ltrs at h ⊢
  rw [h23]
  exact h
def Q3 (C : aM) (n : Nat) : aM := n_newM (n_newM (n_newM C n 4) (n + 1) 2) (n + 2) 4
/-- the name "quote", on both sides -/
theorem quo_name {E T : aM} {n lc x : Nat} (hN : StN E T n) (hL : StL E T n lc) (hx : x < n) (h22 : T 22 x = nI 0) : StN (am_up (am_up E 6 x 0) 5 x 5) (mqL x 5 0 T) n ∧ StL (am_up (am_up E 6 x 0) 5 x 5) (mqL x 5 0 T) n lc := by
  obtain ⟨q1, q2, q3⟩ := qL_22 x 5 0 0 T h22 (by omega)
  obtain ⟨q4, q5⟩ := qL_23 x 5 0 T h22 (by omega)
  obtain ⟨a1, a2, a3, a4⟩ := hN
  obtain ⟨l1, l2, l3, l4, l5⟩ := hL
  generalize mqL x 5 0 T = U at q1 q2 q3 q4 q5 ⊢
  have e5 : ∀ y, am_up (am_up E 6 x 0) 5 x 5 5 y = if y = x then 5 else E 5 y := fun y => by simp only [am_up_ap, ↓reduceIte, Nat.reduceEqDiff]
  have e6 : ∀ y, am_up (am_up E 6 x 0) 5 x 5 6 y = if y = x then 0 else E 6 y := fun y => by simp only [am_up_ap, ↓reduceIte, Nat.reduceEqDiff]
  have eo : ∀ q, ¬ q = 5 → ¬ q = 6 → am_up (am_up E 6 x 0) 5 x 5 q = E q := fun q h1 h2 => by rw [am_up_ne h1, am_up_ne h2]
  generalize am_up (am_up E 6 x 0) 5 x 5 = F at e5 e6 eo ⊢
  refine ⟨⟨by rw [eo 3 (by decide) (by decide)]; exact a1, by rw [q1 19 (by decide) (by decide)]; exact a2, a3, fun y hy => ?_⟩, by rw [eo 3 (by decide) (by decide)]; exact l1, l2, l3, by rw [eo 10 (by decide) (by decide)]; exact l4, fun y hy hk => ?_⟩
  · obtain ⟨b1, b2, b3, b4⟩ := a4 y hy
    refine ⟨by rw [eo 4 (by decide) (by decide), q1 21 (by decide) (by decide)]; exact b1, ?_, by rw [eo 7 (by decide) (by decide), q1 24 (by decide) (by decide)]; exact b3, by rw [eo 8 (by decide) (by decide), q1 25 (by decide) (by decide)]; exact b4⟩
    rw [e5]
    by_cases c : y = x
    · rw [if_pos c, c, q3]; rfl
    · rw [if_neg c, q2 y c]; exact b2
  · by_cases c : y = x
    · refine ⟨0, 5, by rw [e6, if_pos c]; rfl, by rw [e5, if_pos c]; rfl, by omega, by omega, fun k hk5 => ?_⟩
      rw [eo 10 (by decide) (by decide), Nat.zero_add, l4 k hk5, c, q4 k (by omega) (by omega)]
    · rw [eo 4 (by decide) (by decide)] at hk
      obtain ⟨s, a, p1, p2, p3, p4, p5⟩ := l5 y hy hk
      refine ⟨s, a, by rw [e6, if_neg c]; exact p1, by rw [e5, if_neg c]; exact p2, p3, p4, fun k hka => ?_⟩
      rw [eo 10 (by decide) (by decide), q5 _ (by omega)]
      exact p5 k hka
theorem quo_open {C B : aM} {n lc o : Nat} (hN : StN C B n) (hL : StL C B n lc) (hn : n + 3 ≤ 200) : StN (am_up (am_up (am_up (am_up (Q3 C n) 6 (n + 1) 0) 5 (n + 1) 5) 7 n (nI (n + 1))) 8 n (nI (n + 2))) (m_opL n o (mqL (n + 1) 5 0 (m_new (m_new (m_new B 4) 2) 4))) (n + 3) ∧ StL (am_up (am_up (am_up (am_up (Q3 C n) 6 (n + 1) 0) 5 (n + 1) 5) 7 n (nI (n + 1))) 8 n (nI (n + 2))) (m_opL n o (mqL (n + 1) 5 0 (m_new (m_new (m_new B 4) 2) 4))) (n + 3) lc := by
  have s1 := StN_new 4 hN (by omega)
  have t1 := StL_new 4 hN hL (by omega)
  have s2 := StN_new 2 s1 (by omega)
  have t2 := StL_new 2 s1 t1 (by omega)
  have s3 := StN_new 4 s2 (by omega)
  have t3 := StL_new 4 s2 t2 (by omega)
  have hm := StN_mN hN
  have hc : mc_ok B := ⟨by rw [hm]; exact hN.2.1, by omega⟩
  obtain ⟨-, -, -, -, n5, -, -⟩ := new3 hc (by omega)
  have v0 : m_new (m_new (m_new B 4) 2) 4 22 (n + 1) = nI 0 := by
    rw [n5, hm, upd_lt _ _ (by omega), upd_eq]
    rfl
  unfold Q3
  generalize n_newM (n_newM (n_newM C n 4) (n + 1) 2) (n + 2) 4 = E at s3 t3 ⊢
  generalize m_new (m_new (m_new B 4) 2) 4 = T at s3 t3 v0 ⊢
  obtain ⟨u1, u2⟩ := quo_name (x := n + 1) s3 t3 (by omega) v0
  generalize am_up (am_up E 6 (n + 1) 0) 5 (n + 1) 5 = F at u1 u2 ⊢
  generalize mqL (n + 1) 5 0 T = U at u1 u2 ⊢
  unfold m_opL
  have w1 := StN_tail (l := n) (v := nI (n + 2)) (StN_head (l := n) (v := nI (n + 1)) u1)
  refine ⟨StN_ref w1 (by rw [am_up_ne (by decide), am_up_ne (by decide)]) (by rw [am_up_ne (by decide), am_up_ne (by decide)]) (by rw [am_up_ne (by decide), am_up_ne (by decide)]) (by rw [am_up_ne (by decide), am_up_ne (by decide)]) (by rw [am_up_ne (by decide), am_up_ne (by decide)]), ?_⟩
  refine StL_of u2 ?_ ?_ ?_ ?_ ?_ ?_
  · rw [am_up_ne (by decide), am_up_ne (by decide)]
  · rw [am_up_ne (by decide), am_up_ne (by decide)]
  · rw [am_up_ne (by decide), am_up_ne (by decide)]
  · rw [am_up_ne (by decide), am_up_ne (by decide)]
  · rw [am_up_ne (by decide), am_up_ne (by decide)]
  · rw [am_up_ne (by decide), am_up_ne (by decide), am_up_ne (by decide), am_up_ne (by decide)]
/-- the desk's three adds -/
theorem flt_c (C : aM) : ∀ q, ¬ q = 11 → r_fltM C q = C q := fun q h => by unfold r_fltM; rw [am_up_ne h]
theorem quo_add {C : aM} {n : Nat} (h : C 3 5 = nI n) (hn : n + 3 ≤ 200) : r_add C 4 = (nI n, n_newM C n 4) ∧ r_add (r_add C 4).2 2 = (nI (n + 1), n_newM (n_newM C n 4) (n + 1) 2) ∧ r_add (r_add (r_add C 4).2 2).2 4 = (nI (n + 2), Q3 C n) := by
  have e1 := (add_lt (k := 4) h (by omega)).2
  have c1 := (newM_c C n 4).2.2.1
  have e2 := (add_lt (k := 2) c1 (by omega)).2
  have c2 := (newM_c (n_newM C n 4) (n + 1) 2).2.2.1
  have e3 := (add_lt (k := 4) c2 (by omega)).2
  rw [e1]
  refine ⟨rfl, e2, ?_⟩
  dsimp only
  rw [e2]
  exact e3
theorem quo_full {C : aM} {n : Nat} (h : C 3 5 = nI n) (h2 : n ≤ 200) (hn : ¬ n + 3 ≤ 200) : (r_add (r_add (r_add C 4).2 2).2 4).1 = -1 := by
  have key : ∀ (A : aM) (a : Nat) (k : Int32), A 3 5 = nI a → a ≤ 200 → ∃ b, (r_add A k).2 3 5 = nI b ∧ b ≤ 200 ∧ (b = a + 1 ∨ b = 200) := by
    intro A a k hA ha
    by_cases c : a = 200
    · subst c
      refine ⟨200, ?_, by omega, Or.inr rfl⟩
      rw [(add_200 hA).2]
      dsimp only
      rw [flt_c A 3 (by decide)]
      exact hA
    · refine ⟨a + 1, ?_, by omega, Or.inl rfl⟩
      rw [(add_lt hA (by omega)).2]
      exact (newM_c A a k).2.2.1
  obtain ⟨b, b1, b2, b3⟩ := key C n 4 h h2
  obtain ⟨d, d1, d2, d3⟩ := key _ b 2 b1 b2
  have : d = 200 := by omega
  rw [this] at d1
  rw [(add_200 d1).2]
end
section
/-! A QUOTE'S BEGIN, on both sides -/
theorem quo_M {C B : aM} {n lc : Nat} (hN : StN C B n) (hL : StL C B n lc) (hn : n + 3 ≤ 200) : q_M (nI n) (nI (n + 1)) (nI (n + 2)) (Q3 C n) = r_nx (am_up (am_up (am_up (am_up (Q3 C n) 6 (n + 1) 0) 5 (n + 1) 5) 7 n (nI (n + 1))) 8 n (nI (n + 2))) := by
  have s1 := StN_new 4 hN (by omega)
  have t1 := StL_new 4 hN hL (by omega)
  have s2 := StN_new 2 s1 (by omega)
  have t2 := StL_new 2 s1 t1 (by omega)
  have s3 := StN_new 4 s2 (by omega)
  have t3 := StL_new 4 s2 t2 (by omega)
  have hm := StN_mN hN
  have hc : mc_ok B := ⟨by rw [hm]; exact hN.2.1, by omega⟩
  obtain ⟨-, -, -, -, n5, -, -⟩ := new3 hc (by omega)
  have v0 : m_new (m_new (m_new B 4) 2) 4 22 (n + 1) = nI 0 := by
    rw [n5, hm, upd_lt _ _ (by omega), upd_eq]
    rfl
  unfold Q3
  generalize n_newM (n_newM (n_newM C n 4) (n + 1) 2) (n + 2) 4 = E at s3 t3 ⊢
  generalize m_new (m_new (m_new B 4) 2) 4 = T at s3 t3 v0
  obtain ⟨u1, u2⟩ := quo_name (x := n + 1) s3 t3 (by omega) v0
  unfold q_M nqM
  rw [if_pos (StN_has s3 (by omega)), show cl (nI (n + 1)) = n + 1 from nI_clamp (by omega), set_lt u1 (by omega), set_lt (StN_head u1) (by omega)]
theorem opP_c (q : Bool) (o : Nat) (B : aM) : (∀ i, ¬ i = 19 → ¬ i = 29 → m_opP q o B i = B i) ∧ (∀ j, ¬ j = 13 → m_opP q o B 19 j = B 19 j) ∧ m_opP q o B 19 13 = nI (o + 1) ∧ m_opP q o B 29 = upd (B 29) o (if q = true then 4 else 0) := by
  unfold m_opP
  refine ⟨fun i h1 h2 => by rw [am_up_ne h1, am_up_ne h2], fun j hj => ?_, ?_, ?_⟩
  · simp only [am_up_ap, hj, ↓reduceIte, Nat.reduceEqDiff]
  · simp only [am_up_ap, ↓reduceIte]
  · simp only [am_up_i, ↓reduceIte, Nat.reduceEqDiff]
theorem opA_B {N : aM} (hO : ¬ mO N = 15) : m_opA N = m_beg N := by unfold m_opA; rw [if_neg hO]
theorem q3_eq {P : aM} (hc : mc_ok P) (hn : mN P + 3 ≤ 200) : m_q3 P = m_new (m_new (m_new P 4) 2) 4 := by
  have n1 := mN_new (k := 4) hc
  have hb1 : mc_ok (m_new P 4) := by have := mc_nd (k := 4) hc; rw [nd_s (by omega)] at this; exact this
  have n2 := mN_new (k := 2) hb1
  unfold m_q3
  rw [nd_s (M := P) (by omega)]
  dsimp only
  rw [nd_s (M := m_new P 4) (by omega)]
  dsimp only
  rw [nd_s (M := m_new (m_new P 4) 2) (by omega)]
theorem open_q {N B : aM} {n o : Nat} (hB : m_beg N = B) (hO : mO N = o) (ho : o < 15) (h4 : B 19 4 < 0) (hc : mc_ok B) (hm : mN B = n) (hn : n + 3 ≤ 200) : m_open true N = m_opL n o (mqL (n + 1) 5 0 (m_new (m_new (m_new (m_opP true o B) 4) 2) 4)) ∧ m_open true N 19 4 = B 19 4 := by
  have eA : m_opA N = B := by rw [opA_B (by omega), hB]
  obtain ⟨p1, p2, p3, p4⟩ := opP_c true o B
  have e1 : m_open true N = m_opQ o (m_opP true o B) := by
    unfold m_open
    rw [eA, if_pos h4, if_pos rfl, hO]
  rw [e1]
  generalize m_opP true o B = P at p1 p2 p3 p4 ⊢
  have eN : mN P = n := by rw [← hm]; unfold mN; rw [p2 5 (by decide)]
  have hcP : mc_ok P := ⟨by rw [eN, p2 5 (by decide), hc.1, hm], by omega⟩
  have e3 := q3_eq hcP (by omega)
  have e4 : m_new (m_new (m_new P 4) 2) 4 19 4 = B 19 4 := by rw [(new3 hcP (by omega)).2.1 4 (by decide), p2 4 (by decide)]
  have v0 : m_new (m_new (m_new P 4) 2) 4 22 (n + 1) = nI 0 := by
    rw [(new3 hcP (by omega)).2.2.2.2.1, eN, upd_lt _ _ (by omega), upd_eq]
    rfl
  unfold m_opQ
  rw [e3, e4, if_pos h4, eN]
  refine ⟨rfl, ?_⟩
  generalize m_new (m_new (m_new P 4) 2) 4 = T at e4 v0 ⊢
  unfold m_opL
  rw [am_up_ne (by decide), am_up_ne (by decide), am_up_ne (by decide), am_up_ne (by decide), (qL_22 (n + 1) 5 0 0 T v0 (by omega)).1 19 (by decide) (by decide)]
  exact e4
theorem open_qf {N B : aM} {n o : Nat} (hB : m_beg N = B) (hO : mO N = o) (ho : o < 15) (h4 : B 19 4 < 0) (hc : mc_ok B) (hm : mN B = n) (hp : ¬ B 19 3 < 0) (hn : ¬ n + 3 ≤ 200) : 0 ≤ m_open true N 19 4 := by
  have eA : m_opA N = B := by rw [opA_B (by omega), hB]
  obtain ⟨p1, p2, p3, p4⟩ := opP_c true o B
  have e1 : m_open true N = m_opQ o (m_opP true o B) := by
    unfold m_open
    rw [eA, if_pos h4, if_pos rfl, hO]
  rw [e1]
  generalize m_opP true o B = P at p1 p2 p3 p4 ⊢
  have eN : mN P = n := by rw [← hm]; unfold mN; rw [p2 5 (by decide)]
  have hcP : mc_ok P := ⟨by rw [eN, p2 5 (by decide), hc.1, hm], by rw [eN, ← hm]; exact hc.2⟩
  have hz : ¬ m_q3 P 19 4 < 0 := fun z => by
    have := (nd_3 hcP (by rw [p2 3 (by decide)]; exact hp) z).1
    omega
  unfold m_opQ
  rw [if_neg hz]
  exact Int32.not_lt.mp hz
theorem rdD_8 {C : aM} (j : Nat) (hk : tkS C = 8) : rdD (j + 1) C = r_quo (rdD j) C := by
  rw [rdD, hk]
  rw [if_neg (by decide), if_neg (by decide), if_neg (by decide), if_neg (by decide), if_pos rfl]
theorem rdD_6 {C : aM} (j : Nat) (hk : tkS C = 6) : rdD (j + 1) C = r_lst (rdD j) C := by
  rw [rdD, hk]
  rw [if_neg (by decide), if_neg (by decide), if_neg (by decide), if_pos rfl]
end
section
/-! A QUOTE, on both sides -/
theorem opq_c {B S : aM} {n o : Nat} (hc : mc_ok B) (hm : mN B = n) (hn : n + 3 ≤ 200) (hS : S = m_opL n o (mqL (n + 1) 5 0 (m_new (m_new (m_new (m_opP true o B) 4) 2) 4))) : S 27 = upd (B 27) o (nI n) ∧ S 28 = upd (B 28) o (nI (n + 2)) ∧ S 29 = upd (B 29) o 4 ∧ S 26 = B 26 ∧ S 19 13 = nI (o + 1) ∧ S 19 11 = B 19 11 := by
  obtain ⟨p1, p2, p3, p4⟩ := opP_c true o B
  generalize m_opP true o B = P at p1 p2 p3 p4 hS
  have eN : mN P = n := by rw [← hm]; unfold mN; rw [p2 5 (by decide)]
  have hcP : mc_ok P := ⟨by rw [eN, p2 5 (by decide), hc.1, hm], by omega⟩
  obtain ⟨n1, n2, n3, n4, n5, n6, n7⟩ := new3 hcP (by omega)
  have v0 : m_new (m_new (m_new P 4) 2) 4 22 (n + 1) = nI 0 := by
    rw [n5, eN, upd_lt _ _ (by omega), upd_eq]
    rfl
  generalize m_new (m_new (m_new P 4) 2) 4 = T at n1 n2 n3 n4 n5 n6 n7 v0 hS
  obtain ⟨q1, -, -⟩ := qL_22 (n + 1) 5 0 0 T v0 (by omega)
  generalize mqL (n + 1) 5 0 T = U at q1 hS
  have k : ∀ i, ¬ i = 19 → ¬ i = 21 → ¬ i = 22 → ¬ i = 23 → ¬ i = 24 → ¬ i = 25 → ¬ i = 29 → U i = B i := fun i a b c d e f g => by rw [q1 i c d, n1 i a b c e f, p1 i a g]
  have k29 : U 29 = upd (B 29) o 4 := by rw [q1 29 (by decide) (by decide), n1 29 (by decide) (by decide) (by decide) (by decide) (by decide), p4, if_pos rfl]
  have k19 : ∀ j, ¬ j = 5 → U 19 j = P 19 j := fun j hj => by rw [q1 19 (by decide) (by decide), n2 j hj]
  subst hS
  unfold m_opL
  refine ⟨?_, ?_, ?_, ?_, ?_, ?_⟩
  · simp only [am_up_i, ↓reduceIte, Nat.reduceEqDiff]
    rw [k 27 (by decide) (by decide) (by decide) (by decide) (by decide) (by decide) (by decide)]
  · simp only [am_up_i, ↓reduceIte, Nat.reduceEqDiff]
    rw [k 28 (by decide) (by decide) (by decide) (by decide) (by decide) (by decide) (by decide)]
  · simp only [am_up_i, ↓reduceIte, Nat.reduceEqDiff]
    exact k29
  · simp only [am_up_i, ↓reduceIte, Nat.reduceEqDiff]
    rw [k 26 (by decide) (by decide) (by decide) (by decide) (by decide) (by decide) (by decide)]
  · simp only [am_up_i, ↓reduceIte, Nat.reduceEqDiff]
    rw [k19 13 (by decide), p3]
  · simp only [am_up_i, ↓reduceIte, Nat.reduceEqDiff]
    rw [k19 11 (by decide), p2 11 (by decide)]
/-- a quote's end: the last node, head and tail -/
theorem endq_st {C S : aM} {n lc x o m : Nat} (hN : StN C S n) (hL : StL C S n lc) (hn : n < 200) (ho : mO S - 1 = o) (h28 : cl (S 28 o) = x) (hx : x < n) : n_set 8 (r_add (n_set 7 C (nI x) (nI m)) 5).2 (nI x) (r_add (n_set 7 C (nI x) (nI m)) 5).1 = am_up (n_newM (am_up C 7 x (nI m)) n 5) 8 x (nI n) ∧ (r_add (n_set 7 C (nI x) (nI m)) 5).1 = nI n ∧ StN (am_up (n_newM (am_up C 7 x (nI m)) n 5) 8 x (nI n)) (m_endQ S (nI m)) (n + 1) ∧ StL (am_up (n_newM (am_up C 7 x (nI m)) n 5) 8 x (nI n)) (m_endQ S (nI m)) (n + 1) lc := by
  have hm := StN_mN hN
  have s1 := StN_head (l := x) (v := nI m) hN
  have t1 : StL (am_up C 7 x (nI m)) (am_up S 24 x (nI m)) n lc := StL_of hL (by rw [am_up_ne (by decide)]) (by rw [am_up_ne (by decide)]) (by rw [am_up_ne (by decide)]) (by rw [am_up_ne (by decide)]) (by rw [am_up_ne (by decide)]) (by rw [am_up_ne (by decide)])
  have s2 := StN_new 5 s1 hn
  have t2 := StL_new 5 s1 t1 hn
  have s3 := StN_tail (l := x) (v := nI n) s2
  have ea := (add_lt (k := 5) s1.1 hn).2
  rw [set_lt hN hx, ea, endQ_eq ho (by omega), h28, hm]
  dsimp only
  rw [set_lt s2 (by omega)]
  refine ⟨rfl, rfl, StN_ref s3 (by simp only [am_up_ap, ↓reduceIte, Nat.reduceEqDiff]) (by rw [am_up_ne (by decide)]) (by rw [am_up_ne (by decide)]) (by rw [am_up_ne (by decide)]) (by rw [am_up_ne (by decide)]), ?_⟩
  exact StL_of t2 (by rw [am_up_ne (by decide)]) (by rw [am_up_ne (by decide)]) (by rw [am_up_ne (by decide)]) (by rw [am_up_ne (by decide)]) (by rw [am_up_ne (by decide)]) (by rw [am_up_ne (by decide), am_up_ne (by decide)])
theorem endq_c {S : aM} {m o : Nat} (ho : mO S - 1 = o) (hn : ¬ mN S = 200) : m_endQ S (nI m) 27 = S 27 ∧ m_endQ S (nI m) 28 = S 28 ∧ m_endQ S (nI m) 29 = S 29 ∧ m_endQ S (nI m) 26 = S 26 ∧ m_endQ S (nI m) 19 11 = S 19 11 ∧ m_endQ S (nI m) 19 4 = S 19 4 ∧ m_endQ S (nI m) 19 3 = S 19 3 := by
  rw [endQ_eq ho hn]
  obtain ⟨c1, c2, -⟩ := new_c (am_up S 24 (cl (S 28 o)) (nI m)) 5
  refine ⟨?_, ?_, ?_, ?_, ?_, ?_, ?_⟩
  · rw [am_up_ne (by decide), am_up_ne (by decide), c1 27 (by decide) (by decide) (by decide) (by decide) (by decide), am_up_ne (by decide)]
  · rw [am_up_ne (by decide), am_up_ne (by decide), c1 28 (by decide) (by decide) (by decide) (by decide) (by decide), am_up_ne (by decide)]
  · rw [am_up_ne (by decide), am_up_ne (by decide), c1 29 (by decide) (by decide) (by decide) (by decide) (by decide), am_up_ne (by decide)]
  · rw [am_up_ne (by decide), am_up_ne (by decide), c1 26 (by decide) (by decide) (by decide) (by decide) (by decide), am_up_ne (by decide)]
  · rw [am_up_ap, if_pos rfl, if_neg (by decide), am_up_ne (by decide), c2 11 (by decide), am_up_ne (by decide)]
  · rw [am_up_ap, if_pos rfl, if_neg (by decide), am_up_ne (by decide), c2 4 (by decide), am_up_ne (by decide)]
  · rw [am_up_ap, if_pos rfl, if_neg (by decide), am_up_ne (by decide), c2 3 (by decide), am_up_ne (by decide)]
/-- a quote's end with no node left -/
theorem endq_f {S : aM} {m : Nat} (hp : ¬ S 19 3 < 0) (h : mN S = 200) : 0 ≤ m_endQ S (nI m) 19 4 := by
  apply Int32.not_lt.mp
  intro z
  exact endQ_4 hp z h
end
section
/-! A QUOTE, from its token to its end -/
theorem dd_quo {V : aM} {j o : Nat} (ih : DD V (rdD j) (o + 1)) (ho15 : o < 15) {Kf : aM → Prop} {C R N : aM} {i n lc e g : Nat} (htk : tkS C = 8) (hO : mO R = o) (h : DB V C R i n lc) (hfu : m_tl R - pos V i < g + 1) (hpe1 : pos V i < e) (het : e ≤ m_tl R) (hpe : pos V (i + 1) = e) (ho1 : okT V (i + 1)) (hx : tkx R N) (hp : ¬ N 19 3 < 0) (hbN : bdy N) (hfr : frx R (m_act N 8)) (ha2 : m_act N 8 19 2 = nI e) (hab : 0 ≤ m_act N 8 19 4 ∨ bdy (m_act N 8)) (hF : (rdD (j + 1) C).1 = -1 → fltK Kf R)
    (hC : ∀ (S : aM) (f' i' n' lc' m : Nat), (rdD (j + 1) C).1 = nI m → DA V (rdD (j + 1) C).2 S i' n' lc' m → DK (bgM R) S → frx R S → n < n' → m_tl R - pos V (i' + 1) < f' → m_rd Kf f' (m_end (o + 1) (nI m) S)) : m_rd Kf g (m_act N 8) := by
  rw [rdD_8 j htk] at hF hC
  have ea : m_act N 8 = m_open true N := by unfold m_act; rw [if_neg (by decide), if_pos rfl]
  rw [ea] at hfr ha2 hab ⊢
  obtain ⟨d1, d2, d3, d4, d5, d6, d7, d8, d9, d10, d11⟩ := h
  obtain ⟨l1, l2, l3, l4⟩ := d1.lt d3
  obtain ⟨b1, b2, b3, b4, b5, b6⟩ := hbN
  obtain ⟨g, rfl⟩ : ∃ q, g = q + 1 := ⟨g - 1, by omega⟩
  have hkN := bgK_tkx hx d8
  have hBx := bg_tkx hx
  have eB := beg_bg hkN
  have cf : m_beg N 19 4 < 0 := by rw [eB, bg_19 N 4 (by decide)]; exact b1
  obtain ⟨g1, g2, g3, g4, -⟩ := T_beg b2 b3 hp cf
  have hON : mO N = o := by rw [(tkx_N hx).2.2.1, hO]
  have sN := StN_tkx d9 hBx
  have sL := StL_tkx d10 hBx
  rw [← eB] at sN sL hBx
  have f3 : m_beg N 19 3 = N 19 3 := beg_19 N 3 (by decide) (by decide)
  clear eB
  generalize hBg : m_beg N = B at cf g1 g2 g3 g4 sN sL hBx f3
  have hm := StN_mN sN
  have hpB : ¬ B 19 3 < 0 := by rw [f3]; exact hp
  by_cases hn' : ¬ n + 3 ≤ 200
  · have hn := hn'
    refine rd_flt (hF ?_) hfr (open_qf hBg hON ho15 cf g2.1 hm hpB hn)
    unfold r_quo
    rw [if_pos (quo_full sN.1 sN.2.2.1 hn)]
  have hn : n + 3 ≤ 200 := Nat.not_lt.mp (fun q => hn' (by omega))
  obtain ⟨eS, e4⟩ := open_q hBg hON ho15 cf g2.1 hm hn
  obtain ⟨c27, c28, c29, c26, c13, c11⟩ := opq_c (o := o) g2.1 hm hn eS
  obtain ⟨p1, p2, p3, p4⟩ := opP_c true o B
  have sP : StN C (m_opP true o B) n := StN_ref sN (p2 5 (by decide)) (p1 21 (by decide) (by decide)) (p1 22 (by decide) (by decide)) (p1 24 (by decide) (by decide)) (p1 25 (by decide) (by decide))
  have lP : StL C (m_opP true o B) n lc := StL_ref sL (p1 23 (by decide) (by decide))
  have sQ := quo_open (o := o) sP lP hn
  rw [← eS] at sQ
  have eM := quo_M sP lP hn
  clear eS
  generalize m_open true N = S1 at hfr ha2 hab e4 c27 c28 c29 c26 c13 c11 sQ ⊢
  obtain ⟨a1, a2, a3⟩ := quo_add sN.1 hn
  have eR : r_quo (rdD j) C = q_B (rdD j) (nI n) (nI (n + 1)) (nI (n + 2)) (Q3 C n) := by
    unfold r_quo
    rw [a3, if_neg (show ¬ (nI (n + 2), Q3 C n).1 = -1 from nI_ne (by omega)), a2, a1]
  rw [eR] at hF hC
  have hdk : dk C (Q3 C n) := by
    have := ((dk_radd C 4).tr (dk_radd _ 2)).tr (dk_radd _ 4)
    rw [a3] at this
    exact this
  have hdM : dk C (q_M (nI n) (nI (n + 1)) (nI (n + 2)) (Q3 C n)) := hdk.tr (dk_qM _ _ _ _)
  have hD : am_up (am_up (am_up (am_up (Q3 C n) 6 (n + 1) 0) 5 (n + 1) 5) 7 n (nI (n + 1))) 8 n (nI (n + 2)) 11 3 = nI i := by
    rw [am_up_ne (by decide), am_up_ne (by decide), am_up_ne (by decide), am_up_ne (by decide)]
    unfold Q3
    rw [(newM_c _ _ _).1 11 (by decide) (by decide) (by decide) (by decide) (by decide) (by decide), (newM_c _ _ _).1 11 (by decide) (by decide) (by decide) (by decide) (by decide) (by decide), (newM_c _ _ _).1 11 (by decide) (by decide) (by decide) (by decide) (by decide) (by decide)]
    exact d2
  generalize am_up (am_up (am_up (am_up (Q3 C n) 6 (n + 1) 0) 5 (n + 1) 5) 7 n (nI (n + 1))) 8 n (nI (n + 2)) = D at hD sQ eM
  obtain ⟨nx1, nx2⟩ := nx_c hD
  have sM : StN (r_nx D) S1 (n + 3) := by
    unfold StN
    rw [nx2 3 (by decide), nx2 4 (by decide), nx2 5 (by decide), nx2 7 (by decide), nx2 8 (by decide)]
    exact sQ.1
  have lM : StL (r_nx D) S1 (n + 3) lc := StL_of sQ.2 (by rw [nx2 3 (by decide)]) (nx2 4 (by decide)) (nx2 5 (by decide)) (nx2 6 (by decide)) (nx2 10 (by decide)) rfl
  have eqB : q_B (rdD j) (nI n) (nI (n + 1)) (nI (n + 2)) (Q3 C n) = if (rdD j (r_nx D)).1 = -1 then (-1, (rdD j (r_nx D)).2) else q_A (nI n) (nI (n + 2)) (rdD j (r_nx D)).2 (rdD j (r_nx D)).1 := by
    unfold q_B
    rw [eM]
  rw [eqB] at hF hC
  rw [eM] at hdM
  clear eqB eM eR hdk a1 a2 a3 sQ
  generalize r_nx D = C1 at hF hC hdM nx1 sM lM
  have mO1 : mO S1 = o + 1 := by unfold mO; rw [c13]; exact nI_clamp (by omega)
  have c29o : S1 29 o = 4 := by rw [c29, upd_eq]
  have bK : bgK S1 := fun _ => by rw [mO1, Nat.add_sub_cancel, c29o]; exact ⟨by decide, fun z => absurd z (by decide)⟩
  have bM : bgM S1 = S1 := by unfold bgM; rw [mO1, Nat.add_sub_cancel, c29o, if_neg (by omega), if_neg (by decide)]
  have etl1 : m_tl S1 = m_tl R := by unfold m_tl; rw [hfr.2.1]
  have h41 : ¬ 0 ≤ S1 19 4 := Int32.not_le.mpr (by rw [e4]; exact cf)
  refine ih Kf C1 S1 (i + 1) (n + 3) lc (g + 1) mO1 ⟨d1.of hdM, nx1, ho1, hab.resolve_left h41, hfr.2.1.trans d5, (hfr.1 20 (Or.inr (Or.inl rfl))).trans d6, by rw [ha2, hpe], bK, by rw [bM]; exact sM, by rw [bM]; exact lM, by omega⟩ ⟨fun _ => by omega, fun _ z => ?_⟩ (by rw [etl1]; omega) ?_ ?_
  · rw [mO1, Nat.add_sub_cancel, c29o] at z
    exact absurd z (by decide)
  · intro z
    have := hF (by rw [if_pos z])
    exact this.of hfr
  intro S f' i' n' lc' m hm1 hDA hDK hfS hnn hf'
  obtain ⟨x1, x2, x3, x4, x5, x6, x7, x8, x9, x10, x11, x12, x13, x14, x15, x16, x17⟩ := hDA
  have hmS := StN_mN x15
  have hn2 := x15.2.2.1
  have hmn := x11.1
  have hne : ¬ (rdD j C1).1 = -1 := by rw [hm1]; exact nI_ne (by omega)
  rw [if_neg hne, hm1] at hF hC
  generalize (rdD j C1).2 = C2 at hF hC x1 x2 x15 x16
  unfold q_A at hF hC
  dsimp only at hF hC
  rw [bM] at hDK
  obtain ⟨k1, k2, k3, k4⟩ := hDK
  rw [mO1] at k1 k4
  obtain ⟨y27, y28, y29⟩ := k4 o (by omega)
  rw [c27, upd_eq] at y27
  rw [c28, upd_eq] at y28
  rw [c29o] at y29
  have cy28 : cl (S 28 o) = n + 2 := by rw [y28]; exact nI_clamp (by omega)
  have cy27 : cl (S 27 o) = n := by rw [y27]; exact nI_clamp (by omega)
  have ho1S : mO S - 1 = o := by omega
  rw [m_end, if_neg (Int32.not_le.mpr x4), if_neg (by omega), ho1S, y29, if_pos rfl, y27]
  by_cases c2 : n' = 200
  · have z := endq_f (m := m) x5 (by rw [hmS]; exact c2)
    rw [m_end_f z]
    obtain ⟨f', rfl⟩ : ∃ q, f' = q + 1 := ⟨f' - 1, by omega⟩
    refine rd_flt (hF ?_) ((hfr.tr hfS).tr (frm_endQ S (nI m)).x) z
    have h200 : n_set 7 C2 (nI (n + 2)) (nI m) 3 5 = nI 200 := by rw [set_lt x15 (by omega), am_up_ne (by decide), x15.1, c2]
    rw [(add_200 h200).2, if_pos rfl]
  · obtain ⟨w1, w2, w3, w4⟩ := endq_st (m := m) (o := o) (x := n + 2) x15 x16 (by omega) ho1S cy28 (by omega)
    obtain ⟨v1, v2, v3, v4, v5, v6, v7⟩ := endq_c (m := m) (o := o) ho1S (by omega)
    have hSI : SIr true (mN S) (mD S) (o + 1) (S 21) (S 22) (S 24) (S 25) (S 27) (S 28) (S 29) := by
      have := x6
      unfold SI at this
      rw [k1] at this
      exact this
    have hlm : cl (S 28 o) < m := by
      have := x11.2.2 (by omega)
      rw [ho1S] at this
      exact this
    obtain ⟨t1, t2, t3, t4, t5, t6⟩ := E_4 hSI x7 k1 (by omega) y29 hlm hmn
    have hfN := (x6.2.1.all (k := o) (by omega)).2
    have hdkE := ((dk_set (c := 7) (by decide) C2 (nI (n + 2)) (nI m)).tr (dk_radd _ 5)).tr (dk_set (c := 8) (by decide) _ (nI (n + 2)) (r_add (n_set 7 C2 (nI (n + 2)) (nI m)) 5).1)
    rw [w1] at hdkE hC
    rw [w2, if_neg (nI_ne (by omega))] at hC
    have hfE := frm_endQ S (nI m)
    obtain ⟨r1, r2, r3, r4, r5⟩ := frm_mt hfE x8 x9 x10
    have hcu : am_up (n_newM (am_up C2 7 (n + 2) (nI m)) n' 5) 8 (n + 2) (nI n') 11 3 = nI i' := by
      rw [am_up_ne (by decide), (newM_c _ _ _).1 11 (by decide) (by decide) (by decide) (by decide) (by decide) (by decide), am_up_ne (by decide)]
      exact x2
    generalize m_endQ S (nI m) = T at w3 w4 v1 v2 v3 v4 v5 v6 v7 t1 t2 t3 t4 t5 t6 hfE r1 r2 r3 r4 r5 ⊢
    refine hC T f' i' (n' + 1) lc' n rfl ⟨x1.of hdkE, hcu, x3, by rw [v6]; exact x4, by rw [v7]; exact x5, t1, t2, r1, r2, r3, ⟨by omega, fun z => ?_, fun z => ?_⟩, by rw [hfE.2 1 (Or.inl rfl)]; exact x12, by rw [hfE.1 20 (Or.inr (Or.inl rfl))]; exact x13, by rw [hfE.2 2 (Or.inr (Or.inl rfl))]; exact x14, w3, w4, x17⟩ (DK_tkx hBx ⟨by omega, by rw [v5, k2, c11], by rw [v4, k3, c26], fun q hq => ?_⟩) ((hfr.tr hfS).tr hfE.x) (by omega) (by rw [← etl1]; exact hf')
    · have := hfN.2.2.2.2.1 (by omega)
      omega
    · have := hfN.2.2.2.2.2 (by omega)
      rw [t3, t6]
      omega
    · have hqo : q < o := by omega
      obtain ⟨z1, z2, z3⟩ := k4 q (by omega)
      rw [c27, upd_lt _ _ hqo] at z1
      rw [c28, upd_lt _ _ hqo] at z2
      rw [c29, upd_lt _ _ hqo] at z3
      rw [v1, v2, v3]
      exact ⟨z1, z2, z3⟩
end
section
/-! NO NODE LEFT FOR THE PAIR that the next datum asks for -/
theorem beg_f {N : aM} {o : Nat} (hO : mO N = o + 1) (hs : N 29 o = 0 ∨ N 29 o = 1) (hn : mN N = 200) (hp : ¬ N 19 3 < 0) : ¬ m_beg N 19 4 < 0 := by
  have h1 : mO N - 1 = o := by omega
  have hz := failM_ge (M := N) hp
  have en : m_nd N 4 = (0, failM N (N 19 3)) := by unfold m_nd; rw [if_pos hn]
  unfold m_beg
  rw [if_neg (by omega), h1, if_neg (by rcases hs with q | q <;> rw [q] <;> decide), if_pos (by rcases hs with q | q <;> rw [q] <;> decide), en]
  unfold m_begP
  split
  · rw [am_up_ne (by decide), am_up_ne (by decide), am_up_ne (by decide)]; exact hz
  · rw [am_up_ne (by decide), am_up_ne (by decide), am_up_ne (by decide)]; exact hz
theorem act_f {N : aM} {o : Nat} {k : Int32} (hO : mO N = o + 1) (hs : N 29 o = 0 ∨ N 29 o = 1) (hn : mN N = 200) (hp : ¬ N 19 3 < 0) (hk : TokK N k) (h7 : ¬ k = 7) (h9 : N 29 o = 1 → ¬ k = 9) : 0 ≤ m_act N k 19 4 := by
  have hb := beg_f hO hs hn hp
  have hA : ¬ m_opA N 19 4 < 0 := by
    unfold m_opA
    split
    · exact failM_ge (by rw [beg_19 N 3 (by decide) (by decide)]; exact hp)
    · exact hb
  have eo : ∀ q, m_open q N = m_opA N := fun q => by unfold m_open; rw [if_neg hA]
  unfold m_act
  rcases hk with rfl | rfl | rfl | rfl | ⟨q, -⟩
  · rw [if_pos rfl, eo]; exact Int32.not_lt.mp hA
  · exact absurd rfl h7
  · rw [if_neg (by decide), if_pos rfl, eo]; exact Int32.not_lt.mp hA
  · rw [if_neg (by decide), if_neg (by decide), if_neg (by decide), if_pos rfl]
    unfold m_pt
    rw [if_neg (by omega), show mO N - 1 = o by omega, if_neg (fun z => h9 z rfl)]
    exact Int32.not_lt.mp (failM_ge hp)
  · rw [if_neg (by rcases q with q | q | q <;> rw [q] <;> decide), if_neg (by rcases q with q | q | q <;> rw [q] <;> decide), if_neg (by rcases q with q | q | q <;> rw [q] <;> decide), if_neg (by rcases q with q | q | q <;> rw [q] <;> decide)]
    unfold m_dat
    rw [if_neg hb]
    exact Int32.not_lt.mp hb
theorem doomed {Kf : aM → Prop} {V R : aM} {i o f : Nat} (hV : tx_ok V) (ho : okT V i) (hb : bdy R) (h1 : R 19 1 = V 1 1) (h2 : R 20 = V 2) (h3 : R 19 2 = nI (pos V i)) (hO : mO R = o + 1) (hs : R 29 o = 0 ∨ R 29 o = 1) (hn : mN R = 200) (h7 : ¬ sc_k V (pos V i) = 7) (h9 : R 29 o = 1 → ¬ sc_k V (pos V i) = 9) (hf : m_tl R - pos V i < f) (hK : fltK Kf R) : m_rd Kf f R := by
  obtain ⟨f, rfl⟩ : ∃ q, f = q + 1 := ⟨f - 1, by omega⟩
  obtain ⟨l1, l2⟩ := pos_le hV i ho
  have h400 := hV.2
  have hp : cl (R 19 2) = pos V i := by rw [h3]; exact nI_clamp (by omega)
  obtain ⟨v1, v2, v3⟩ := vw_sc h1 h2 (pos V i)
  by_cases ce : sc_e V (pos V i) = -1
  · exact rd_bad hb (by rw [hp, v3]; exact ce) hK
  by_cases c10 : sc_k V (pos V i) = 10
  · exact rd_end hb (by rw [hp, v3]; exact ce) (by rw [hp, v2]; exact c10) (fun _ => hK) (fun z => absurd z (by omega))
  have etl : m_tl R = tl V := by unfold m_tl tl; rw [h1]
  have hps := (f_skip_le (M := V) l2).1
  have hss : sc_s V (pos V i) = f_skip V (pos V i) := by rfl
  refine rd_act hb (by rw [hp, v3]; exact ce) (by rw [hp, v2]; exact c10) ?_
  rw [hp, v1, v2, v3]
  intro N e a1 a2 a3 hx n2 n3 hbN hpl htk hfr ha hab
  obtain ⟨f, rfl⟩ : ∃ q, f = q + 1 := ⟨f - 1, by omega⟩
  have hpN : ¬ N 19 3 < 0 := by rw [n3]; exact nI_pos (by omega)
  obtain ⟨t1, t2, t3, t4⟩ := tkx_N hx
  have e29 := hx.1 29 (by decide)
  exact rd_flt hK hfr (act_f (by rw [t3]; exact hO) (by rw [e29]; exact hs) (by rw [t1]; exact hn) hpN htk h7 (by rw [e29]; exact h9))
end
section
/-! A BRACKET'S END, under any continuation -/
theorem rd_close {Kf : aM → Prop} {V R : aM} {i o f : Nat} (hV : tx_ok V) (ho : okT V i) (hb : bdy R) (h1 : R 19 1 = V 1 1) (h2 : R 20 = V 2) (h3 : R 19 2 = nI (pos V i)) (hO : mO R = o + 1) (hs : R 29 o = 0 ∨ R 29 o = 1 ∨ R 29 o = 3) (ce : ¬ sc_e V (pos V i) = -1) (hk : sc_k V (pos V i) = 7) (hf : m_tl R - pos V i < f)
    (hA : ∀ (N : aM) (g : Nat), tkx R N → bdy N → ¬ N 19 3 < 0 → N 19 2 = nI (pos V (i + 1)) → okT V (i + 1) → pos V i < pos V (i + 1) → m_tl R - pos V (i + 1) < g → cl_no N = false → m_rd Kf g (if (m_clN N).2 19 4 < 0 then m_end (o + 1) (m_clN N).1 (am_up (m_clN N).2 19 13 (nI o)) else (m_clN N).2)) : m_rd Kf f R := by
  obtain ⟨f, rfl⟩ : ∃ q, f = q + 1 := ⟨f - 1, by omega⟩
  obtain ⟨l1, l2⟩ := pos_le hV i ho
  have h400 := hV.2
  have hp : cl (R 19 2) = pos V i := by rw [h3]; exact nI_clamp (by omega)
  obtain ⟨v1, v2, v3⟩ := vw_sc h1 h2 (pos V i)
  have c10 : ¬ sc_k V (pos V i) = 10 := by rw [hk]; decide
  have etl : m_tl R = tl V := by unfold m_tl tl; rw [h1]
  have hps := (f_skip_le (M := V) l2).1
  have hss : sc_s V (pos V i) = f_skip V (pos V i) := by rfl
  refine rd_act hb (by rw [hp, v3]; exact ce) (by rw [hp, v2]; exact c10) ?_
  rw [hp, v1, v2, v3]
  intro N e a1 a2 a3 hx n2 n3 hbN hpl htk hfr ha hab
  have hpN : ¬ N 19 3 < 0 := by rw [n3]; exact nI_pos (by omega)
  obtain ⟨t1, t2, t3, t4⟩ := tkx_N hx
  have hpe := pos_s a1 (by omega)
  have hON : mO N = o + 1 := by rw [t3]; exact hO
  have ho1 : mO N - 1 = o := by omega
  have hno : cl_no N = false := by
    unfold cl_no
    rw [ho1, hx.1 29 (by decide), hON]
    rcases hs with q | q | q <;> simp [q]
  have ea : m_act N (sc_k V (pos V i)) = if (m_clN N).2 19 4 < 0 then m_end (o + 1) (m_clN N).1 (am_up (m_clN N).2 19 13 (nI o)) else (m_clN N).2 := by
    rw [hk]
    unfold m_act
    rw [if_neg (by decide), if_neg (by decide), if_pos rfl]
    unfold m_close
    rw [if_neg (by rw [hno]; decide), ho1, hON]
  rw [ea]
  exact hA N f hx hbN hpN (by rw [n2, hpe]) (ho.s ce c10) (by omega) (by omega) hno
/-- what the end makes of the bracket, by its state -/
theorem clN_0 {N : aM} {o : Nat} (hO : mO N = o + 1) (hs : N 29 o = 0) : m_clN N = m_nd N 5 := by
  unfold m_clN
  rw [show mO N - 1 = o by omega, hs, if_pos (by decide), if_pos rfl]
theorem clN_1 {N : aM} {o : Nat} (hO : mO N = o + 1) (hs : N 29 o = 1) : m_clN N = (N 27 o, am_up (m_nd N 5).2 25 (cl (N 28 o)) (m_nd N 5).1) := by
  unfold m_clN
  rw [show mO N - 1 = o by omega, hs, if_pos (by decide), if_neg (by decide)]
theorem clN_3 {N : aM} {o : Nat} (hO : mO N = o + 1) (hs : N 29 o = 3) : m_clN N = (N 27 o, N) := by
  unfold m_clN
  rw [show mO N - 1 = o by omega, hs, if_neg (by decide)]
end
section
/-! AFTER A DOTTED TAIL: nothing but the bracket's end -/
theorem act_f3 {N : aM} {o : Nat} {k : Int32} (hO : mO N = o + 1) (hs : N 29 o = 3) (hp : ¬ N 19 3 < 0) (hk : TokK N k) (h7 : ¬ k = 7) : 0 ≤ m_act N k 19 4 := by
  have h1 : mO N - 1 = o := by omega
  have hb : ¬ m_beg N 19 4 < 0 := by
    unfold m_beg
    rw [if_neg (by omega), h1, if_pos hs]
    exact failM_ge hp
  have hA : ¬ m_opA N 19 4 < 0 := by
    unfold m_opA
    split
    · exact failM_ge (by rw [beg_19 N 3 (by decide) (by decide)]; exact hp)
    · exact hb
  have eo : ∀ q, m_open q N = m_opA N := fun q => by unfold m_open; rw [if_neg hA]
  unfold m_act
  rcases hk with rfl | rfl | rfl | rfl | ⟨q, -⟩
  · rw [if_pos rfl, eo]; exact Int32.not_lt.mp hA
  · exact absurd rfl h7
  · rw [if_neg (by decide), if_pos rfl, eo]; exact Int32.not_lt.mp hA
  · rw [if_neg (by decide), if_neg (by decide), if_neg (by decide), if_pos rfl]
    unfold m_pt
    rw [if_neg (by omega), h1, if_neg (by rw [hs]; decide)]
    exact Int32.not_lt.mp (failM_ge hp)
  · rw [if_neg (by rcases q with q | q | q <;> rw [q] <;> decide), if_neg (by rcases q with q | q | q <;> rw [q] <;> decide), if_neg (by rcases q with q | q | q <;> rw [q] <;> decide), if_neg (by rcases q with q | q | q <;> rw [q] <;> decide)]
    unfold m_dat
    rw [if_neg hb]
    exact Int32.not_lt.mp hb
theorem doomed3 {Kf : aM → Prop} {V R : aM} {i o f : Nat} (hV : tx_ok V) (ho : okT V i) (hb : bdy R) (h1 : R 19 1 = V 1 1) (h2 : R 20 = V 2) (h3 : R 19 2 = nI (pos V i)) (hO : mO R = o + 1) (hs : R 29 o = 3) (h7 : ¬ sc_e V (pos V i) = -1 → ¬ sc_k V (pos V i) = 7) (hf : m_tl R - pos V i < f) (hK : fltK Kf R) : m_rd Kf f R := by
  obtain ⟨f, rfl⟩ : ∃ q, f = q + 1 := ⟨f - 1, by omega⟩
  obtain ⟨l1, l2⟩ := pos_le hV i ho
  have h400 := hV.2
  have hp : cl (R 19 2) = pos V i := by rw [h3]; exact nI_clamp (by omega)
  obtain ⟨v1, v2, v3⟩ := vw_sc h1 h2 (pos V i)
  by_cases ce : sc_e V (pos V i) = -1
  · exact rd_bad hb (by rw [hp, v3]; exact ce) hK
  by_cases c10 : sc_k V (pos V i) = 10
  · exact rd_end hb (by rw [hp, v3]; exact ce) (by rw [hp, v2]; exact c10) (fun _ => hK) (fun z => absurd z (by omega))
  have etl : m_tl R = tl V := by unfold m_tl tl; rw [h1]
  have hps := (f_skip_le (M := V) l2).1
  have hss : sc_s V (pos V i) = f_skip V (pos V i) := by rfl
  refine rd_act hb (by rw [hp, v3]; exact ce) (by rw [hp, v2]; exact c10) ?_
  rw [hp, v1, v2, v3]
  intro N e a1 a2 a3 hx n2 n3 hbN hpl htk hfr ha hab
  obtain ⟨f, rfl⟩ : ∃ q, f = q + 1 := ⟨f - 1, by omega⟩
  have hpN : ¬ N 19 3 < 0 := by rw [n3]; exact nI_pos (by omega)
  obtain ⟨t1, t2, t3, t4⟩ := tkx_N hx
  have e29 := hx.1 29 (by decide)
  exact rd_flt hK hfr (act_f3 (by rw [t3]; exact hO) (by rw [e29]; exact hs) hpN htk (h7 ce))
end
