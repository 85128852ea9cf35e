/-! WHAT STANDS BY ITSELF is read alike -/
theorem stp_nI {e i : Nat} (he : e < 2 ^ 31) (hi : i ≤ e) : stp (nI e) (nI i) = e - i := by
  unfold stp
  rw [nI_toInt he, nI_toInt (by omega)]
  omega
theorem al_ltr (M : aM) (x b : Int32) : ∀ i, ¬ i = 3 → ¬ i = 5 → ¬ i = 10 → n_ltr M x b i = M i := fun i h1 h2 h3 => by
  unfold n_ltr
  split
  · split
    · rfl
    split
    · rw [am_up_ne h2, am_up_ne h1, am_up_ne h3]
    · rfl
  · rfl
/-- the letters of a name -/
theorem nm_eq {t : Nat → Int32} {n x e N : Nat} (hx : x < n) (he : e ≤ N) (hN4 : N ≤ 400) : ∀ (f i a s lc : Nat) (C R : aM), i + f = e → C 2 = t → C 1 1 = nI N → StN C R n → StL C R n lc → (C 4 x = 2 ∨ C 4 x = 3) → C 6 x = nI s → C 5 x = nI a → s + a = lc → 5 ≤ s → a + f ≤ 20 → lc + f ≤ 405 →
    StN (nmL (nI x) (nI e) f (nI i) C) (mA2 t x f i R) n ∧ StL (nmL (nI x) (nI e) f (nI i) C) (mA2 t x f i R) n (lc + f) ∧ nmL (nI x) (nI e) f (nI i) C 4 = C 4 ∧ (∀ q, ¬ q = 3 → ¬ q = 5 → ¬ q = 10 → nmL (nI x) (nI e) f (nI i) C q = C q)
  | 0, i, a, s, lc, C, R, hi, h2, h1, hN, hL, hk, hs, ha, hsa, h5, haf, hlf => ⟨hN, hL, rfl, fun _ _ _ _ => rfl⟩
  | f + 1, i, a, s, lc, C, R, hi, h2, h1, hN, hL, hk, hs, ha, hsa, h5, haf, hlf => by
    have hte : tl C = N := by unfold tl; rw [h1]; exact nI_clamp (by omega)
    have htx : tx_ok C := ⟨by rw [hte]; exact h1, by rw [hte]; exact hN4⟩
    have hb : f_at C (nI i) = t i := by
      rw [f_bt htx (by omega), h2, hte]
      unfold bt
      rw [if_pos (by omega)]
    obtain ⟨g1, g2, g3, g4, g5⟩ := ltr_ok (b := t i) hN hL hx hk hs ha hsa (by omega) (by omega) h5
    have al := al_ltr C (nI x) (t i)
    unfold nmL mA2
    rw [if_pos (nI_lt (by omega) (by omega)), hb, nI_1]
    obtain ⟨r1, r2, r3, r4⟩ := nm_eq (t := t) hx he hN4 f (i + 1) (a + 1) s (lc + 1) _ _ (by omega) (by rw [al 2 (by decide) (by decide) (by decide)]; exact h2) (by rw [al 1 (by decide) (by decide) (by decide)]; exact h1) g1 g2 (by rw [g5]; exact hk) (by rw [g3]; exact hs) g4 (by omega) h5 (by omega) (by omega)
    refine ⟨r1, ?_, by rw [r3, g5], fun q q1 q2 q3 => by rw [r4 q q1 q2 q3, al q q1 q2 q3]⟩
    rw [show lc + (f + 1) = lc + 1 + f by omega]
    exact r2
/-- the letters of a string -/
theorem st_eq {t : Nat → Int32} {n x e N : Nat} (hx : x < n) (he : e ≤ N) (hN4 : N ≤ 400) : ∀ (c i a s lc f : Nat) (C R : aM), stE t N (c + 1) i = nI e → a + c = 20 → e - 1 - i ≤ f → C 2 = t → C 1 1 = nI N → StN C R n → StL C R n lc → (C 4 x = 2 ∨ C 4 x = 3) → C 6 x = nI s → C 5 x = nI a → s + a = lc → 5 ≤ s → lc + (e - i) ≤ 405 → i ≤ 401 →
    ∃ lc', lc' ≤ lc + (e - i) ∧ StN (stL (nI x) (nI (e - 1)) f (nI i) C) (mA3 t N x (c + 1) i R) n ∧ StL (stL (nI x) (nI (e - 1)) f (nI i) C) (mA3 t N x (c + 1) i R) n lc' ∧ (∀ q, ¬ q = 3 → ¬ q = 5 → ¬ q = 10 → stL (nI x) (nI (e - 1)) f (nI i) C q = C q) := by
  have hne : ¬ (-1 : Int32) = nI e := fun q => nI_ne (by omega) q.symm
  have Hend : ∀ (i lc f : Nat) (C R : aM), e = i + 1 → StN C R n → StL C R n lc → ∃ lc', lc' ≤ lc + (e - i) ∧ StN (stL (nI x) (nI (e - 1)) f (nI i) C) R n ∧ StL (stL (nI x) (nI (e - 1)) f (nI i) C) R n lc' ∧ (∀ q, ¬ q = 3 → ¬ q = 5 → ¬ q = 10 → stL (nI x) (nI (e - 1)) f (nI i) C q = C q) := by
    intro i lc f C R hei hN hL
    have es : stL (nI x) (nI (e - 1)) f (nI i) C = C := by
      cases f with
      | zero => rfl
      | succ f =>
        unfold stL
        rw [if_neg (nI_nlt (by omega) (by omega))]
    rw [es]
    exact ⟨lc, by omega, hN, hL, fun _ _ _ _ => rfl⟩
  intro c
  induction c with
  | zero =>
    intro i a s lc f C R hst hac hf h2 h1 hN hL hk hs ha hsa h5 hlf hi4
    by_cases c1 : bt t N i = 34
    · rw [stE, if_pos c1] at hst
      rw [mA3, if_pos c1]
      have := (nI_eq (a := i + 1) (b := e) (by omega) (by omega)).mp hst
      exact Hend i lc f C R this.symm hN hL
    · exfalso
      rw [stE, if_neg c1] at hst
      (repeat' split at hst) <;> exact hne hst
  | succ c ih =>
    intro i a s lc f C R hst hac hf h2 h1 hN hL hk hs ha hsa h5 hlf hi4
    by_cases c1 : bt t N i = 34
    · rw [stE, if_pos c1] at hst
      rw [mA3, if_pos c1]
      have := (nI_eq (a := i + 1) (b := e) (by omega) (by omega)).mp hst
      exact Hend i lc f C R this.symm hN hL
    rw [stE, if_neg c1] at hst
    rw [mA3, if_neg c1]
    have hte : tl C = N := by unfold tl; rw [h1]; exact nI_clamp (by omega)
    have htx : tx_ok C := ⟨by rw [hte]; exact h1, by rw [hte]; exact hN4⟩
    have hfb : ∀ j, j < 2 ^ 31 → f_at C (nI j) = bt t N j := fun j hj => by rw [f_bt htx hj, h2, hte]
    have hti : ∀ j, j < N → bt t N j = t j := fun j hj => by unfold bt; rw [if_pos hj]
    by_cases c2 : bt t N i = 92
    · rw [if_pos c2] at hst ⊢
      have hst2 : stE t N (c + 1) (i + 2) = nI e ∧ i + 1 < N := by
        by_cases c3 : bt t N (i + 1) = 34
        · rw [if_pos c3] at hst
          exact ⟨hst, bt_lt (t := t) (by rw [c3]; decide)⟩
        rw [if_neg c3] at hst
        by_cases c4 : bt t N (i + 1) = 92
        · rw [if_pos c4] at hst
          exact ⟨hst, bt_lt (t := t) (by rw [c4]; decide)⟩
        · rw [if_neg c4] at hst
          exact absurd hst hne
      have hgt := stE_gt (by omega) (c + 1) (i + 2) hN4 (by omega) (by omega) hst2.1
      obtain ⟨f, rfl⟩ : ∃ g, f = g + 1 := ⟨f - 1, by omega⟩
      obtain ⟨g1, g2, g3, g4, g5⟩ := ltr_ok (b := t (i + 1)) hN hL hx hk hs ha hsa (by omega) (by omega) h5
      have al := al_ltr C (nI x) (t (i + 1))
      unfold stL
      rw [if_pos (nI_lt (by omega) (by omega)), hfb i (by omega), if_pos c2, nI_1, nI_1, hfb (i + 1) (by omega), hti (i + 1) hst2.2]
      obtain ⟨lc', r0, r1, r2, r3⟩ := ih (i + 1 + 1) (a + 1) s (lc + 1) f _ _ hst2.1 (by omega) (by omega) (by rw [al 2 (by decide) (by decide) (by decide)]; exact h2) (by rw [al 1 (by decide) (by decide) (by decide)]; exact h1) g1 g2 (by rw [g5]; exact hk) (by rw [g3]; exact hs) g4 (by omega) h5 (by omega) (by omega)
      exact ⟨lc', by omega, r1, r2, fun q q1 q2 q3 => by rw [r3 q q1 q2 q3, al q q1 q2 q3]⟩
    · rw [if_neg c2] at hst ⊢
      have hil : i < N := by
        apply bt_lt (t := t)
        intro q
        rw [q] at hst
        rw [if_pos (by decide)] at hst
        exact hne hst
      have hst2 : stE t N (c + 1) (i + 1) = nI e := by
        by_cases c5 : bt t N i < 32
        · rw [if_pos c5] at hst; exact absurd hst hne
        rw [if_neg c5] at hst
        by_cases c6 : 126 < bt t N i
        · rw [if_pos c6] at hst; exact absurd hst hne
        rw [if_neg c6] at hst
        exact hst
      have hgt := stE_gt (by omega) (c + 1) (i + 1) hN4 (by omega) (by omega) hst2
      obtain ⟨f, rfl⟩ : ∃ g, f = g + 1 := ⟨f - 1, by omega⟩
      obtain ⟨g1, g2, g3, g4, g5⟩ := ltr_ok (b := t i) hN hL hx hk hs ha hsa (by omega) (by omega) h5
      have al := al_ltr C (nI x) (t i)
      unfold stL
      rw [if_pos (nI_lt (by omega) (by omega)), hfb i (by omega), if_neg c2, nI_1, hti i hil]
      obtain ⟨lc', r0, r1, r2, r3⟩ := ih (i + 1) (a + 1) s (lc + 1) f _ _ hst2 (by omega) (by omega) (by rw [al 2 (by decide) (by decide) (by decide)]; exact h2) (by rw [al 1 (by decide) (by decide) (by decide)]; exact h1) g1 g2 (by rw [g5]; exact hk) (by rw [g3]; exact hs) g4 (by omega) h5 (by omega) (by omega)
      exact ⟨lc', by omega, r1, r2, fun q q1 q2 q3 => by rw [r3 q q1 q2 q3, al q q1 q2 q3]⟩
/-- the value of a number -/
theorem num_eq {t : Nat → Int32} {e N : Nat} {C : aM} (he : e ≤ N) (hN4 : N ≤ 400) (h2 : C 2 = t) (h1 : C 1 1 = nI N) : ∀ (f i : Nat) (acc : Int32), i + f = e → (∀ j, i ≤ j → j < e → ¬ t j = 45) → nmA C (nI e) f (nI i) acc = mA1 t f i acc
  | 0, _, _, _, _ => rfl
  | f + 1, i, acc, hi, h => by
    have hte : tl C = N := by unfold tl; rw [h1]; exact nI_clamp (by omega)
    have htx : tx_ok C := ⟨by rw [hte]; exact h1, by rw [hte]; exact hN4⟩
    have hb : f_at C (nI i) = t i := by
      rw [f_bt htx (by omega), h2, hte]
      unfold bt
      rw [if_pos (by omega)]
    unfold nmA mA1
    rw [if_pos (nI_lt (by omega) (by omega)), hb, nI_1, if_neg (h i (by omega) (by omega)), num_eq he hN4 h2 h1 f (i + 1) _ (by omega) (fun j a b => h j (by omega) b)]
    congr 1
    rw [Int32.sub_eq_add_neg, Int32.sub_eq_add_neg, Int32.mul_comm, Int32.add_assoc]
theorem allD_in {t : Nat → Int32} : ∀ (k i : Nat), allD t k i = true → ∀ j, i ≤ j → j < i + k → dgB (t j) = true
  | 0, i, _, j, h1, h2 => by omega
  | k + 1, i, h, j, h1, h2 => by
    unfold allD at h
    rw [Bool.and_eq_true] at h
    by_cases c : j = i
    · subst c; exact h.1
    · exact allD_in k (i + 1) h.2 j (by omega) (by omega)
/-- a number's token, byte by byte -/
theorem num_tok {V : aM} (h : tx_ok V) {s e : Nat} (hs : s < tl V) (he : f_num V s = nI e) (hee : e ≤ 401) : nmF (V 2) s ≤ e ∧ (∀ j, nmF (V 2) s ≤ j → j < e → ¬ V 2 j = 45) := by
  have h4 := h.2
  have hn : nmF (V 2) s = s + 1 ∨ nmF (V 2) s = s := by unfold nmF; split <;> simp
  have hw := f_word_le h (i := nmF (V 2) s) (by omega)
  have hne : ¬ (-1 : Int32) = nI e := fun q => nI_ne (by omega) q.symm
  unfold f_num at he
  generalize nmF (V 2) s = b at hn hw he ⊢
  by_cases c1 : f_word V b - b < 1
  · rw [if_pos c1] at he; exact absurd he hne
  rw [if_neg c1] at he
  by_cases c2 : 9 < f_word V b - b
  · rw [if_pos c2] at he; exact absurd he hne
  rw [if_neg c2] at he
  by_cases c3 : allD (V 2) (f_word V b - b) b = true
  · rw [if_pos c3] at he
    have := (nI_eq (a := f_word V b) (b := e) (by omega) (by omega)).mp he
    refine ⟨by omega, fun j h1 h2 q => ?_⟩
    have hd := allD_in _ _ c3 j h1 (by omega)
    rw [q] at hd
    revert hd
    decide
  · rw [if_neg c3] at he; exact absurd he hne
