/-! READ, AS A WHOLE -/
def frx (M N : aM) : Prop := (∀ i, i < 19 ∨ i = 20 ∨ 30 ≤ i → N i = M i) ∧ N 19 1 = M 19 1 ∧ N 19 18 = M 19 18
theorem frx.tr {M N P : aM} (h1 : frx M N) (h2 : frx N P) : frx M P := ⟨fun i hi => (h2.1 i hi).trans (h1.1 i hi), h2.2.1.trans h1.2.1, h2.2.2.trans h1.2.2⟩
theorem frx.rf (M : aM) : frx M M := ⟨fun _ _ => rfl, rfl, rfl⟩
theorem frm.x {M N : aM} (h : frm M N) : frx M N := ⟨h.1, h.2 1 (Or.inl rfl), h.2 18 (Or.inr (Or.inr (Or.inr rfl)))⟩
theorem tkP_c (M : aM) (s : Nat) : (∀ i, ¬ i = 19 → tkP M s i = M i) ∧ (∀ j, ¬ j = 2 → ¬ j = 3 → tkP M s 19 j = M 19 j) ∧ tkP M s 19 2 = nI s ∧ tkP M s 19 3 = nI s := by
  unfold tkP
  refine ⟨fun i h => by rw [am_up_ne h, am_up_ne h], fun j h1 h2 => ?_, ?_, ?_⟩
  · simp only [am_up_ap, h1, h2, ↓reduceIte]
  · simp only [am_up_ap, ↓reduceIte, Nat.reduceEqDiff]
  · simp only [am_up_ap, ↓reduceIte]
theorem tk2_c (M : aM) (s : Nat) (a : Int32) : (∀ i, ¬ i = 19 → am_up (tkP M s) 19 2 a i = M i) ∧ (∀ j, ¬ j = 2 → ¬ j = 3 → am_up (tkP M s) 19 2 a 19 j = M 19 j) ∧ am_up (tkP M s) 19 2 a 19 2 = a ∧ am_up (tkP M s) 19 2 a 19 3 = nI s := by
  obtain ⟨a1, a2, a3, a4⟩ := tkP_c M s
  refine ⟨fun i h => by rw [am_up_ne h, a1 i h], fun j h1 h2 => ?_, ?_, ?_⟩
  · simp only [am_up_ap, h1, ↓reduceIte]; exact a2 j h1 h2
  · simp only [am_up_ap, ↓reduceIte]
  · simp only [am_up_ap, ↓reduceIte, Nat.reduceEqDiff]; exact a4
/-- a memory that differs in at and place alone -/
def tkx (M N : aM) : Prop := (∀ i, ¬ i = 19 → N i = M i) ∧ (∀ j, ¬ j = 2 → ¬ j = 3 → N 19 j = M 19 j)
theorem tkx.x {M N : aM} (h : tkx M N) : frx M N := ⟨fun i hi => h.1 i (by omega), h.2 1 (by decide) (by decide), h.2 18 (by decide) (by decide)⟩
theorem tkx_N {M N : aM} (h : tkx M N) : mN N = mN M ∧ mD N = mD M ∧ mO N = mO M ∧ m_tl N = m_tl M := by
  unfold mN mD mO m_tl
  rw [h.2 5 (by decide) (by decide), h.2 11 (by decide) (by decide), h.2 13 (by decide) (by decide), h.2 1 (by decide) (by decide)]
  exact ⟨rfl, rfl, rfl, rfl⟩
theorem tkx_SI {M N : aM} (h : tkx M N) {bg : Bool} (hs : SI bg M) : SI bg N := by
  obtain ⟨a, b, c, -⟩ := tkx_N h
  unfold SI at hs ⊢
  rw [a, b, c, h.1 21 (by decide), h.1 22 (by decide), h.1 24 (by decide), h.1 25 (by decide), h.1 27 (by decide), h.1 28 (by decide), h.1 29 (by decide)]
  exact hs
theorem tkx_bs {M N : aM} (h : tkx M N) (hb : bs_ok M) : bs_ok N := by
  obtain ⟨a, b, c, -⟩ := tkx_N h
  unfold bs_ok mc_ok md_ok op_ok
  rw [a, b, c, h.2 5 (by decide) (by decide), h.2 11 (by decide) (by decide), h.2 13 (by decide) (by decide)]
  exact hb
theorem tkx_mt {M N : aM} (h : tkx M N) (ht : mt_ok M) : mt_ok N := by
  unfold mt_ok
  rw [(tkx_N h).2.2.2, h.2 1 (by decide) (by decide)]
  exact ht
theorem ls_of {M : aM} (h : SI false M) (hb : bs_ok M) : ls_ok M := fun o ho hs => by
  have h200 := hb.1.2
  rcases h.2.1 o ho with ⟨a, -, -⟩ | ⟨-, a⟩
  · exact absurd a hs
  · rw [a.2.1]
    exact vp_in_nI (by have := a.2.2.2.1; omega) (by decide)
theorem frm_mt {M N : aM} (h : frm M N) (ht : mt_ok M) (hb : tb_ok M) (ha : at_ok M) : mt_ok N ∧ tb_ok N ∧ at_ok N ∧ m_tl N = m_tl M ∧ cl (N 19 2) = cl (M 19 2) := by
  have e1 := h.2 1 (Or.inl rfl)
  have e2 := h.2 2 (Or.inr (Or.inl rfl))
  have e20 := h.1 20 (Or.inr (Or.inl rfl))
  have eT : m_tl N = m_tl M := by unfold m_tl; rw [e1]
  refine ⟨⟨by rw [eT, e1]; exact ht.1, by rw [eT]; exact ht.2⟩, ?_, ⟨by rw [e2]; exact ha.1, by rw [e2, eT]; exact ha.2⟩, eT, by rw [e2]⟩
  intro i hi
  rw [e20]
  rw [eT] at hi
  exact hb i hi
theorem act_ok {N : aM} {k : Int32} (h : SI false N) (hb : bs_ok N) (ht : mt_ok N) (hpl : pl_ok N) (h4 : N 19 4 < 0) (hk : k = 6 ∨ k = 7 ∨ k = 8 ∨ k = 9 ∨ ((k = 1 ∨ k = 2 ∨ k = 3) ∧ at_kd N k)) : a_pre N k ∧ (0 ≤ m_act N k 19 4 ∨ (SI false (m_act N k) ∧ bs_ok (m_act N k))) := by
  have h400 := ht.2
  have hp : ¬ N 19 3 < 0 := by
    rw [hpl.1]
    have := hpl.2.2.1
    have := hpl.2.2.2
    exact nI_pos (by omega)
  have base : mc_ok N ∧ op_ok N ∧ ls_ok N ∧ ¬ N 19 3 < 0 := ⟨hb.1, hb.2.2, ls_of h hb, hp⟩
  unfold a_pre m_act
  rcases hk with rfl | rfl | rfl | rfl | ⟨hk, ha⟩
  · rw [if_pos rfl]
    exact ⟨⟨base, fun z => absurd z (by decide), fun z => by rcases z with z | z | z <;> exact absurd z (by decide)⟩, T_open false h hb hp⟩
  · rw [if_neg (by decide), if_neg (by decide), if_pos rfl]
    exact ⟨⟨base, fun _ => T_closeP h hb hp, fun z => by rcases z with z | z | z <;> exact absurd z (by decide)⟩, T_close h hb hp⟩
  · rw [if_neg (by decide), if_pos rfl]
    exact ⟨⟨base, fun z => absurd z (by decide), fun z => by rcases z with z | z | z <;> exact absurd z (by decide)⟩, T_open true h hb hp⟩
  · rw [if_neg (by decide), if_neg (by decide), if_neg (by decide), if_pos rfl]
    exact ⟨⟨base, fun z => absurd z (by decide), fun z => by rcases z with z | z | z <;> exact absurd z (by decide)⟩, T_pt h hb hp⟩
  · have q := T_dat h hb ht hpl ha h4
    rcases hk with rfl | rfl | rfl
    · rw [if_neg (by decide), if_neg (by decide), if_neg (by decide), if_neg (by decide)]
      exact ⟨⟨base, fun z => absurd z (by decide), fun _ => q.1⟩, q.2⟩
    · rw [if_neg (by decide), if_neg (by decide), if_neg (by decide), if_neg (by decide)]
      exact ⟨⟨base, fun z => absurd z (by decide), fun _ => q.1⟩, q.2⟩
    · rw [if_neg (by decide), if_neg (by decide), if_neg (by decide), if_neg (by decide)]
      exact ⟨⟨base, fun z => absurd z (by decide), fun _ => q.1⟩, q.2⟩
theorem rd_all {Kf : aM → Prop} : ∀ (f : Nat) (M : aM), m_tl M - cl (M 19 2) < f → (0 ≤ M 19 4 ∨ (SI false M ∧ bs_ok M ∧ mt_ok M ∧ tb_ok M ∧ at_ok M)) → (∀ N, frx M N → (0 ≤ N 19 4 ∨ (SI false N ∧ bs_ok N ∧ mO N = 0)) → Kf N) → m_rd Kf f M := by
  intro f
  induction f with
  | zero =>
    intro M h
    omega
  | succ f ih =>
    intro M hf hM hK
    rw [m_rd]
    by_cases c0 : 0 ≤ M 19 4
    · rw [if_pos c0]
      exact hK M (frx.rf M) (Or.inl c0)
    rw [if_neg c0]
    obtain ⟨hS, hb, ht, htb, hat⟩ := hM.resolve_left c0
    have h4 : M 19 4 < 0 := Int32.not_le.mp c0
    have h400 := ht.2
    refine ⟨⟨ht, htb, hat⟩, ?_⟩
    have htx : tx_ok (vw M) := ht
    have hsl := f_skip_le (M := vw M) (pos := cl (M 19 2)) hat.2
    rw [vw_tl] at hsl
    have hss : sc_s (vw M) (cl (M 19 2)) = f_skip (vw M) (cl (M 19 2)) := by rfl
    rw [← hss] at hsl
    by_cases ce : sc_e (vw M) (cl (M 19 2)) = -1
    · rw [if_pos ce]
      intro a
      obtain ⟨a1, a2, a3, a4⟩ := tk2_c M (sc_s (vw M) (cl (M 19 2))) a
      generalize am_up (tkP M (sc_s (vw M) (cl (M 19 2)))) 19 2 a = N at a1 a2 a3 a4 ⊢
      have hx : tkx M N := ⟨a1, a2⟩
      refine hK _ (hx.x.tr (frm_fail N _).x) (Or.inl ?_)
      exact Int32.not_lt.mp (failM_ge (nI_pos (by omega)))
    rw [if_neg ce]
    by_cases c10 : sc_k (vw M) (cl (M 19 2)) = 10
    · rw [if_pos c10]
      refine ⟨hb.2.2, ?_⟩
      obtain ⟨a1, a2, a3, a4⟩ := tkP_c M (sc_s (vw M) (cl (M 19 2)))
      generalize tkP M (sc_s (vw M) (cl (M 19 2))) = N at a1 a2 a3 a4 ⊢
      have hx : tkx M N := ⟨a1, a2⟩
      unfold m_atEnd
      by_cases cO : mO N = 0
      · rw [if_pos cO]
        exact hK N hx.x (Or.inr ⟨tkx_SI hx hS, tkx_bs hx hb, cO⟩)
      · rw [if_neg cO]
        refine hK _ (hx.x.tr (frm_fail N _).x) (Or.inl ?_)
        refine Int32.not_lt.mp (failM_ge ?_)
        rw [a2 1 (by decide) (by decide), ht.1]
        exact nI_pos (by omega)
    rw [if_neg c10]
    obtain ⟨e, he, hse, hel⟩ := tend_in (M := vw M) htx (i := sc_s (vw M) (cl (M 19 2))) c10 ce
    have he2 : sc_e (vw M) (cl (M 19 2)) = nI e := he
    rw [vw_tl] at hel
    obtain ⟨a1, a2, a3, a4⟩ := tk2_c M (sc_s (vw M) (cl (M 19 2))) (sc_e (vw M) (cl (M 19 2)))
    have hkd : ∀ N : aM, tkx M N → N 19 2 = nI e → N 19 3 = nI (sc_s (vw M) (cl (M 19 2))) → (sc_k (vw M) (cl (M 19 2)) = 6 ∨ sc_k (vw M) (cl (M 19 2)) = 7 ∨ sc_k (vw M) (cl (M 19 2)) = 8 ∨ sc_k (vw M) (cl (M 19 2)) = 9 ∨ ((sc_k (vw M) (cl (M 19 2)) = 1 ∨ sc_k (vw M) (cl (M 19 2)) = 2 ∨ sc_k (vw M) (cl (M 19 2)) = 3) ∧ at_kd N (sc_k (vw M) (cl (M 19 2))))) := by
      intro N hx hN2 hN3
      have eE : m_e N = e := by unfold m_e; rw [hN2]; exact nI_clamp (by omega)
      have eP : m_pl N = sc_s (vw M) (cl (M 19 2)) := by unfold m_pl; rw [hN3]; exact nI_clamp (by omega)
      have hin : srt (bt (vw M 2) (tl (vw M)) (sc_s (vw M) (cl (M 19 2)))) = 10 ∨ _ := srt_in (bt (vw M 2) (tl (vw M)) (sc_s (vw M) (cl (M 19 2))))
      have hck : sc_k (vw M) (cl (M 19 2)) = srt (bt (vw M 2) (tl (vw M)) (sc_s (vw M) (cl (M 19 2)))) := by rfl
      rw [← hck] at hin he
      rcases hin with q | q | q | q | q | q | q | q | q
      · exact absurd q c10
      · rw [q] at he ⊢
        rw [ft_3, vw_2, vw_tl] at he
        refine Or.inr (Or.inr (Or.inr (Or.inr ⟨Or.inr (Or.inr rfl), Or.inr (Or.inr ⟨rfl, ?_⟩)⟩)))
        rw [eE, eP, (tkx_N hx).2.2.2, hx.1 20 (by decide)]
        exact he
      · exact Or.inr (Or.inr (Or.inl q))
      · exact Or.inl q
      · exact Or.inr (Or.inl q)
      · exact Or.inr (Or.inr (Or.inr (Or.inl q)))
      · exact Or.inr (Or.inr (Or.inr (Or.inr ⟨Or.inl q, Or.inl q⟩)))
      · rw [q] at he ⊢
        refine Or.inr (Or.inr (Or.inr (Or.inr ⟨Or.inr (Or.inl rfl), Or.inr (Or.inl ⟨rfl, ?_⟩)⟩)))
        rw [eE, eP]
        have hf : f_tend (vw M) (sc_s (vw M) (cl (M 19 2))) 2 = f_name (vw M) (sc_s (vw M) (cl (M 19 2))) := by
          unfold f_tend
          rw [if_neg (by decide), if_pos rfl]
        rw [hf] at he
        unfold f_name at he
        by_cases z : 12 < f_word (vw M) (sc_s (vw M) (cl (M 19 2))) - sc_s (vw M) (cl (M 19 2))
        · rw [if_pos z] at he
          exact absurd he.symm (nI_ne (by omega))
        · rw [if_neg z] at he
          have hwl := f_word_le htx (i := sc_s (vw M) (cl (M 19 2))) (by omega)
          have := (nI_eq (by omega) (by omega)).mp he
          omega
      · exfalso
        rw [q, ft_11] at he
        exact nI_ne (by omega) he.symm
    have hNe : tkN M = am_up (tkP M (sc_s (vw M) (cl (M 19 2)))) 19 2 (sc_e (vw M) (cl (M 19 2))) := by rfl
    rw [← hNe] at a1 a2 a3 a4
    rw [he2] at a3
    generalize tkN M = N at a1 a2 a3 a4 ⊢
    have hx : tkx M N := ⟨a1, a2⟩
    have hkd2 := hkd N hx a3 a4
    have htN := tkx_mt hx ht
    have eT := (tkx_N hx).2.2.2
    have eE : m_e N = e := by unfold m_e; rw [a3]; exact nI_clamp (by omega)
    have eP : m_pl N = sc_s (vw M) (cl (M 19 2)) := by unfold m_pl; rw [a4]; exact nI_clamp (by omega)
    have hplN : pl_ok N := ⟨by rw [eP, a4], by rw [eE, a3], by rw [eP, eE]; exact hse, by rw [eE, eT]; exact hel⟩
    have h4N : N 19 4 < 0 := by rw [a2 4 (by decide) (by decide)]; exact h4
    have htbN : tb_ok N := by
      intro i hi
      rw [a1 20 (by decide)]
      rw [eT] at hi
      exact htb i hi
    have hce : cl (N 19 2) = e := by rw [a3]; exact nI_clamp (by omega)
    have hatN : at_ok N := ⟨by rw [hce, a3], by rw [hce, eT]; exact hel⟩
    obtain ⟨p1, p2⟩ := act_ok (tkx_SI hx hS) (tkx_bs hx hb) htN hplN h4N hkd2
    refine ⟨p1, ?_⟩
    have hfr := frm_act N (sc_k (vw M) (cl (M 19 2)))
    generalize m_act N (sc_k (vw M) (cl (M 19 2))) = P at p2 hfr ⊢
    obtain ⟨r1, r2, r3, r4, r5⟩ := frm_mt hfr htN htbN hatN
    refine ih P (by rw [r4, r5, hce, eT]; omega) ?_ (fun Q hQ hq => hK Q ((hx.x.tr hfr.x).tr hQ) hq)
    exact p2.imp id (fun z => ⟨z.1, z.2, r1, r2, r3⟩)
