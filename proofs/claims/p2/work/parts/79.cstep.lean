/-! ONE TOKEN OF THE REFERENCE, whatever comes after -/
/-- between two tokens, no fault so far -/
def bdy (M : aM) : Prop := M 19 4 < 0 ∧ SI false M ∧ bs_ok M ∧ mt_ok M ∧ tb_ok M ∧ at_ok M
def fltK (Kf : aM → Prop) (M : aM) : Prop := ∀ N, frx M N → 0 ≤ N 19 4 → Kf N
theorem fltK.of {Kf : aM → Prop} {M N : aM} (h : fltK Kf M) (hx : frx M N) : fltK Kf N := fun P hP h4 => h P (hx.tr hP) h4
theorem rd_flt {Kf : aM → Prop} {M N : aM} {f : Nat} (hK : fltK Kf M) (hx : frx M N) (h4 : 0 ≤ N 19 4) : m_rd Kf (f + 1) N := by
  rw [m_rd, if_pos h4]
  exact hK N hx h4
theorem rd_bad {Kf : aM → Prop} {M : aM} {f : Nat} (h : bdy M) (ce : sc_e (vw M) (cl (M 19 2)) = -1) (hK : fltK Kf M) : m_rd Kf (f + 1) M := by
  obtain ⟨h4, hS, hb, ht, htb, hat⟩ := h
  have h400 := ht.2
  rw [m_rd, if_neg (Int32.not_le.mpr h4)]
  refine ⟨⟨ht, htb, hat⟩, ?_⟩
  have hsl := f_skip_le (M := vw M) (pos := cl (M 19 2)) hat.2
  rw [vw_tl] at hsl
  have hss : sc_s (vw M) (cl (M 19 2)) = f_skip (vw M) (cl (M 19 2)) := by rfl
  rw [← hss] at hsl
  rw [if_pos ce]
  intro a
  obtain ⟨a1, a2, a3, a4⟩ := tk2_c M (sc_s (vw M) (cl (M 19 2))) a
  generalize am_up (tkP M (sc_s (vw M) (cl (M 19 2)))) 19 2 a = N at a1 a2 a3 a4 ⊢
  have hx : tkx M N := ⟨a1, a2⟩
  refine hK _ (hx.x.tr (frm_fail N _).x) ?_
  exact Int32.not_lt.mp (failM_ge (nI_pos (by omega)))
/-- the text's end -/
theorem rd_end {Kf : aM → Prop} {M : aM} {f : Nat} (h : bdy M) (ce : ¬ sc_e (vw M) (cl (M 19 2)) = -1) (c10 : sc_k (vw M) (cl (M 19 2)) = 10) (hK : ¬ mO M = 0 → fltK Kf M) (hE : mO M = 0 → ∀ N, tkx M N → Kf N) : m_rd Kf (f + 1) M := by
  obtain ⟨h4, hS, hb, ht, htb, hat⟩ := h
  have h400 := ht.2
  rw [m_rd, if_neg (Int32.not_le.mpr h4)]
  refine ⟨⟨ht, htb, hat⟩, ?_⟩
  rw [if_neg ce, if_pos c10]
  refine ⟨hb.2.2, ?_⟩
  obtain ⟨a1, a2, a3, a4⟩ := tkP_c M (sc_s (vw M) (cl (M 19 2)))
  generalize tkP M (sc_s (vw M) (cl (M 19 2))) = N at a1 a2 a3 a4 ⊢
  have hx : tkx M N := ⟨a1, a2⟩
  unfold m_atEnd
  by_cases cO : mO N = 0
  · rw [if_pos cO]
    exact hE (by rw [← (tkx_N hx).2.2.1]; exact cO) N hx
  · rw [if_neg cO]
    refine hK (by rw [← (tkx_N hx).2.2.1]; exact cO) _ (hx.x.tr (frm_fail N _).x) ?_
    refine Int32.not_lt.mp (failM_ge ?_)
    rw [a2 1 (by decide) (by decide), ht.1]
    exact nI_pos (by omega)
/-- a token that is acted on -/
def TokK (N : aM) (k : Int32) : Prop := k = 6 ∨ k = 7 ∨ k = 8 ∨ k = 9 ∨ ((k = 1 ∨ k = 2 ∨ k = 3) ∧ at_kd N k)
theorem rd_act {Kf : aM → Prop} {M : aM} {f : Nat} (h : bdy M) (ce : ¬ sc_e (vw M) (cl (M 19 2)) = -1) (c10 : ¬ sc_k (vw M) (cl (M 19 2)) = 10)
    (hA : ∀ (N : aM) (e : Nat), sc_e (vw M) (cl (M 19 2)) = nI e → sc_s (vw M) (cl (M 19 2)) < e → e ≤ m_tl M → tkx M N → N 19 2 = nI e → N 19 3 = nI (sc_s (vw M) (cl (M 19 2))) → bdy N → pl_ok N → TokK N (sc_k (vw M) (cl (M 19 2))) → frx M (m_act N (sc_k (vw M) (cl (M 19 2)))) → m_act N (sc_k (vw M) (cl (M 19 2))) 19 2 = nI e → (0 ≤ m_act N (sc_k (vw M) (cl (M 19 2))) 19 4 ∨ bdy (m_act N (sc_k (vw M) (cl (M 19 2))))) → m_rd Kf f (m_act N (sc_k (vw M) (cl (M 19 2))))) : m_rd Kf (f + 1) M := by
  obtain ⟨h4, hS, hb, ht, htb, hat⟩ := h
  have h400 := ht.2
  rw [m_rd, if_neg (Int32.not_le.mpr h4)]
  refine ⟨⟨ht, htb, hat⟩, ?_⟩
  have htx : tx_ok (vw M) := ht
  have hsl := f_skip_le (M := vw M) (pos := cl (M 19 2)) hat.2
  rw [vw_tl] at hsl
  have hss : sc_s (vw M) (cl (M 19 2)) = f_skip (vw M) (cl (M 19 2)) := by rfl
  rw [← hss] at hsl
  rw [if_neg ce, if_neg c10]
  obtain ⟨e, he, hse, hel⟩ := tend_in (M := vw M) htx (i := sc_s (vw M) (cl (M 19 2))) c10 ce
  have he2 : sc_e (vw M) (cl (M 19 2)) = nI e := he
  rw [vw_tl] at hel
  obtain ⟨a1, a2, a3, a4⟩ := tk2_c M (sc_s (vw M) (cl (M 19 2))) (sc_e (vw M) (cl (M 19 2)))
  have hkd : ∀ N : aM, tkx M N → N 19 2 = nI e → N 19 3 = nI (sc_s (vw M) (cl (M 19 2))) → (sc_k (vw M) (cl (M 19 2)) = 6 ∨ sc_k (vw M) (cl (M 19 2)) = 7 ∨ sc_k (vw M) (cl (M 19 2)) = 8 ∨ sc_k (vw M) (cl (M 19 2)) = 9 ∨ ((sc_k (vw M) (cl (M 19 2)) = 1 ∨ sc_k (vw M) (cl (M 19 2)) = 2 ∨ sc_k (vw M) (cl (M 19 2)) = 3) ∧ at_kd N (sc_k (vw M) (cl (M 19 2))))) := by
    intro N hx hN2 hN3
    have eE : m_e N = e := by unfold m_e; rw [hN2]; exact nI_clamp (by omega)
    have eP : m_pl N = sc_s (vw M) (cl (M 19 2)) := by unfold m_pl; rw [hN3]; exact nI_clamp (by omega)
    have hin : srt (bt (vw M 2) (tl (vw M)) (sc_s (vw M) (cl (M 19 2)))) = 10 ∨ _ := srt_in (bt (vw M 2) (tl (vw M)) (sc_s (vw M) (cl (M 19 2))))
    have hck : sc_k (vw M) (cl (M 19 2)) = srt (bt (vw M 2) (tl (vw M)) (sc_s (vw M) (cl (M 19 2)))) := by rfl
    rw [← hck] at hin he
    rcases hin with q | q | q | q | q | q | q | q | q
    · exact absurd q c10
    · rw [q] at he ⊢
      rw [ft_3, vw_2, vw_tl] at he
      refine Or.inr (Or.inr (Or.inr (Or.inr ⟨Or.inr (Or.inr rfl), Or.inr (Or.inr ⟨rfl, ?_⟩)⟩)))
      rw [eE, eP, (tkx_N hx).2.2.2, hx.1 20 (by decide)]
      exact he
    · exact Or.inr (Or.inr (Or.inl q))
    · exact Or.inl q
    · exact Or.inr (Or.inl q)
    · exact Or.inr (Or.inr (Or.inr (Or.inl q)))
    · exact Or.inr (Or.inr (Or.inr (Or.inr ⟨Or.inl q, Or.inl q⟩)))
    · rw [q] at he ⊢
      refine Or.inr (Or.inr (Or.inr (Or.inr ⟨Or.inr (Or.inl rfl), Or.inr (Or.inl ⟨rfl, ?_⟩)⟩)))
      rw [eE, eP]
      have hf : f_tend (vw M) (sc_s (vw M) (cl (M 19 2))) 2 = f_name (vw M) (sc_s (vw M) (cl (M 19 2))) := by
        unfold f_tend
        rw [if_neg (by decide), if_pos rfl]
      rw [hf] at he
      unfold f_name at he
      by_cases z : 12 < f_word (vw M) (sc_s (vw M) (cl (M 19 2))) - sc_s (vw M) (cl (M 19 2))
      · rw [if_pos z] at he
        exact absurd he.symm (nI_ne (by omega))
      · rw [if_neg z] at he
        have hwl := f_word_le htx (i := sc_s (vw M) (cl (M 19 2))) (by omega)
        have := (nI_eq (by omega) (by omega)).mp he
        omega
    · exfalso
      rw [q, ft_11] at he
      exact nI_ne (by omega) he.symm
  have hNe : tkN M = am_up (tkP M (sc_s (vw M) (cl (M 19 2)))) 19 2 (sc_e (vw M) (cl (M 19 2))) := by rfl
  rw [← hNe] at a1 a2 a3 a4
  rw [he2] at a3
  have hA2 := hA (tkN M) e he2 hse hel
  generalize tkN M = N at a1 a2 a3 a4 hA2 ⊢
  have hx : tkx M N := ⟨a1, a2⟩
  have hkd2 := hkd N hx a3 a4
  have htN := tkx_mt hx ht
  have eT := (tkx_N hx).2.2.2
  have eE : m_e N = e := by unfold m_e; rw [a3]; exact nI_clamp (by omega)
  have eP : m_pl N = sc_s (vw M) (cl (M 19 2)) := by unfold m_pl; rw [a4]; exact nI_clamp (by omega)
  have hplN : pl_ok N := ⟨by rw [eP, a4], by rw [eE, a3], by rw [eP, eE]; exact hse, by rw [eE, eT]; exact hel⟩
  have h4N : N 19 4 < 0 := by rw [a2 4 (by decide) (by decide)]; exact h4
  have htbN : tb_ok N := by
    intro i hi
    rw [a1 20 (by decide)]
    rw [eT] at hi
    exact htb i hi
  have hce : cl (N 19 2) = e := by rw [a3]; exact nI_clamp (by omega)
  have hatN : at_ok N := ⟨by rw [hce, a3], by rw [hce, eT]; exact hel⟩
  have hSN := tkx_SI hx hS
  have hbN := tkx_bs hx hb
  obtain ⟨p1, p2⟩ := act_ok hSN hbN htN hplN h4N hkd2
  refine ⟨p1, ?_⟩
  have hfr := frm_act N (sc_k (vw M) (cl (M 19 2)))
  obtain ⟨r1, r2, r3, r4, r5⟩ := frm_mt hfr htN htbN hatN
  refine hA2 hx a3 a4 ⟨h4N, hSN, hbN, htN, htbN, hatN⟩ hplN hkd2 (hx.x.tr hfr.x) ((hfr.2 2 (Or.inr (Or.inl rfl))).trans a3) ?_
  by_cases c4 : 0 ≤ m_act N (sc_k (vw M) (cl (M 19 2))) 19 4
  · exact Or.inl c4
  · obtain ⟨z1, z2⟩ := p2.resolve_left c4
    exact Or.inr ⟨Int32.not_le.mp c4, z1, z2, r1, r2, r3⟩
