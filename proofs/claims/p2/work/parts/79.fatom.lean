/-! A DATUM THAT STANDS BY ITSELF, on both sides -/
def atD (C : aM) (k : Int32) : Int32 × aM := if k = 1 then r_num C else if k = 2 then r_name C else r_str C
theorem at_all {V C B : aM} {s e N n lc : Nat} {k : Int32} (h : AtP C B s e N n lc) (hn : n < 200) (hV : tx_ok V) (hV2 : B 20 = V 2) (hVN : tl V = N) (hk : k = 1 ∨ k = 2 ∨ k = 3) (ha : at_kd B k) (ht : f_tend V s k = nI e) : AtQ C B (atD C k) k s e n lc := by
  have h' := h
  obtain ⟨h1, h2, h3, h4, h5, h6, h7, h8, h9, h10, hN, hL, hl⟩ := h'
  unfold atD
  rcases hk with rfl | rfl | rfl
  · rw [if_pos rfl]
    have e1 : f_tend V s 1 = f_num V s := by unfold f_tend; rw [if_pos rfl]
    rw [e1] at ht
    obtain ⟨a, b⟩ := num_tok hV (s := s) (e := e) (by omega) ht (by omega)
    rw [← hV2] at a b
    exact at_num h hn a b
  · rw [if_neg (by decide), if_pos rfl]
    refine at_name h hn ?_
    rcases ha with q | ⟨-, q⟩ | ⟨q, -⟩
    · exact absurd q (by decide)
    · rw [h10, h9] at q; exact q
    · exact absurd q (by decide)
  · rw [if_neg (by decide), if_neg (by decide)]
    have q : stE (B 20) N 21 (s + 1) = nI e := by
      rcases ha with q | ⟨q, -⟩ | ⟨-, q⟩
      · exact absurd q (by decide)
      · exact absurd q (by decide)
      · rw [h8, h9, h10] at q; exact q
    have := stE_gt (by omega) 21 (s + 1) h5 (by omega) (by omega) q
    exact at_str h hn q (by omega)
theorem at_200 {C : aM} {k : Int32} (hk : k = 1 ∨ k = 2 ∨ k = 3) (h : C 3 5 = nI 200) : (atD C k).1 = -1 := by
  unfold atD
  rcases hk with rfl | rfl | rfl
  · rw [if_pos rfl]; unfold r_num; rw [(add_200 h).2]
  · rw [if_neg (by decide), if_pos rfl]; unfold r_name; rw [(add_200 h).2]
  · rw [if_neg (by decide), if_neg (by decide)]; unfold r_str; rw [(add_200 h).2]
theorem dk_at (C : aM) (k : Int32) : dk C (atD C k).2 := by
  unfold atD
  split
  · exact dk_num C
  split
  · exact dk_name C
  · exact dk_str C
theorem atm_c {B : aM} {k : Int32} (hk : at_kd B k) : ∀ q, ¬ q = 19 → ¬ q = 21 → ¬ q = 22 → ¬ q = 23 → ¬ q = 24 → ¬ q = 25 → m_atmM B k q = B q := by
  intro q q1 q2 q3 q4 q5 q6
  have hc := (new_c B k).1 q q1 q2 q3 q5 q6
  have n22 : m_new B k 22 (mN B) = nI 0 := by
    rw [(new_c B k).2.2.2.2.1, upd_eq]
    rfl
  unfold m_atmM
  rcases hk with hk | ⟨hk, hk2⟩ | ⟨hk, hk2⟩
  · subst hk
    rw [if_pos rfl, am_up_ne q3]
    exact hc
  · subst hk
    rw [if_neg (by decide), if_pos rfl]
    rw [(A2_22 (B 20) (mN B) (m_e B - m_pl B) (m_pl B) 0 (m_new B 2) n22 (by omega)).1 q q3 q4]
    exact hc
  · subst hk
    rw [if_neg (by decide), if_neg (by decide)]
    rw [(A3_22 (B 20) (m_tl B) (mN B) 21 (m_pl B + 1) 0 (m_new B 3) n22 (by omega)).1 q q3 q4]
    exact hc
theorem atm_11 {B : aM} {k : Int32} (hk : at_kd B k) : m_atmM B k 19 11 = B 19 11 := by
  have hc := (new_c B k).2.1 11 (by decide)
  have n22 : m_new B k 22 (mN B) = nI 0 := by
    rw [(new_c B k).2.2.2.2.1, upd_eq]
    rfl
  unfold m_atmM
  rcases hk with hk | ⟨hk, hk2⟩ | ⟨hk, hk2⟩
  · subst hk
    rw [if_pos rfl, am_up_ne (by decide)]
    exact hc
  · subst hk
    rw [if_neg (by decide), if_pos rfl]
    rw [(A2_22 (B 20) (mN B) (m_e B - m_pl B) (m_pl B) 0 (m_new B 2) n22 (by omega)).1 19 (by decide) (by decide)]
    exact hc
  · subst hk
    rw [if_neg (by decide), if_neg (by decide)]
    rw [(A3_22 (B 20) (m_tl B) (mN B) 21 (m_pl B + 1) 0 (m_new B 3) n22 (by omega)).1 19 (by decide) (by decide)]
    exact hc
theorem DK_tkx {A B S : aM} (h : tkx A B) (hk : DK B S) : DK A S := by
  obtain ⟨a, b, c, d⟩ := tkx_N h
  unfold DK at hk ⊢
  rw [c, h.1 26 (by decide), h.1 27 (by decide), h.1 28 (by decide), h.1 29 (by decide), h.2 11 (by decide) (by decide)] at hk
  exact hk
theorem dd_at {Kf : aM → Prop} {V C R N : aM} {i n lc e g o : Nat} {k : Int32} (h : DB V C R i n lc) (hO : mO R = o) (hk : k = 1 ∨ k = 2 ∨ k = 3) (hfu : m_tl R - pos V i < g + 1)
    (hb : r_beg C = nI (sc_s V (pos V i))) (he : r_end C = nI e) (hps : pos V i ≤ sc_s V (pos V i)) (hse : sc_s V (pos V i) < e) (het : e ≤ m_tl R) (hpe : pos V (i + 1) = e) (ho1 : okT V (i + 1)) (hft : f_tend V (sc_s V (pos V i)) k = nI e)
    (hx : tkx R N) (n2 : N 19 2 = nI e) (n3 : N 19 3 = nI (sc_s V (pos V i))) (hbN : bdy N) (hpl : pl_ok N) (hat : at_kd N k)
    (hF : (atD C k).1 = -1 → fltK Kf R) (hC : ∀ (S : aM) (f' i' n' lc' m : Nat), (atD C k).1 = nI m → DA V (atD C k).2 S i' n' lc' m → DK (bgM R) S → frx R S → n < n' → m_tl R - pos V (i' + 1) < f' → m_rd Kf f' (m_end (o + 1) (nI m) S)) : m_rd Kf g (m_dat N k) := by
  obtain ⟨d1, d2, d3, d4, d5, d6, d7, d8, d9, d10, d11⟩ := h
  obtain ⟨l1, l2, l3, l4⟩ := d1.lt d3
  obtain ⟨b1, b2, b3, b4, b5, b6⟩ := hbN
  have etl : m_tl R = tl V := by unfold m_tl tl; rw [d5]
  obtain ⟨g, rfl⟩ : ∃ q, g = q + 1 := ⟨g - 1, by omega⟩
  have hp : ¬ N 19 3 < 0 := by rw [n3]; exact nI_pos (by omega)
  have hkN := bgK_tkx hx d8
  have hBx := bg_tkx hx
  have eB := beg_bg hkN
  have cf : m_beg N 19 4 < 0 := by rw [eB, bg_19 N 4 (by decide)]; exact b1
  obtain ⟨g1, g2, g3, g4, -⟩ := T_beg b2 b3 hp cf
  have hfB := frm_beg N
  unfold m_dat
  rw [if_pos cf]
  have sN := StN_tkx d9 hBx
  have sL := StL_tkx d10 hBx
  rw [← eB] at sN sL hBx
  generalize m_beg N = B at cf g1 g2 g3 g4 hfB sN sL hBx ⊢
  have hm := StN_mN sN
  have hn200 := sN.2.2.1
  have f1 := hfB.2 1 (Or.inl rfl)
  have f2 := hfB.2 2 (Or.inr (Or.inl rfl))
  have f3 := hfB.2 3 (Or.inr (Or.inr (Or.inl rfl)))
  have f20 := hfB.1 20 (Or.inr (Or.inl rfl))
  have eT : m_tl B = m_tl R := by rw [← (tkx_N hx).2.2.2]; unfold m_tl; rw [f1]
  have eT2 : m_tl B = m_tl N := by unfold m_tl; rw [f1]
  have eP : m_pl B = sc_s V (pos V i) := by unfold m_pl; rw [f3, n3]; exact nI_clamp (by omega)
  have eP2 : m_pl B = m_pl N := by unfold m_pl; rw [f3]
  have eE : m_e B = e := by unfold m_e; rw [f2, n2]; exact nI_clamp (by omega)
  have eE2 : m_e B = m_e N := by unfold m_e; rw [f2]
  have hkB : at_kd B k := by
    unfold at_kd
    rw [eE2, eP2, eT2, f20]
    exact hat
  have hpB : ¬ B 19 3 < 0 := by rw [f3]; exact hp
  by_cases c2 : n = 200
  · have ea : m_atom B k = (0, failM B (B 19 3)) := by unfold m_atom; rw [if_pos (by omega)]
    rw [ea]
    have z : 0 ≤ failM B (B 19 3) 19 4 := Int32.not_lt.mp (failM_ge hpB)
    rw [m_end_f z]
    have hbad := hF (at_200 hk (by rw [sN.1, c2]))
    exact rd_flt hbad ((hx.x.tr hfB.x).tr (frm_fail B _).x) z
  · have ea : m_atom B k = (nI (mN B), m_atmM B k) := by unfold m_atom; rw [if_neg (by omega)]
    have hfa := frm_atom B k
    rw [ea] at hfa ⊢
    obtain ⟨t1, t2, t3, t4, t5, t6, t7⟩ := T_atom g1 g2 (by omega) hkB (by omega)
    have hP : AtP C B (sc_s V (pos V i)) e (tl V) n lc := ⟨hb, he, hse, by omega, l4, by rw [d1.2.1]; exact d1.1.1, by rw [d1.2.2.1, f20, hx.1 20 (by decide), d6], by omega, eP, eE, sN, sL, by omega⟩
    obtain ⟨r1, ⟨lc', r2, r3, r4⟩, r5⟩ := at_all hP (by omega) d1.1 (by rw [f20, hx.1 20 (by decide), d6]) rfl hk hkB hft
    have hla : 0 < mO B → cl (B 28 (mO B - 1)) < mN B := fun z => (g1.2.1.all (k := mO B - 1) (by omega)).2.2.2.2.1
    have hdn := g1.2.2.1
    have a27 := atm_c hkB 27 (by decide) (by decide) (by decide) (by decide) (by decide) (by decide)
    have a29 := atm_c hkB 29 (by decide) (by decide) (by decide) (by decide) (by decide) (by decide)
    have a26 := atm_c hkB 26 (by decide) (by decide) (by decide) (by decide) (by decide) (by decide)
    have a11 := atm_11 hkB
    dsimp only at hfa ⊢
    generalize m_atmM B k = S at t1 t2 t3 t4 t5 t6 t7 r3 r4 hfa a27 a29 a26 a11 ⊢
    have hdt : dt_ok S n := ⟨by omega, fun _ => by rw [t5]; omega, fun z => by rw [t4] at z ⊢; rw [t6, ← hm]; exact hla z⟩
    have hfNS : frm N S := hfB.tr hfa
    obtain ⟨m1, m2, m3, m4, m5⟩ := frm_mt hfNS b4 b5 b6
    rw [hm, (tkx_N hx).2.2.1, hO]
    refine hC S (g + 1) i (n + 1) lc' n r1 ?_ (DK_tkx hBx ⟨t4, a11, a26, fun q _ => by rw [a27, t6, a29]; exact ⟨rfl, rfl, rfl⟩⟩) (hx.x.tr hfNS.x) (by omega) (by omega)
    refine ⟨d1.of (dk_at C k), by rw [r5 11 (by decide) (by decide) (by decide) (by decide) (by decide) (by decide) (by decide)]; exact d2, ho1, by rw [t7]; exact cf, ?_, t1, t2, m1, m2, m3, hdt, ?_, ?_, ?_, r3, r4, by omega⟩
    · rw [hfNS.2 3 (Or.inr (Or.inr (Or.inl rfl)))]; exact hp
    · rw [hfNS.2 1 (Or.inl rfl), hx.2 1 (by decide) (by decide)]; exact d5
    · rw [hfNS.1 20 (Or.inr (Or.inl rfl)), hx.1 20 (by decide)]; exact d6
    · rw [hfNS.2 2 (Or.inr (Or.inl rfl)), n2, hpe]
