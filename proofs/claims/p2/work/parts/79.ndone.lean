/-! AFTER A DOTTED TAIL: nothing but the bracket's end -/
theorem act_f3 {N : aM} {o : Nat} {k : Int32} (hO : mO N = o + 1) (hs : N 29 o = 3) (hp : ¬ N 19 3 < 0) (hk : TokK N k) (h7 : ¬ k = 7) : 0 ≤ m_act N k 19 4 := by
  have h1 : mO N - 1 = o := by omega
  have hb : ¬ m_beg N 19 4 < 0 := by
    unfold m_beg
    rw [if_neg (by omega), h1, if_pos hs]
    exact failM_ge hp
  have hA : ¬ m_opA N 19 4 < 0 := by
    unfold m_opA
    split
    · exact failM_ge (by rw [beg_19 N 3 (by decide) (by decide)]; exact hp)
    · exact hb
  have eo : ∀ q, m_open q N = m_opA N := fun q => by unfold m_open; rw [if_neg hA]
  unfold m_act
  rcases hk with rfl | rfl | rfl | rfl | ⟨q, -⟩
  · rw [if_pos rfl, eo]; exact Int32.not_lt.mp hA
  · exact absurd rfl h7
  · rw [if_neg (by decide), if_pos rfl, eo]; exact Int32.not_lt.mp hA
  · rw [if_neg (by decide), if_neg (by decide), if_neg (by decide), if_pos rfl]
    unfold m_pt
    rw [if_neg (by omega), h1, if_neg (by rw [hs]; decide)]
    exact Int32.not_lt.mp (failM_ge hp)
  · rw [if_neg (by rcases q with q | q | q <;> rw [q] <;> decide), if_neg (by rcases q with q | q | q <;> rw [q] <;> decide), if_neg (by rcases q with q | q | q <;> rw [q] <;> decide), if_neg (by rcases q with q | q | q <;> rw [q] <;> decide)]
    unfold m_dat
    rw [if_neg hb]
    exact Int32.not_lt.mp hb
theorem doomed3 {Kf : aM → Prop} {V R : aM} {i o f : Nat} (hV : tx_ok V) (ho : okT V i) (hb : bdy R) (h1 : R 19 1 = V 1 1) (h2 : R 20 = V 2) (h3 : R 19 2 = nI (pos V i)) (hO : mO R = o + 1) (hs : R 29 o = 3) (h7 : ¬ sc_e V (pos V i) = -1 → ¬ sc_k V (pos V i) = 7) (hf : m_tl R - pos V i < f) (hK : fltK Kf R) : m_rd Kf f R := by
  obtain ⟨f, rfl⟩ : ∃ q, f = q + 1 := ⟨f - 1, by omega⟩
  obtain ⟨l1, l2⟩ := pos_le hV i ho
  have h400 := hV.2
  have hp : cl (R 19 2) = pos V i := by rw [h3]; exact nI_clamp (by omega)
  obtain ⟨v1, v2, v3⟩ := vw_sc h1 h2 (pos V i)
  by_cases ce : sc_e V (pos V i) = -1
  · exact rd_bad hb (by rw [hp, v3]; exact ce) hK
  by_cases c10 : sc_k V (pos V i) = 10
  · exact rd_end hb (by rw [hp, v3]; exact ce) (by rw [hp, v2]; exact c10) (fun _ => hK) (fun z => absurd z (by omega))
  have etl : m_tl R = tl V := by unfold m_tl tl; rw [h1]
  have hps := (f_skip_le (M := V) l2).1
  have hss : sc_s V (pos V i) = f_skip V (pos V i) := by rfl
  refine rd_act hb (by rw [hp, v3]; exact ce) (by rw [hp, v2]; exact c10) ?_
  rw [hp, v1, v2, v3]
  intro N e a1 a2 a3 hx n2 n3 hbN hpl htk hfr ha hab
  obtain ⟨f, rfl⟩ : ∃ q, f = q + 1 := ⟨f - 1, by omega⟩
  have hpN : ¬ N 19 3 < 0 := by rw [n3]; exact nI_pos (by omega)
  obtain ⟨t1, t2, t3, t4⟩ := tkx_N hx
  have e29 := hx.1 29 (by decide)
  exact rd_flt hK hfr (act_f3 (by rw [t3]; exact hO) (by rw [e29]; exact hs) hpN htk (h7 ce))
