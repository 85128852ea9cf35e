/-! A BRACKET'S END, under any continuation -/
theorem rd_close {Kf : aM → Prop} {V R : aM} {i o f : Nat} (hV : tx_ok V) (ho : okT V i) (hb : bdy R) (h1 : R 19 1 = V 1 1) (h2 : R 20 = V 2) (h3 : R 19 2 = nI (pos V i)) (hO : mO R = o + 1) (hs : R 29 o = 0 ∨ R 29 o = 1 ∨ R 29 o = 3) (ce : ¬ sc_e V (pos V i) = -1) (hk : sc_k V (pos V i) = 7) (hf : m_tl R - pos V i < f)
    (hA : ∀ (N : aM) (g : Nat), tkx R N → bdy N → ¬ N 19 3 < 0 → N 19 2 = nI (pos V (i + 1)) → okT V (i + 1) → pos V i < pos V (i + 1) → m_tl R - pos V (i + 1) < g → cl_no N = false → m_rd Kf g (if (m_clN N).2 19 4 < 0 then m_end (o + 1) (m_clN N).1 (am_up (m_clN N).2 19 13 (nI o)) else (m_clN N).2)) : m_rd Kf f R := by
  obtain ⟨f, rfl⟩ : ∃ q, f = q + 1 := ⟨f - 1, by omega⟩
  obtain ⟨l1, l2⟩ := pos_le hV i ho
  have h400 := hV.2
  have hp : cl (R 19 2) = pos V i := by rw [h3]; exact nI_clamp (by omega)
  obtain ⟨v1, v2, v3⟩ := vw_sc h1 h2 (pos V i)
  have c10 : ¬ sc_k V (pos V i) = 10 := by rw [hk]; decide
  have etl : m_tl R = tl V := by unfold m_tl tl; rw [h1]
  have hps := (f_skip_le (M := V) l2).1
  have hss : sc_s V (pos V i) = f_skip V (pos V i) := by rfl
  refine rd_act hb (by rw [hp, v3]; exact ce) (by rw [hp, v2]; exact c10) ?_
  rw [hp, v1, v2, v3]
  intro N e a1 a2 a3 hx n2 n3 hbN hpl htk hfr ha hab
  have hpN : ¬ N 19 3 < 0 := by rw [n3]; exact nI_pos (by omega)
  obtain ⟨t1, t2, t3, t4⟩ := tkx_N hx
  have hpe := pos_s a1 (by omega)
  have hON : mO N = o + 1 := by rw [t3]; exact hO
  have ho1 : mO N - 1 = o := by omega
  have hno : cl_no N = false := by
    unfold cl_no
    rw [ho1, hx.1 29 (by decide), hON]
    rcases hs with q | q | q <;> simp [q]
  have ea : m_act N (sc_k V (pos V i)) = if (m_clN N).2 19 4 < 0 then m_end (o + 1) (m_clN N).1 (am_up (m_clN N).2 19 13 (nI o)) else (m_clN N).2 := by
    rw [hk]
    unfold m_act
    rw [if_neg (by decide), if_neg (by decide), if_pos rfl]
    unfold m_close
    rw [if_neg (by rw [hno]; decide), ho1, hON]
  rw [ea]
  exact hA N f hx hbN hpN (by rw [n2, hpe]) (ho.s ce c10) (by omega) (by omega) hno
/-- what the end makes of the bracket, by its state -/
theorem clN_0 {N : aM} {o : Nat} (hO : mO N = o + 1) (hs : N 29 o = 0) : m_clN N = m_nd N 5 := by
  unfold m_clN
  rw [show mO N - 1 = o by omega, hs, if_pos (by decide), if_pos rfl]
theorem clN_1 {N : aM} {o : Nat} (hO : mO N = o + 1) (hs : N 29 o = 1) : m_clN N = (N 27 o, am_up (m_nd N 5).2 25 (cl (N 28 o)) (m_nd N 5).1) := by
  unfold m_clN
  rw [show mO N - 1 = o by omega, hs, if_pos (by decide), if_neg (by decide)]
theorem clN_3 {N : aM} {o : Nat} (hO : mO N = o + 1) (hs : N 29 o = 3) : m_clN N = (N 27 o, N) := by
  unfold m_clN
  rw [show mO N - 1 = o by omega, hs, if_neg (by decide)]
