/-! ANY DATUM, but for lists and quotes -/
theorem top_st {M : aM} {o : Nat} (h : SI false M) (ho : mO M = o + 1) : M 29 o = 0 ∨ M 29 o = 1 ∨ M 29 o = 2 ∨ M 29 o = 3 ∨ M 29 o = 4 := by
  rcases h.2.1 o (by omega) with ⟨a, -, -⟩ | ⟨a, -⟩
  · exact Or.inl a
  · rcases a with a | a | a | ⟨a, -, -⟩
    · exact Or.inr (Or.inl a)
    · exact Or.inr (Or.inr (Or.inl a))
    · exact Or.inr (Or.inr (Or.inr (Or.inr a)))
    · exact Or.inr (Or.inr (Or.inr (Or.inl a)))
theorem TKp_tkx {M N : aM} {k : Int32} (h : tkx M N) (hk : TKp M k) : TKp N k := by
  obtain ⟨a, b, c, d⟩ := tkx_N h
  unfold TKp
  rw [c, h.1 29 (by decide)]
  exact hk
/-- a bracket's end or a point, where a datum is due -/
theorem dd_no {N : aM} {k : Int32} (hS : SI false N) (hp : ¬ N 19 3 < 0) (hK : bgK N) (hT : TKp N k) (hk : k = 7 ∨ k = 9) : 0 ≤ m_act N k 19 4 := by
  have z : 0 ≤ failM N (N 19 3) 19 4 := Int32.not_lt.mp (failM_ge hp)
  have hst : mO N = 0 ∨ ∃ o, mO N = o + 1 := by
    cases q : mO N with
    | zero => exact Or.inl rfl
    | succ o => exact Or.inr ⟨o, rfl⟩
  unfold m_act
  rcases hk with rfl | rfl
  · rw [if_neg (by decide), if_neg (by decide), if_pos rfl]
    have hno : cl_no N = true := by
      unfold cl_no
      rcases hst with q | ⟨o, ho⟩
      · simp [q]
      · have h1 : mO N - 1 = o := by omega
        have h2 := hK (by omega)
        have h3 := hT.2 (by omega)
        rw [h1] at h2 h3 ⊢
        rcases top_st hS ho with q | q | q | q | q
        · exact absurd rfl (h3 (by rw [q]; decide)).1
        · exact absurd rfl (h3 (by rw [q]; decide)).1
        · simp [q]
        · exact absurd q h2.1
        · simp [q]
    unfold m_close
    rw [if_pos hno]
    exact z
  · rw [if_neg (by decide), if_neg (by decide), if_neg (by decide), if_pos rfl]
    unfold m_pt
    rcases hst with q | ⟨o, ho⟩
    · rw [if_pos q]; exact z
    · have h3 := hT.2 (by omega)
      rw [if_neg (by omega)]
      have h1 : mO N - 1 = o := by omega
      rw [h1] at h3 ⊢
      by_cases c : N 29 o = 1
      · exact absurd rfl ((h3 (by rw [c]; decide)).2 c)
      · rw [if_neg c]; exact z
/-- no more than 15 may be open -/
theorem dd_15 {N : aM} {k : Int32} (hp : ¬ N 19 3 < 0) (hO : mO N = 15) (hk : k = 6 ∨ k = 8) : 0 ≤ m_act N k 19 4 := by
  have hpB : ¬ m_beg N 19 3 < 0 := by rw [beg_19 N 3 (by decide) (by decide)]; exact hp
  have z : ¬ m_opA N 19 4 < 0 := by
    unfold m_opA
    rw [if_pos hO]
    exact failM_ge hpB
  have e : ∀ q, m_open q N = m_opA N := fun q => by unfold m_open; rw [if_neg z]
  unfold m_act
  rcases hk with rfl | rfl
  · rw [if_pos rfl, e]; exact Int32.not_lt.mp z
  · rw [if_neg (by decide), if_pos rfl, e]; exact Int32.not_lt.mp z
theorem rdD_at {C : aM} (j : Nat) (hk : tkS C = 1 ∨ tkS C = 2 ∨ tkS C = 3) : rdD j C = atD C (tkS C) := by
  unfold atD
  cases j with
  | zero => unfold rdD; rcases hk with q | q | q <;> rw [q] <;> rfl
  | succ j => unfold rdD; rcases hk with q | q | q <;> rw [q] <;> rfl
theorem rdD_no {C : aM} (j : Nat) (hk : tkS C = 7 ∨ tkS C = 9 ∨ tkS C = 10 ∨ tkS C = 11) : (rdD j C).1 = -1 := by
  cases j with
  | zero => unfold rdD; rcases hk with q | q | q | q <;> rw [q] <;> rfl
  | succ j => unfold rdD; rcases hk with q | q | q | q <;> rw [q] <;> rfl
theorem rdD_z {C : aM} (hk : tkS C = 6 ∨ tkS C = 8) : (rdD 0 C).1 = -1 := by
  unfold rdD; rcases hk with q | q <;> rw [q] <;> rfl
theorem dd_gen {V : aM} {j o : Nat} (H : ∀ (Kf : aM → Prop) (C R N : aM) (i n lc e g : Nat) (k : Int32), k = 6 ∨ k = 8 → tkS C = k → mO R = o → DB V C R i n lc → m_tl R - pos V i < g + 1 → pos V i < e → e ≤ m_tl R → pos V (i + 1) = e → okT V (i + 1) → tkx R N → N 19 2 = nI e → ¬ N 19 3 < 0 → bdy N → frx R (m_act N k) → m_act N k 19 2 = nI e → (0 ≤ m_act N k 19 4 ∨ bdy (m_act N k)) → ((rdD j C).1 = -1 → fltK Kf R) → (∀ (S : aM) (f' i' n' lc' m : Nat), (rdD j C).1 = nI m → DA V (rdD j C).2 S i' n' lc' m → DK (bgM R) S → frx R S → n < n' → m_tl R - pos V (i' + 1) < f' → m_rd Kf f' (m_end (o + 1) (nI m) S)) → m_rd Kf g (m_act N k)) : DD V (rdD j) o := by
  intro Kf C R i n lc f hO h hT hfu hF hC
  refine dd_cases h hT hfu (fun z => hF (rdD_no j (by rcases z with z | z; exact Or.inr (Or.inr (Or.inl z)); exact Or.inr (Or.inr (Or.inr z))))) ?_
  intro N e g hg k1 hb he hps hse het hpe ho1 hsc hx n2 n3 hbN hpl htk hfr ha2 hab
  subst hg
  have hl4 := h.1.1.2
  have etl : m_tl R = tl V := by unfold m_tl tl; rw [h.2.2.2.2.1]
  have hp : ¬ N 19 3 < 0 := by rw [n3]; exact nI_pos (by omega)
  have hno : (rdD j C).1 = -1 → 0 ≤ m_act N (tkS C) 19 4 → m_rd Kf g (m_act N (tkS C)) := fun z1 z2 => by
    obtain ⟨g, rfl⟩ : ∃ q, g = q + 1 := ⟨g - 1, by omega⟩
    exact rd_flt (hF z1) hfr z2
  have hkN := bgK_tkx hx h.2.2.2.2.2.2.2.1
  have hTN := TKp_tkx hx hT
  rcases htk with q | q | q | q | ⟨q, qa⟩
  · have := H Kf C R N i n lc e g (tkS C) (Or.inl q) rfl hO h hfu (by omega) het hpe ho1 hx n2 hp hbN hfr ha2 hab hF hC
    exact this
  · exact hno (rdD_no j (Or.inl q)) (dd_no hbN.2.1 hp hkN hTN (Or.inl q))
  · have := H Kf C R N i n lc e g (tkS C) (Or.inr q) rfl hO h hfu (by omega) het hpe ho1 hx n2 hp hbN hfr ha2 hab hF hC
    exact this
  · exact hno (rdD_no j (Or.inr (Or.inl q))) (dd_no hbN.2.1 hp hkN hTN (Or.inr q))
  · rw [rdD_at j q] at hF hC
    have ea : m_act N (tkS C) = m_dat N (tkS C) := by
      unfold m_act
      rw [if_neg (by rcases q with q | q | q <;> rw [q] <;> decide), if_neg (by rcases q with q | q | q <;> rw [q] <;> decide), if_neg (by rcases q with q | q | q <;> rw [q] <;> decide), if_neg (by rcases q with q | q | q <;> rw [q] <;> decide)]
    rw [ea]
    have hft : f_tend V (sc_s V (pos V i)) (tkS C) = nI e := by unfold sc_e at hsc; rw [k1]; exact hsc
    exact dd_at h hO q hfu hb he hps hse het hpe ho1 hft hx n2 n3 hbN hpl qa hF hC
theorem D_0 (V : aM) : DD V (rdD 0) 15 := by
  apply dd_gen
  intro Kf C R N i n lc e g k hk htk hO h hfu hpe1 het hpe ho1 hx n2 hp hbN hfr ha2 hab hF hC
  obtain ⟨g, rfl⟩ : ∃ q, g = q + 1 := ⟨g - 1, by omega⟩
  refine rd_flt (hF (rdD_z (by rw [htk]; exact hk))) hfr (dd_15 hp ?_ hk)
  rw [(tkx_N hx).2.2.1, hO]
