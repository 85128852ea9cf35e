/-! BEFORE AND AFTER A DATUM, on both sides -/
theorem tkx.rf (M : aM) : tkx M M := ⟨fun _ _ => rfl, fun _ _ _ => rfl⟩
theorem tkx.up {M N : aM} (h : tkx M N) (c j : Nat) (x : Int32) : tkx (am_up M c j x) (am_up N c j x) := by
  refine ⟨fun i hi => ?_, fun i h2 h3 => ?_⟩
  · rw [am_up_i, am_up_i]
    by_cases q : i = c
    · rw [if_pos q, if_pos q, ← q, h.1 i hi]
    · rw [if_neg q, if_neg q]; exact h.1 i hi
  · rw [am_up_ap, am_up_ap, h.2 i h2 h3]
theorem tkx.new {M N : aM} (h : tkx M N) (k : Int32) : tkx (m_new M k) (m_new N k) := by
  unfold m_new
  rw [(tkx_N h).1]
  exact ((((h.up _ _ _).up _ _ _).up _ _ _).up _ _ _).up _ _ _
/-- the begin of a datum, where it is no fault -/
def bgM (M : aM) : aM := if mO M = 0 then M else if M 29 (mO M - 1) < 2 then m_begP M (mO M - 1) (nI (mN M), m_new M 4) else M
def bgK (M : aM) : Prop := ¬ mO M = 0 → ¬ M 29 (mO M - 1) = 3 ∧ (M 29 (mO M - 1) < 2 → ¬ mN M = 200)
theorem beg_bg {M : aM} (h : bgK M) : m_beg M = bgM M := by
  unfold m_beg bgM
  by_cases c0 : mO M = 0
  · rw [if_pos c0, if_pos c0]
  obtain ⟨h3, h2⟩ := h c0
  rw [if_neg c0, if_neg c0, if_neg h3]
  by_cases c2 : M 29 (mO M - 1) < 2
  · rw [if_pos c2, if_pos c2, nd_s (h2 c2)]
  · rw [if_neg c2, if_neg c2]
theorem bg_tkx {M N : aM} (h : tkx M N) : tkx (bgM M) (bgM N) := by
  obtain ⟨a, b, c, d⟩ := tkx_N h
  unfold bgM
  rw [c, a, h.1 29 (by decide)]
  by_cases c0 : mO M = 0
  · rw [if_pos c0, if_pos c0]; exact h
  rw [if_neg c0, if_neg c0]
  by_cases c2 : M 29 (mO M - 1) < 2
  · rw [if_pos c2, if_pos c2]
    unfold m_begP
    rw [h.1 29 (by decide), h.1 28 (by decide)]
    split
    · exact (((h.new 4).up _ _ _).up _ _ _).up _ _ _
    · exact (((h.new 4).up _ _ _).up _ _ _).up _ _ _
  · rw [if_neg c2, if_neg c2]; exact h
theorem bgK_tkx {M N : aM} (h : tkx M N) (hk : bgK M) : bgK N := by
  obtain ⟨a, b, c, d⟩ := tkx_N h
  unfold bgK
  rw [c, a, h.1 29 (by decide)]
  exact hk
theorem bg_19 (M : aM) (j : Nat) (hj : ¬ j = 5) : bgM M 19 j = M 19 j := by
  unfold bgM m_begP
  split
  · rfl
  split
  · split <;> simp only [am_up_ap, m_new, hj, ↓reduceIte, Nat.reduceEqDiff]
  · rfl
theorem StN_tkx {C M N : aM} {n : Nat} (h : StN C M n) (hx : tkx M N) : StN C N n := by
  unfold StN at h ⊢
  rw [hx.2 5 (by decide) (by decide), hx.1 21 (by decide), hx.1 22 (by decide), hx.1 24 (by decide), hx.1 25 (by decide)]
  exact h
theorem StL_tkx {C M N : aM} {n lc : Nat} (h : StL C M n lc) (hx : tkx M N) : StL C N n lc := by
  unfold StL ltrs at h ⊢
  rw [hx.1 23 (by decide)]
  exact h
/-- before a datum: the desk stands at token i, the reference before it; the desk has made the pair that holds the datum, the reference makes it with the token -/
def DB (V C R : aM) (i n lc : Nat) : Prop := TT V C ∧ C 11 3 = nI i ∧ okT V i ∧ bdy R ∧ R 19 1 = V 1 1 ∧ R 20 = V 2 ∧ R 19 2 = nI (pos V i) ∧ bgK R ∧ StN C (bgM R) n ∧ StL C (bgM R) n lc ∧ lc ≤ 5 + pos V i
/-- after it: the desk stands at the datum's last token i, the reference behind it and before the end of datum m -/
def DA (V C R : aM) (i n lc m : Nat) : Prop := TT V C ∧ C 11 3 = nI i ∧ okT V (i + 1) ∧ R 19 4 < 0 ∧ ¬ R 19 3 < 0 ∧ SI true R ∧ bs_ok R ∧ mt_ok R ∧ tb_ok R ∧ at_ok R ∧ dt_ok R m ∧ R 19 1 = V 1 1 ∧ R 20 = V 2 ∧ R 19 2 = nI (pos V (i + 1)) ∧ StN C R n ∧ StL C R n lc ∧ lc ≤ 5 + pos V (i + 1)
/-- what a datum leaves alone in the reference -/
def DK (B R : aM) : Prop := mO R = mO B ∧ R 19 11 = B 19 11 ∧ R 26 = B 26 ∧ ∀ o, o < mO B → R 27 o = B 27 o ∧ R 28 o = B 28 o ∧ R 29 o = B 29 o
/-- the tokens at which a datum is read at all -/
def TKp (R : aM) (k : Int32) : Prop := (k = 10 → ¬ mO R = 0) ∧ (¬ mO R = 0 → R 29 (mO R - 1) < 2 → ¬ k = 7 ∧ (R 29 (mO R - 1) = 1 → ¬ k = 9))
/-- g, the desk's reading of a datum with o open, is what the reference does -/
def DD (V : aM) (g : aM → Int32 × aM) (o : Nat) : Prop := ∀ (Kf : aM → Prop) (C R : aM) (i n lc f : Nat), mO R = o → DB V C R i n lc → TKp R (tkS C) → m_tl R - pos V i < f → ((g C).1 = -1 → fltK Kf R) → (∀ (S : aM) (f' i' n' lc' m : Nat), (g C).1 = nI m → DA V (g C).2 S i' n' lc' m → DK (bgM R) S → frx R S → n < n' → m_tl R - pos V (i' + 1) < f' → m_rd Kf f' (m_end (o + 1) (nI m) S)) → m_rd Kf f R
theorem vw_sc {V R : aM} (h1 : R 19 1 = V 1 1) (h2 : R 20 = V 2) (p : Nat) : sc_s (vw R) p = sc_s V p ∧ sc_k (vw R) p = sc_k V p ∧ sc_e (vw R) p = sc_e V p := sc_same (V := vw R) (M := V) h1 h2 p
/-- a token, on both sides -/
theorem dd_cases {Kf : aM → Prop} {V C R : aM} {i n lc f : Nat} (h : DB V C R i n lc) (hT : TKp R (tkS C)) (hfu : m_tl R - pos V i < f) (hbad : tkS C = 10 ∨ tkS C = 11 → fltK Kf R)
    (hact : ∀ (N : aM) (e g : Nat), f = g + 1 → tkS C = sc_k V (pos V i) → r_beg C = nI (sc_s V (pos V i)) → r_end C = nI e → pos V i ≤ sc_s V (pos V i) → sc_s V (pos V i) < e → e ≤ m_tl R → pos V (i + 1) = e → okT V (i + 1) → sc_e V (pos V i) = nI e → tkx R N → N 19 2 = nI e → N 19 3 = nI (sc_s V (pos V i)) → bdy N → pl_ok N → TokK N (tkS C) → frx R (m_act N (tkS C)) → m_act N (tkS C) 19 2 = nI e → (0 ≤ m_act N (tkS C) 19 4 ∨ bdy (m_act N (tkS C))) → m_rd Kf g (m_act N (tkS C))) : m_rd Kf f R := by
  obtain ⟨d1, d2, d3, d4, d5, d6, d7, d8, d9, d10, d11⟩ := h
  obtain ⟨g, rfl⟩ : ∃ g, f = g + 1 := ⟨f - 1, by omega⟩
  obtain ⟨l1, l2, l3, l4⟩ := d1.lt d3
  obtain ⟨k1, k2, k3⟩ := d1.read d2 d3
  have hp : cl (R 19 2) = pos V i := by rw [d7]; exact nI_clamp (by omega)
  obtain ⟨v1, v2, v3⟩ := vw_sc d5 d6 (pos V i)
  have etl : m_tl R = tl V := by unfold m_tl tl; rw [d5]
  by_cases ce : sc_e V (pos V i) = -1
  · rw [if_pos ce] at k1
    exact rd_bad d4 (by rw [hp, v3]; exact ce) (hbad (Or.inr k1))
  rw [if_neg ce] at k1
  by_cases c10 : sc_k V (pos V i) = 10
  · rw [c10] at k1
    have hO := hT.1 k1
    exact rd_end d4 (by rw [hp, v3]; exact ce) (by rw [hp, v2]; exact c10) (fun _ => hbad (Or.inl k1)) (fun z => absurd z hO)
  refine rd_act d4 (by rw [hp, v3]; exact ce) (by rw [hp, v2]; exact c10) ?_
  rw [hp, v1, v2, v3, ← k1]
  intro N e h1 h2 h3 h4 h5 h6 h7 h8 h9 h10 h11 h12
  obtain ⟨e', q1, q2, q3, q4⟩ := sc_in d1.1 l3 ce c10
  exact hact N e g rfl k1 k2 (by rw [k3]; exact h1) q2 h2 h3 (pos_s h1 (by omega)) (d3.s ce c10) h1 h4 h5 h6 h7 h8 h9 h10 h11 h12
