section
/-! A LIST'S END, on both sides -/
/-- what a bracket leaves alone of the frames below it -/
def FR (B T : aM) (o : Nat) : Prop := T 19 11 = B 19 11 ∧ T 26 = B 26 ∧ ∀ q, q < o → T 27 q = B 27 q ∧ T 28 q = B 28 q ∧ T 29 q = B 29 q
theorem FR.of {B T M : aM} {o : Nat} (h : FR B T o) (h11 : M 19 11 = T 19 11) (h26 : M 26 = T 26) (h27 : ∀ q, q < o → M 27 q = T 27 q) (h28 : ∀ q, q < o → M 28 q = T 28 q) (h29 : ∀ q, q < o → M 29 q = T 29 q) : FR B M o := by
  refine ⟨by rw [h11]; exact h.1, by rw [h26]; exact h.2.1, fun q hq => ?_⟩
  rw [h27 q hq, h28 q hq, h29 q hq]
  exact h.2.2 q hq
theorem FR.tkx {B T N : aM} {o : Nat} (h : FR B T o) (hx : tkx T N) : FR B N o := h.of (hx.2 11 (by decide) (by decide)) (hx.1 26 (by decide)) (fun q _ => by rw [hx.1 27 (by decide)]) (fun q _ => by rw [hx.1 28 (by decide)]) (fun q _ => by rw [hx.1 29 (by decide)])
/-- what is asked of a list's answer p -/
def HC (V : aM) (Kf : aM → Prop) (B R : aM) (o n0 : Nat) (p : Int32 × aM) : Prop := (p.1 = -1 → fltK Kf R) ∧ ∀ (S : aM) (f' i' n' lc' m : Nat), p.1 = nI m → DA V p.2 S i' n' lc' m → DK B S → frx R S → n0 < n' → m_tl R - pos V (i' + 1) < f' → m_rd Kf f' (m_end (o + 1) (nI m) S)
/-- both sides stand before token i, inside a bracket of state st -/
def LSt (V C T : aM) (i n lc o first l : Nat) (st : Int32) : Prop := TT V C ∧ C 11 3 = nI i ∧ okT V i ∧ bdy T ∧ T 19 1 = V 1 1 ∧ T 20 = V 2 ∧ T 19 2 = nI (pos V i) ∧ mO T = o + 1 ∧ T 29 o = st ∧ T 27 o = nI first ∧ T 28 o = nI l ∧ l < n ∧ StN C T n ∧ StL C T n lc ∧ lc ≤ 5 + pos V i
theorem cl_fin {V B C' N T : aM} {p : Int32 × aM} {i n' lc m o : Nat} (hst : cl_st N p o) (hfr : frm N p.2) (h4 : p.2 19 4 < 0) (hx : tkx T N) (hbN : bdy N) (hpN : ¬ N 19 3 < 0) (hN2 : N 19 2 = nI (pos V (i + 1))) (ok1 : okT V (i + 1)) (hTT : TT V C') (hc3 : C' 11 3 = nI i) (hV1 : T 19 1 = V 1 1) (hV2 : T 20 = V 2) (sN : StN C' p.2 n') (sL : StL C' p.2 n' lc) (hlc : lc ≤ 5 + pos V (i + 1)) (hm : p.1 = nI m) (hmn : m < 200) (hOB : mO B = o) (hFR : FR B p.2 o) : DA V C' (am_up p.2 19 13 (nI o)) i n' lc m ∧ DK B (am_up p.2 19 13 (nI o)) ∧ frx T (am_up p.2 19 13 (nI o)) := by
  obtain ⟨w, M⟩ := p
  dsimp only at hfr h4 sN sL hm hFR ⊢
  obtain ⟨a, b, c, m', hw, d⟩ := hst
  dsimp only at a b c hw d
  have hfP : frm N (am_up M 19 13 (nI o)) := hfr.u9 (Or.inr (Or.inr (Or.inr rfl)))
  have p4 : am_up M 19 13 (nI o) 19 4 = M 19 4 := by simp only [am_up_ap, ↓reduceIte, Nat.reduceEqDiff]
  have p5 : am_up M 19 13 (nI o) 19 5 = M 19 5 := by simp only [am_up_ap, ↓reduceIte, Nat.reduceEqDiff]
  have p11 : am_up M 19 13 (nI o) 19 11 = M 19 11 := by simp only [am_up_ap, ↓reduceIte, Nat.reduceEqDiff]
  have po : ∀ q, ¬ q = 19 → am_up M 19 13 (nI o) q = M q := fun q h => am_up_ne h
  generalize am_up M 19 13 (nI o) = P at a b c d hfP p4 p5 p11 po ⊢
  have hmN : m' < 200 := by
    have h1 := d.1
    have h2 := b.1.2
    omega
  have e : m' = m := (nI_eq (by omega) (by omega)).mp (by rw [← hw, hm])
  subst e
  obtain ⟨b1, b2, b3, b4, b5, b6⟩ := hbN
  obtain ⟨r1, r2, r3, r4, r5⟩ := frm_mt hfP b4 b5 b6
  refine ⟨⟨hTT, hc3, ok1, by rw [p4]; exact h4, ?_, a, b, r1, r2, r3, d, ?_, ?_, ?_, ?_, ?_, hlc⟩, ⟨by rw [c, hOB], by rw [p11]; exact hFR.1, by rw [po 26 (by decide)]; exact hFR.2.1, fun q hq => ?_⟩, hx.x.tr hfP.x⟩
  · rw [hfP.2 3 (Or.inr (Or.inr (Or.inl rfl)))]; exact hpN
  · rw [hfP.2 1 (Or.inl rfl), hx.2 1 (by decide) (by decide)]; exact hV1
  · rw [hfP.1 20 (Or.inr (Or.inl rfl)), hx.1 20 (by decide)]; exact hV2
  · rw [hfP.2 2 (Or.inr (Or.inl rfl))]; exact hN2
  · exact StN_ref sN p5 (po 21 (by decide)) (po 22 (by decide)) (po 24 (by decide)) (po 25 (by decide))
  · exact StL_ref sL (po 23 (by decide))
  · rw [po 27 (by decide), po 28 (by decide), po 29 (by decide)]
    exact hFR.2.2 q (by omega)
/-- the bracket's end after an element -/
theorem lst_7 {Kf : aM → Prop} {V B R C T : aM} {i n lc o first l f n0 : Nat} (h : LSt V C T i n lc o first l 1) (hfl : first ≤ l) (hFR : FR B T o) (hOB : mO B = o) (hRT : frx R T) (hn0 : n0 < n) (ce : ¬ sc_e V (pos V i) = -1) (hk : sc_k V (pos V i) = 7) (hf : m_tl T - pos V i < f) (hH : HC V Kf B R o n0 (r_lE (r_add C 5) (nI first) (nI l))) : m_rd Kf f T := by
  obtain ⟨d1, d2, d3, d4, d5, d6, d7, d8, d9, d10, d11, d12, sN, sL, d15⟩ := h
  have h200 := sN.2.2.1
  have etl : m_tl T = m_tl R := by unfold m_tl; rw [hRT.2.1]
  refine rd_close d1.1 d3 d4 d5 d6 d7 d8 (Or.inr (Or.inl d9)) ce hk hf ?_
  intro N g hx hbN hpN n2 ok1 hlt hg hno
  obtain ⟨t1, t2, t3, t4⟩ := tkx_N hx
  have hON : mO N = o + 1 := by rw [t3]; exact d8
  have sNN := StN_tkx sN hx
  have sLN := StL_tkx sL hx
  have hmN := StN_mN sNN
  have e27 : N 27 o = nI first := by rw [hx.1 27 (by decide)]; exact d10
  have e28 : cl (N 28 o) = l := by rw [hx.1 28 (by decide), d11]; exact nI_clamp (by omega)
  have e29 : N 29 o = 1 := by rw [hx.1 29 (by decide)]; exact d9
  have ecl := clN_1 hON e29
  rw [e27, e28] at ecl
  have hfr := frm_clN N
  obtain ⟨g, rfl⟩ : ∃ q, g = q + 1 := ⟨g - 1, by omega⟩
  by_cases c : n = 200
  · have en : m_nd N 5 = (0, failM N (N 19 3)) := by unfold m_nd; rw [if_pos (by omega)]
    rw [en] at ecl
    have z : ¬ (m_clN N).2 19 4 < 0 := by
      rw [ecl]
      show ¬ am_up (failM N (N 19 3)) 25 l 0 19 4 < 0
      rw [am_up_ne (by decide)]
      exact failM_ge hpN
    rw [if_neg z]
    refine rd_flt (hH.1 ?_) ((hRT.tr hx.x).tr hfr.x) (Int32.not_lt.mp z)
    unfold r_lE
    rw [(add_200 (by rw [sN.1, c])).2, if_pos rfl]
  · have en : m_nd N 5 = (nI n, m_new N 5) := by rw [nd_s (by omega), hmN]
    rw [en] at ecl
    have hcf : (m_clN N).2 19 4 < 0 := by
      rw [ecl]
      show am_up (m_new N 5) 25 l (nI n) 19 4 < 0
      rw [am_up_ne (by decide), (new_c N 5).2.1 4 (by decide)]
      exact hbN.1
    rw [if_pos hcf]
    have hst := C_cl hbN.2.1 hbN.2.2.1 hpN hON hno hcf
    have ea := (add_lt (k := 5) sN.1 (by omega)).2
    have s1 := StN_new 5 sNN (by omega)
    have s2 := StN_tail (l := l) (v := nI n) s1
    have l2 : StL (am_up (n_newM C n 5) 8 l (nI n)) (am_up (m_new N 5) 25 l (nI n)) (n + 1) lc := StL_of (StL_new 5 sNN sLN (by omega)) (by rw [am_up_ne (by decide)]) (by rw [am_up_ne (by decide)]) (by rw [am_up_ne (by decide)]) (by rw [am_up_ne (by decide)]) (by rw [am_up_ne (by decide)]) (by rw [am_up_ne (by decide)])
    have eD : r_lE (r_add C 5) (nI first) (nI l) = (nI first, am_up (n_newM C n 5) 8 l (nI n)) := by
      unfold r_lE
      rw [ea]
      dsimp only
      rw [if_neg (nI_ne (by omega)), set_lt s1 (by omega)]
    have hdk := dk_lE (a := nI first) (b := nI l) (dk_radd C 5)
    rw [eD] at hH hdk
    have hcu : am_up (n_newM C n 5) 8 l (nI n) 11 3 = nI i := by
      rw [am_up_ne (by decide), (newM_c _ _ _).1 11 (by decide) (by decide) (by decide) (by decide) (by decide) (by decide)]
      exact d2
    have hFN := hFR.tkx hx
    obtain ⟨c1, c2, -⟩ := new_c N 5
    have hF2 : FR B (am_up (m_new N 5) 25 l (nI n)) o := by
      refine hFN.of ?_ ?_ (fun q _ => ?_) (fun q _ => ?_) (fun q _ => ?_)
      · rw [am_up_ne (by decide), c2 11 (by decide)]
      · rw [am_up_ne (by decide), c1 26 (by decide) (by decide) (by decide) (by decide) (by decide)]
      · rw [am_up_ne (by decide), c1 27 (by decide) (by decide) (by decide) (by decide) (by decide)]
      · rw [am_up_ne (by decide), c1 28 (by decide) (by decide) (by decide) (by decide) (by decide)]
      · rw [am_up_ne (by decide), c1 29 (by decide) (by decide) (by decide) (by decide) (by decide)]
    rw [ecl] at hst hfr hcf ⊢
    obtain ⟨q1, q2, q3⟩ := cl_fin (V := V) (B := B) hst hfr hcf hx hbN hpN n2 ok1 (d1.of hdk) hcu d5 d6 s2 l2 (by omega) rfl (by omega) hOB hF2
    exact hH.2 _ _ i (n + 1) lc first rfl q1 q2 (hRT.tr q3) (by omega) (by rw [← etl]; exact hg)
end
section
/-! A DOTTED TAIL, on both sides -/
theorem rd_pt {Kf : aM → Prop} {V R : aM} {i o f : Nat} (hV : tx_ok V) (ho : okT V i) (hb : bdy R) (h1 : R 19 1 = V 1 1) (h2 : R 20 = V 2) (h3 : R 19 2 = nI (pos V i)) (hO : mO R = o + 1) (hs : R 29 o = 1) (ce : ¬ sc_e V (pos V i) = -1) (hk : sc_k V (pos V i) = 9) (hf : m_tl R - pos V i < f)
    (hA : ∀ (N : aM) (g : Nat), tkx R N → bdy (am_up N 29 o 2) → N 19 2 = nI (pos V (i + 1)) → okT V (i + 1) → pos V i < pos V (i + 1) → m_tl R - pos V (i + 1) < g → m_rd Kf g (am_up N 29 o 2)) : m_rd Kf f R := by
  obtain ⟨f, rfl⟩ : ∃ q, f = q + 1 := ⟨f - 1, by omega⟩
  obtain ⟨l1, l2⟩ := pos_le hV i ho
  have h400 := hV.2
  have hp : cl (R 19 2) = pos V i := by rw [h3]; exact nI_clamp (by omega)
  obtain ⟨v1, v2, v3⟩ := vw_sc h1 h2 (pos V i)
  have c10 : ¬ sc_k V (pos V i) = 10 := by rw [hk]; decide
  have etl : m_tl R = tl V := by unfold m_tl tl; rw [h1]
  have hps := (f_skip_le (M := V) l2).1
  have hss : sc_s V (pos V i) = f_skip V (pos V i) := by rfl
  refine rd_act hb (by rw [hp, v3]; exact ce) (by rw [hp, v2]; exact c10) ?_
  rw [hp, v1, v2, v3]
  intro N e a1 a2 a3 hx n2 n3 hbN hpl htk hfr ha hab
  obtain ⟨t1, t2, t3, t4⟩ := tkx_N hx
  have hpe := pos_s a1 (by omega)
  have hON : mO N = o + 1 := by rw [t3]; exact hO
  have ea : m_act N (sc_k V (pos V i)) = am_up N 29 o 2 := by
    rw [hk]
    unfold m_act
    rw [if_neg (by decide), if_neg (by decide), if_neg (by decide), if_pos rfl]
    unfold m_pt
    rw [if_neg (by omega), show mO N - 1 = o by omega, if_pos (by rw [hx.1 29 (by decide)]; exact hs)]
  rw [ea] at hab ⊢
  have z : ¬ 0 ≤ am_up N 29 o 2 19 4 := by
    rw [am_up_ne (by decide)]
    exact Int32.not_le.mpr hbN.1
  exact hA N f hx (hab.resolve_left z) (by rw [n2, hpe]) (ho.s ce c10) (by omega) (by omega)
theorem lst_9 {V : aM} {j o : Nat} (ih : DD V (rdD j) (o + 1)) (ho15 : o < 15) {Kf : aM → Prop} {B R C T : aM} {i n lc first l f n0 : Nat} (h : LSt V C T i n lc o first l 1) (hfl : first ≤ l) (hFR : FR B T o) (hOB : mO B = o) (hRT : frx R T) (hn0 : n0 < n) (ce : ¬ sc_e V (pos V i) = -1) (hk : sc_k V (pos V i) = 9) (hf : m_tl T - pos V i < f) (hH : HC V Kf B R o n0 (r_lE (r_dot (rdD j) C) (nI first) (nI l))) : m_rd Kf f T := by
  obtain ⟨d1, d2, d3, d4, d5, d6, d7, d8, d9, d10, d11, d12, sN, sL, d15⟩ := h
  have h200 := sN.2.2.1
  have etl : m_tl T = m_tl R := by unfold m_tl; rw [hRT.2.1]
  refine rd_pt d1.1 d3 d4 d5 d6 d7 d8 d9 ce hk hf ?_
  intro N g hx hbQ n2 ok1 hlt hg
  have q29 : am_up N 29 o 2 29 = upd (T 29) o 2 := by rw [am_up_i, if_pos rfl, hx.1 29 (by decide)]
  have q19 : am_up N 29 o 2 19 = N 19 := am_up_ne (by decide)
  have qo : ∀ q, ¬ q = 19 → ¬ q = 29 → am_up N 29 o 2 q = T q := fun q h1 h2 => by rw [am_up_ne h2, hx.1 q h1]
  have hTQ : frx T (am_up N 29 o 2) := hx.x.tr ((frm.rf N).up (by decide)).x
  generalize am_up N 29 o 2 = Q at hbQ q29 q19 qo hTQ ⊢
  have h13 : Q 19 13 = T 19 13 := by rw [q19, hx.2 13 (by decide) (by decide)]
  have mOQ : mO Q = o + 1 := by
    have : mO Q = mO T := by unfold mO; rw [h13]
    rw [this]; exact d8
  obtain ⟨nx1, nx2⟩ := nx_c d2
  have sQ : StN (r_nx C) Q n := by
    have s1 : StN C Q n := StN_ref sN (by rw [q19, hx.2 5 (by decide) (by decide)]) (qo 21 (by decide) (by decide)) (qo 22 (by decide) (by decide)) (qo 24 (by decide) (by decide)) (qo 25 (by decide) (by decide))
    unfold StN
    rw [nx2 3 (by decide), nx2 4 (by decide), nx2 5 (by decide), nx2 7 (by decide), nx2 8 (by decide)]
    exact s1
  have lQ : StL (r_nx C) Q n lc := StL_of sL (by rw [nx2 3 (by decide)]) (nx2 4 (by decide)) (nx2 5 (by decide)) (nx2 6 (by decide)) (nx2 10 (by decide)) (qo 23 (by decide) (by decide))
  have hd1 := d1.of (dk_nx C)
  have hFQ : FR B Q o := hFR.of (by rw [q19, hx.2 11 (by decide) (by decide)]) (qo 26 (by decide) (by decide)) (fun q _ => by rw [qo 27 (by decide) (by decide)]) (fun q _ => by rw [qo 28 (by decide) (by decide)]) (fun q hq => by rw [q29, upd_lt _ _ hq])
  have eDot : r_dot (rdD j) C = if (rdD j (r_nx C)).1 = -1 then (-1, (rdD j (r_nx C)).2) else if tkS (r_nx (rdD j (r_nx C)).2) = 7 then ((rdD j (r_nx C)).1, r_nx (rdD j (r_nx C)).2) else (-1, r_fltM (r_nx (rdD j (r_nx C)).2)) := by rfl
  rw [eDot] at hH
  clear eDot
  generalize r_nx C = C1 at nx1 sQ lQ hd1 hH
  have q29o : Q 29 o = 2 := by rw [q29, upd_eq]
  have bK : bgK Q := fun _ => by rw [mOQ, Nat.add_sub_cancel, q29o]; exact ⟨by decide, fun z => absurd z (by decide)⟩
  have bM : bgM Q = Q := by unfold bgM; rw [mOQ, Nat.add_sub_cancel, q29o, if_neg (by omega), if_neg (by decide)]
  have etlQ : m_tl Q = m_tl T := by unfold m_tl; rw [hTQ.2.1]
  refine ih Kf C1 Q (i + 1) n lc g mOQ ⟨hd1, nx1, ok1, hbQ, hTQ.2.1.trans d5, (hTQ.1 20 (Or.inr (Or.inl rfl))).trans d6, by rw [q19]; exact n2, bK, by rw [bM]; exact sQ, by rw [bM]; exact lQ, by omega⟩ ⟨fun _ => by omega, fun _ z => ?_⟩ (by rw [etlQ]; exact hg) ?_ ?_
  · rw [mOQ, Nat.add_sub_cancel, q29o] at z
    exact absurd z (by decide)
  · intro z
    rw [if_pos z] at hH
    exact (hH.1 (by unfold r_lE; rw [if_pos rfl])).of (hRT.tr hTQ)
  intro S f' i' n' lc' m hm1 hDA hDK hfS hnn hf'
  obtain ⟨x1, x2, x3, x4, x5, x6, x7, x8, x9, x10, x11, x12, x13, x14, x15, x16, x17⟩ := hDA
  have hmS := StN_mN x15
  have hn2 := x15.2.2.1
  have hmn := x11.1
  have hne : ¬ (rdD j C1).1 = -1 := by rw [hm1]; exact nI_ne (by omega)
  rw [if_neg hne, hm1] at hH
  generalize (rdD j C1).2 = C2 at hH x1 x2 x15 x16
  rw [bM] at hDK
  obtain ⟨k1, k2, k3, k4⟩ := hDK
  rw [mOQ] at k1 k4
  obtain ⟨y27, y28, y29⟩ := k4 o (by omega)
  rw [qo 27 (by decide) (by decide), d10] at y27
  rw [qo 28 (by decide) (by decide), d11] at y28
  rw [q29o] at y29
  have cy28 : cl (S 28 o) = l := by rw [y28]; exact nI_clamp (by omega)
  have ho1S : mO S - 1 = o := by omega
  have hSI : SIr true (mN S) (mD S) (o + 1) (S 21) (S 22) (S 24) (S 25) (S 27) (S 28) (S 29) := by
    have := x6
    unfold SI at this
    rw [k1] at this
    exact this
  have hlm : cl (S 28 o) < m := by
    have := x11.2.2 (by omega)
    rw [ho1S] at this
    exact this
  obtain ⟨u1, u2⟩ := E_2 hSI x7 k1 y29 hlm hmn
  rw [m_end, if_neg (Int32.not_le.mpr x4), if_neg (by omega), ho1S, y29, if_neg (by decide), if_pos rfl]
  rw [cy28] at u1 u2 ⊢
  have hfW : frm S (am_up (am_up S 25 l (nI m)) 29 o 3) := ((frm.rf S).up (by decide)).up (by decide)
  have w29 : am_up (am_up S 25 l (nI m)) 29 o 3 29 = upd (S 29) o 3 := by rw [am_up_i, if_pos rfl, am_up_ne (by decide)]
  have w25 : am_up (am_up S 25 l (nI m)) 29 o 3 25 = am_up S 25 l (nI m) 25 := am_up_ne (by decide)
  have wo : ∀ q, ¬ q = 25 → ¬ q = 29 → am_up (am_up S 25 l (nI m)) 29 o 3 q = S q := fun q h1 h2 => by rw [am_up_ne h2, am_up_ne h1]
  generalize am_up (am_up S 25 l (nI m)) 29 o 3 = W at u1 u2 hfW w29 w25 wo ⊢
  have w19 : W 19 = S 19 := wo 19 (by decide) (by decide)
  obtain ⟨nz1, nz2⟩ := nx_c x2
  have hd2 := x1.of (dk_nx C2)
  have x15z : StN (r_nx C2) S n' := by
    unfold StN
    rw [nz2 3 (by decide), nz2 4 (by decide), nz2 5 (by decide), nz2 7 (by decide), nz2 8 (by decide)]
    exact x15
  have x16z : StL (r_nx C2) S n' lc' := StL_of x16 (by rw [nz2 3 (by decide)]) (nz2 4 (by decide)) (nz2 5 (by decide)) (nz2 6 (by decide)) (nz2 10 (by decide)) rfl
  have kk := (hd2.read nz1 x3).1
  generalize r_nx C2 = C3 at hH nz1 hd2 x15z x16z kk
  have sW : StN (am_up C3 8 l (nI m)) W n' := StN_ref (StN_tail (l := l) (v := nI m) x15z) (by rw [w19, am_up_ne (by decide)]) (by rw [wo 21 (by decide) (by decide), am_up_ne (by decide)]) (by rw [wo 22 (by decide) (by decide), am_up_ne (by decide)]) (by rw [wo 24 (by decide) (by decide), am_up_ne (by decide)]) w25
  have lW : StL (am_up C3 8 l (nI m)) W n' lc' := StL_of x16z (by rw [am_up_ne (by decide)]) (by rw [am_up_ne (by decide)]) (by rw [am_up_ne (by decide)]) (by rw [am_up_ne (by decide)]) (by rw [am_up_ne (by decide)]) (wo 23 (by decide) (by decide))
  obtain ⟨r1, r2, r3, r4, r5⟩ := frm_mt hfW x8 x9 x10
  have bW : bdy W := ⟨by rw [w19]; exact x4, u1, u2, r1, r2, r3⟩
  have mOW : mO W = o + 1 := by
    have : mO W = mO S := by unfold mO; rw [w19]
    rw [this]; exact k1
  have w29o : W 29 o = 3 := by rw [w29, upd_eq]
  have hW1 : W 19 1 = V 1 1 := by rw [w19]; exact x12
  have hW20 : W 20 = V 2 := by rw [wo 20 (by decide) (by decide)]; exact x13
  have hW2 : W 19 2 = nI (pos V (i' + 1)) := by rw [w19]; exact x14
  have hTW : frx T W := (hTQ.tr hfS).tr hfW.x
  have etW : m_tl W = m_tl R := by
    have : m_tl W = m_tl T := by unfold m_tl; rw [hTW.2.1]
    rw [this, etl]
  rw [etlQ, etl] at hf'
  by_cases c7 : tkS C3 = 7
  · rw [if_pos c7] at hH
    have ce' : ¬ sc_e V (pos V (i' + 1)) = -1 := fun z => by
      rw [if_pos z] at kk
      rw [kk] at c7
      exact absurd c7 (by decide)
    rw [if_neg ce'] at kk
    have hk' : sc_k V (pos V (i' + 1)) = 7 := by rw [← kk]; exact c7
    refine rd_close d1.1 x3 bW hW1 hW20 hW2 mOW (Or.inr (Or.inr w29o)) ce' hk' (by rw [etW]; exact hf') ?_
    intro N2 g2 hx2 hbN2 hpN2 n22 ok2 hlt2 hg2 hno2
    have hON2 : mO N2 = o + 1 := by rw [(tkx_N hx2).2.2.1]; exact mOW
    have e29 : N2 29 o = 3 := by rw [hx2.1 29 (by decide)]; exact w29o
    have e27 : N2 27 o = nI first := by rw [hx2.1 27 (by decide), wo 27 (by decide) (by decide)]; exact y27
    have ecl := clN_3 hON2 e29
    rw [e27] at ecl
    have hcf : (m_clN N2).2 19 4 < 0 := by rw [ecl]; exact hbN2.1
    have hst := C_cl hbN2.2.1 hbN2.2.2.1 hpN2 hON2 hno2 hcf
    rw [if_pos hcf]
    have eD : r_lE (nI m, C3) (nI first) (nI l) = (nI first, am_up C3 8 l (nI m)) := by
      unfold r_lE
      dsimp only
      rw [if_neg (nI_ne (by omega)), set_lt x15z (by omega)]
    have hdk : dk C3 (am_up C3 8 l (nI m)) := (dk.rf C3).up ⟨by decide, Or.inl (by decide)⟩
    rw [eD] at hH
    have hcu : am_up C3 8 l (nI m) 11 3 = nI (i' + 1) := by rw [am_up_ne (by decide)]; exact nz1
    have hFW : FR B W o := hFQ.of (by rw [w19]; exact k2) (by rw [wo 26 (by decide) (by decide)]; exact k3) (fun q hq => by rw [wo 27 (by decide) (by decide)]; exact (k4 q (by omega)).1) (fun q hq => by rw [wo 28 (by decide) (by decide)]; exact (k4 q (by omega)).2.1) (fun q hq => by rw [w29, upd_lt _ _ hq]; exact (k4 q (by omega)).2.2)
    rw [ecl] at hst hcf ⊢
    obtain ⟨p1, p2, p3⟩ := cl_fin (V := V) (B := B) hst (frm.rf N2) hcf hx2 hbN2 hpN2 n22 ok2 (hd2.of hdk) hcu hW1 hW20 (StN_tkx sW hx2) (StL_tkx lW hx2) (by omega) rfl (by omega) hOB (hFW.tkx hx2)
    exact hH.2 _ _ (i' + 1) n' lc' first rfl p1 p2 ((hRT.tr hTW).tr p3) (by omega) (by rw [← etW]; exact hg2)
  · rw [if_neg c7] at hH
    refine doomed3 d1.1 x3 bW hW1 hW20 hW2 mOW w29o (fun ce' z => ?_) (by rw [etW]; exact hf') ((hH.1 (by unfold r_lE; rw [if_pos rfl])).of (hRT.tr hTW))
    rw [if_neg ce', z] at kk
    exact c7 kk
end
section
/-! A LIST'S ELEMENTS, on both sides -/
theorem bg_0 {S : aM} {o n : Nat} (hO : mO S = o + 1) (hs : S 29 o = 0) (hm : mN S = n) : bgM S = am_up (am_up (am_up (m_new S 4) 27 o (nI n)) 28 o (nI n)) 29 o 1 := by
  unfold bgM
  rw [if_neg (by omega), show mO S - 1 = o by omega, if_pos (by rw [hs]; decide), hm]
  unfold m_begP
  rw [if_pos hs]
theorem bg_1 {S : aM} {o n l : Nat} (hO : mO S = o + 1) (hs : S 29 o = 1) (hm : mN S = n) (hl : cl (S 28 o) = l) : bgM S = am_up (am_up (am_up (m_new S 4) 25 l (nI n)) 28 o (nI n)) 29 o 1 := by
  unfold bgM
  rw [if_neg (by omega), show mO S - 1 = o by omega, if_pos (by rw [hs]; decide), hm]
  unfold m_begP
  rw [if_neg (by rw [hs]; decide), hl]
theorem ll_m1 (g : aM → Int32 × aM) (first : Int32) (r : Nat) (M : aM) : (r_ll g first r (-1) M).1 = -1 := by
  cases r with
  | zero => rw [r_ll]
  | succ r => rw [r_ll, if_pos rfl]
/-- no node left, whatever the token -/
theorem doomed' {Kf : aM → Prop} {V R : aM} {i o f : Nat} (hV : tx_ok V) (ho : okT V i) (hb : bdy R) (h1 : R 19 1 = V 1 1) (h2 : R 20 = V 2) (h3 : R 19 2 = nI (pos V i)) (hO : mO R = o + 1) (hs : R 29 o = 0 ∨ R 29 o = 1) (hn : mN R = 200) (h7 : ¬ sc_e V (pos V i) = -1 → ¬ sc_k V (pos V i) = 7) (h9 : ¬ sc_e V (pos V i) = -1 → R 29 o = 1 → ¬ sc_k V (pos V i) = 9) (hf : m_tl R - pos V i < f) (hK : fltK Kf R) : m_rd Kf f R := by
  by_cases ce : sc_e V (pos V i) = -1
  · obtain ⟨f, rfl⟩ : ∃ q, f = q + 1 := ⟨f - 1, by omega⟩
    obtain ⟨l1, l2⟩ := pos_le hV i ho
    have h400 := hV.2
    have hp : cl (R 19 2) = pos V i := by rw [h3]; exact nI_clamp (by omega)
    obtain ⟨v1, v2, v3⟩ := vw_sc h1 h2 (pos V i)
    exact rd_bad hb (by rw [hp, v3]; exact ce) hK
  · exact doomed hV ho hb h1 h2 h3 hO hs hn (h7 ce) (h9 ce) hf hK
theorem lst_loop {V : aM} {j o : Nat} (ih : DD V (rdD j) (o + 1)) (ho15 : o < 15) {Kf : aM → Prop} {B R : aM} {n0 first : Nat} (hOB : mO B = o) : ∀ (r : Nat) (C S : aM) (i n lc l f : Nat), mO S = o + 1 → mO (bgM S) = o + 1 → DB V C S i n lc → TKp S (tkS C) → bgM S 27 o = nI first → bgM S 28 o = nI l → bgM S 29 o = 1 → first ≤ l → l < n → FR B (bgM S) o → frx R S → n0 < n → 201 ≤ n + r → m_tl R - pos V i < f → HC V Kf B R o n0 (r_ll (rdD j) (nI first) r (nI l) C) → m_rd Kf f S := by
  intro r
  induction r with
  | zero =>
    intro C S i n lc l f hO hOG h hT g27 g28 g29 hfl hln hFR hRS hn0 hnr hfu hH
    have := h.2.2.2.2.2.2.2.2.1.2.2.1
    omega
  | succ r ihr =>
    intro C S i n lc l f hO hOG h hT g27 g28 g29 hfl hln hFR hRS hn0 hnr hfu hH
    have hn200 := h.2.2.2.2.2.2.2.2.1.2.2.1
    have etS : m_tl S = m_tl R := by unfold m_tl; rw [hRS.2.1]
    rw [r_ll, if_neg (nI_ne (by omega))] at hH
    refine ih Kf C S i n lc f hO h hT (by rw [etS]; exact hfu) ?_ ?_
    · intro z
      rw [if_pos z] at hH
      exact (hH.1 rfl).of hRS
    intro S2 f' i' n' lc' m hm1 hDA hDK hfS hnn hf'
    obtain ⟨x1, x2, x3, x4, x5, x6, x7, x8, x9, x10, x11, x12, x13, x14, x15, x16, x17⟩ := hDA
    have hmS := StN_mN x15
    have hn2 := x15.2.2.1
    have hmn := x11.1
    have hne : ¬ (rdD j C).1 = -1 := by rw [hm1]; exact nI_ne (by omega)
    rw [if_neg hne] at hH
    have eHd : r_hd (rdD j) (nI l) C = r_nx (am_up (rdD j C).2 7 l (nI m)) := by
      unfold r_hd
      rw [hm1, set_lt x15 (by omega)]
    rw [eHd] at hH
    clear eHd
    generalize (rdD j C).2 = C2 at hH x1 x2 x15 x16
    obtain ⟨k1, k2, k3, k4⟩ := hDK
    rw [hOG] at k1 k4
    obtain ⟨y27, y28, y29⟩ := k4 o (by omega)
    rw [g27] at y27
    rw [g28] at y28
    rw [g29] at y29
    have cy28 : cl (S2 28 o) = l := by rw [y28]; exact nI_clamp (by omega)
    have ho1S : mO S2 - 1 = o := by omega
    have hSI : SIr true (mN S2) (mD S2) (o + 1) (S2 21) (S2 22) (S2 24) (S2 25) (S2 27) (S2 28) (S2 29) := by
      have := x6
      unfold SI at this
      rw [k1] at this
      exact this
    have hlm : cl (S2 28 o) < m := by
      have := x11.2.2 (by omega)
      rw [ho1S] at this
      exact this
    obtain ⟨u1, u2⟩ := E_1 hSI x7 k1 y29 hlm hmn
    rw [m_end, if_neg (Int32.not_le.mpr x4), if_neg (by omega), ho1S, y29, if_neg (by decide), if_neg (by decide)]
    rw [cy28] at u1 u2 ⊢
    have hfW : frm S2 (am_up S2 24 l (nI m)) := (frm.rf S2).up (by decide)
    have wo : ∀ q, ¬ q = 24 → am_up S2 24 l (nI m) q = S2 q := fun q h1 => am_up_ne h1
    have sH := StN_head (l := l) (v := nI m) x15
    have lH : StL (am_up C2 7 l (nI m)) (am_up S2 24 l (nI m)) n' lc' := StL_of x16 (by rw [am_up_ne (by decide)]) (by rw [am_up_ne (by decide)]) (by rw [am_up_ne (by decide)]) (by rw [am_up_ne (by decide)]) (by rw [am_up_ne (by decide)]) (by rw [am_up_ne (by decide)])
    have hcH : am_up C2 7 l (nI m) 11 3 = nI i' := by rw [am_up_ne (by decide)]; exact x2
    have hd2 : TT V (am_up C2 7 l (nI m)) := x1.of ((dk.rf C2).up ⟨by decide, Or.inl (by decide)⟩)
    generalize am_up C2 7 l (nI m) = CH at hH sH lH hcH hd2
    generalize am_up S2 24 l (nI m) = T at u1 u2 hfW wo sH lH ⊢
    obtain ⟨nz1, nz2⟩ := nx_c hcH
    have hd3 := hd2.of (dk_nx CH)
    have sT : StN (r_nx CH) T n' := by
      unfold StN
      rw [nz2 3 (by decide), nz2 4 (by decide), nz2 5 (by decide), nz2 7 (by decide), nz2 8 (by decide)]
      exact sH
    have lT : StL (r_nx CH) T n' lc' := StL_of lH (by rw [nz2 3 (by decide)]) (nz2 4 (by decide)) (nz2 5 (by decide)) (nz2 6 (by decide)) (nz2 10 (by decide)) rfl
    have kk := (hd3.read nz1 x3).1
    generalize r_nx CH = C3 at hH nz1 hd3 sT lT kk
    have w19 : T 19 = S2 19 := wo 19 (by decide)
    obtain ⟨r1, r2, r3, r4, r5⟩ := frm_mt hfW x8 x9 x10
    have bT : bdy T := ⟨by rw [w19]; exact x4, u1, u2, r1, r2, r3⟩
    have mOT : mO T = o + 1 := by
      have : mO T = mO S2 := by unfold mO; rw [w19]
      rw [this]; exact k1
    have hST : frx R T := (hRS.tr hfS).tr hfW.x
    have etT : m_tl T = m_tl R := by unfold m_tl; rw [hST.2.1]
    have hT1 : T 19 1 = V 1 1 := by rw [w19]; exact x12
    have hT20 : T 20 = V 2 := by rw [wo 20 (by decide)]; exact x13
    have hT2 : T 19 2 = nI (pos V (i' + 1)) := by rw [w19]; exact x14
    have t29 : T 29 o = 1 := by rw [wo 29 (by decide)]; exact y29
    have t28 : T 28 o = nI l := by rw [wo 28 (by decide)]; exact y28
    have t27 : T 27 o = nI first := by rw [wo 27 (by decide)]; exact y27
    have hLS : LSt V C3 T (i' + 1) n' lc' o first l 1 := ⟨hd3, nz1, x3, bT, hT1, hT20, hT2, mOT, t29, t27, t28, by omega, sT, lT, x17⟩
    have hFT : FR B T o := hFR.of (by rw [w19]; exact k2) (by rw [wo 26 (by decide)]; exact k3) (fun q hq => by rw [wo 27 (by decide)]; exact (k4 q (by omega)).1) (fun q hq => by rw [wo 28 (by decide)]; exact (k4 q (by omega)).2.1) (fun q hq => by rw [wo 29 (by decide)]; exact (k4 q (by omega)).2.2)
    rw [etS] at hf'
    have hf2 : m_tl T - pos V (i' + 1) < f' := by rw [etT]; exact hf'
    by_cases c7 : tkS C3 = 7
    · rw [if_pos c7] at hH
      have ce : ¬ sc_e V (pos V (i' + 1)) = -1 := fun z => by
        rw [if_pos z] at kk
        rw [kk] at c7
        exact absurd c7 (by decide)
      rw [if_neg ce] at kk
      exact lst_7 hLS hfl hFT hOB hST (by omega) ce (by rw [← kk]; exact c7) hf2 hH
    rw [if_neg c7] at hH
    by_cases c9 : tkS C3 = 9
    · rw [if_pos c9] at hH
      have ce : ¬ sc_e V (pos V (i' + 1)) = -1 := fun z => by
        rw [if_pos z] at kk
        rw [kk] at c9
        exact absurd c9 (by decide)
      rw [if_neg ce] at kk
      exact lst_9 ih ho15 hLS hfl hFT hOB hST (by omega) ce (by rw [← kk]; exact c9) hf2 hH
    rw [if_neg c9] at hH
    by_cases c : n' = 200
    · have ea := (add_200 (k := 4) (show C3 3 5 = nI 200 by rw [sT.1, c])).2
      rw [ea] at hH
      refine doomed' hd3.1 x3 bT hT1 hT20 hT2 mOT (Or.inr t29) (by rw [StN_mN sT]; exact c) (fun ce z => ?_) (fun ce _ z => ?_) hf2 ((hH.1 (ll_m1 _ _ _ _)).of hST)
      · rw [if_neg ce] at kk
        exact c7 (by rw [kk]; exact z)
      · rw [if_neg ce] at kk
        exact c9 (by rw [kk]; exact z)
    · have ea := (add_lt (k := 4) sT.1 (by omega)).2
      have s1 := StN_new 4 sT (by omega)
      have l1 := StL_new 4 sT lT (by omega)
      rw [ea] at hH
      dsimp only at hH
      rw [set_lt s1 (by omega)] at hH
      have s2 := StN_tail (l := l) (v := nI n') s1
      have l2 : StL (am_up (n_newM C3 n' 4) 8 l (nI n')) (am_up (m_new T 4) 25 l (nI n')) (n' + 1) lc' := StL_of l1 (by rw [am_up_ne (by decide)]) (by rw [am_up_ne (by decide)]) (by rw [am_up_ne (by decide)]) (by rw [am_up_ne (by decide)]) (by rw [am_up_ne (by decide)]) (by rw [am_up_ne (by decide)])
      have hdk : dk C3 (am_up (n_newM C3 n' 4) 8 l (nI n')) := by
        have := dk_radd C3 4
        rw [ea] at this
        exact this.up ⟨by decide, Or.inl (by decide)⟩
      have hcu : am_up (n_newM C3 n' 4) 8 l (nI n') 11 3 = nI (i' + 1) := by
        rw [am_up_ne (by decide), (newM_c _ _ _).1 11 (by decide) (by decide) (by decide) (by decide) (by decide) (by decide)]
        exact nz1
      have hd4 := hd3.of hdk
      generalize am_up (n_newM C3 n' 4) 8 l (nI n') = C4 at hH s2 l2 hcu hd4
      have eG := bg_1 mOT t29 (StN_mN sT) (show cl (T 28 o) = l by rw [t28]; exact nI_clamp (by omega))
      obtain ⟨c1, c2, -⟩ := new_c T 4
      have v28 : bgM T 28 = upd (T 28) o (nI n') := by
        rw [eG, am_up_ne (by decide), am_up_i, if_pos rfl, am_up_ne (by decide), c1 28 (by decide) (by decide) (by decide) (by decide) (by decide)]
      have v29 : bgM T 29 = upd (T 29) o 1 := by
        rw [eG, am_up_i, if_pos rfl, am_up_ne (by decide), am_up_ne (by decide), c1 29 (by decide) (by decide) (by decide) (by decide) (by decide)]
      have v27 : bgM T 27 = T 27 := by
        rw [eG, am_up_ne (by decide), am_up_ne (by decide), am_up_ne (by decide), c1 27 (by decide) (by decide) (by decide) (by decide) (by decide)]
      have v26 : bgM T 26 = T 26 := by
        rw [eG, am_up_ne (by decide), am_up_ne (by decide), am_up_ne (by decide), c1 26 (by decide) (by decide) (by decide) (by decide) (by decide)]
      have v11 : bgM T 19 11 = T 19 11 := bg_19 T 11 (by decide)
      have v13 : bgM T 19 13 = T 19 13 := bg_19 T 13 (by decide)
      have vO : ∀ q, ¬ q = 28 → ¬ q = 29 → bgM T q = am_up (m_new T 4) 25 l (nI n') q := fun q h1 h2 => by rw [eG, am_up_ne h2, am_up_ne h1]
      have sG : StN C4 (bgM T) (n' + 1) := StN_ref s2 (by rw [vO 19 (by decide) (by decide)]) (vO 21 (by decide) (by decide)) (vO 22 (by decide) (by decide)) (vO 24 (by decide) (by decide)) (vO 25 (by decide) (by decide))
      have lG : StL C4 (bgM T) (n' + 1) lc' := StL_ref l2 (vO 23 (by decide) (by decide))
      have bK : bgK T := fun _ => by
        rw [mOT, Nat.add_sub_cancel, t29, StN_mN sT]
        exact ⟨by decide, fun _ => c⟩
      have kk4 := (hd4.read hcu x3).1
      rw [← kk] at kk4
      refine ihr C4 T (i' + 1) (n' + 1) lc' n' f' mOT ?_ ⟨hd4, hcu, x3, bT, hT1, hT20, hT2, bK, sG, lG, x17⟩ ⟨fun _ => by omega, fun _ _ => ⟨by rw [kk4]; exact c7, fun _ => by rw [kk4]; exact c9⟩⟩ (by rw [v27]; exact t27) (by rw [v28, upd_eq]) (by rw [v29, upd_eq]) (by omega) (by omega) ?_ hST (by omega) (by omega) hf' hH
      · have : mO (bgM T) = mO T := by unfold mO; rw [v13]
        rw [this]; exact mOT
      · exact hFT.of v11 v26 (fun q _ => by rw [v27]) (fun q hq => by rw [v28, upd_lt _ _ hq]) (fun q hq => by rw [v29, upd_lt _ _ hq])
end
section
/-! A LIST, from its token to its end; and every datum -/
theorem dd_lst {V : aM} {j o : Nat} (ih : DD V (rdD j) (o + 1)) (ho15 : o < 15) {Kf : aM → Prop} {C R N : aM} {i n lc e g : Nat} (htk : tkS C = 6) (hO : mO R = o) (h : DB V C R i n lc) (hfu : m_tl R - pos V i < g + 1) (hpe1 : pos V i < e) (het : e ≤ m_tl R) (hpe : pos V (i + 1) = e) (ho1 : okT V (i + 1)) (hx : tkx R N) (hp : ¬ N 19 3 < 0) (hbN : bdy N) (hfr : frx R (m_act N 6)) (ha2 : m_act N 6 19 2 = nI e) (hab : 0 ≤ m_act N 6 19 4 ∨ bdy (m_act N 6)) (hF : (rdD (j + 1) C).1 = -1 → fltK Kf R)
    (hC : ∀ (S : aM) (f' i' n' lc' m : Nat), (rdD (j + 1) C).1 = nI m → DA V (rdD (j + 1) C).2 S i' n' lc' m → DK (bgM R) S → frx R S → n < n' → m_tl R - pos V (i' + 1) < f' → m_rd Kf f' (m_end (o + 1) (nI m) S)) : m_rd Kf g (m_act N 6) := by
  rw [rdD_6 j htk] at hF hC
  have ea : m_act N 6 = m_open false N := by unfold m_act; rw [if_pos rfl]
  rw [ea] at hfr ha2 hab ⊢
  obtain ⟨d1, d2, d3, d4, d5, d6, d7, d8, d9, d10, d11⟩ := h
  obtain ⟨l1, l2, l3, l4⟩ := d1.lt d3
  obtain ⟨b1, b2, b3, b4, b5, b6⟩ := hbN
  obtain ⟨g, rfl⟩ : ∃ q, g = q + 1 := ⟨g - 1, by omega⟩
  have hkN := bgK_tkx hx d8
  have hBx := bg_tkx hx
  have eB := beg_bg hkN
  have cf : m_beg N 19 4 < 0 := by rw [eB, bg_19 N 4 (by decide)]; exact b1
  obtain ⟨g1, g2, g3, g4, -⟩ := T_beg b2 b3 hp cf
  have hON : mO N = o := by rw [(tkx_N hx).2.2.1, hO]
  have sN := StN_tkx d9 hBx
  have sL := StL_tkx d10 hBx
  rw [← eB] at sN sL hBx
  clear eB
  have eA : m_opA N = m_beg N := opA_B (by omega)
  have eS : m_open false N = m_opP false o (m_beg N) := by
    unfold m_open
    rw [eA, if_pos cf, if_neg (by decide), hON]
  rw [eS] at hfr ha2 hab ⊢
  clear eS eA
  have hOB : mO (m_beg N) = o := by rw [g3]; exact hON
  generalize m_beg N = B at cf g1 g2 g3 g4 sN sL hBx hfr ha2 hab hOB ⊢
  have hm := StN_mN sN
  have h200 := sN.2.2.1
  obtain ⟨p1, p2, p3, p4⟩ := opP_c false o B
  rw [if_neg (by decide)] at p4
  generalize m_opP false o B = S1 at p1 p2 p3 p4 hfr ha2 hab ⊢
  have h41 : ¬ 0 ≤ S1 19 4 := Int32.not_le.mpr (by rw [p2 4 (by decide)]; exact cf)
  have bS := hab.resolve_left h41
  have mO1 : mO S1 = o + 1 := by unfold mO; rw [p3]; exact nI_clamp (by omega)
  have s29 : S1 29 o = 0 := by rw [p4, upd_eq]
  have sP : StN C S1 n := StN_ref sN (p2 5 (by decide)) (p1 21 (by decide) (by decide)) (p1 22 (by decide) (by decide)) (p1 24 (by decide) (by decide)) (p1 25 (by decide) (by decide))
  have lP : StL C S1 n lc := StL_ref sL (p1 23 (by decide) (by decide))
  have hmS := StN_mN sP
  have hFS : FR B S1 o := ⟨p2 11 (by decide), p1 26 (by decide) (by decide), fun q hq => ⟨by rw [p1 27 (by decide) (by decide)], by rw [p1 28 (by decide) (by decide)], by rw [p4, upd_lt _ _ hq]⟩⟩
  have etl1 : m_tl S1 = m_tl R := by unfold m_tl; rw [hfr.2.1]
  have hS1 : S1 19 1 = V 1 1 := hfr.2.1.trans d5
  have hS20 : S1 20 = V 2 := (hfr.1 20 (Or.inr (Or.inl rfl))).trans d6
  have hS2 : S1 19 2 = nI (pos V (i + 1)) := by rw [ha2, hpe]
  have hH : HC V Kf B R o n (r_lst (rdD j) C) := ⟨hF, fun S f' i' n' lc' m q1 q2 q3 q4 q5 q6 => hC S f' i' n' lc' m q1 q2 (DK_tkx hBx q3) q4 q5 q6⟩
  clear hF hC
  have hf1 : m_tl S1 - pos V (i + 1) < g + 1 := by rw [etl1]; omega
  have kn := d1.next d2 ho1
  unfold r_lst at hH
  obtain ⟨nx1, nx2⟩ := nx_c d2
  by_cases c7 : tk C 13 11 (C 11 3 + 1) = 7
  · rw [if_pos c7] at hH
    have ce : ¬ sc_e V (pos V (i + 1)) = -1 := fun z => by
      rw [if_pos z] at kn
      rw [kn] at c7
      exact absurd c7 (by decide)
    rw [if_neg ce] at kn
    have sX : StN (r_nx C) S1 n := by
      unfold StN
      rw [nx2 3 (by decide), nx2 4 (by decide), nx2 5 (by decide), nx2 7 (by decide), nx2 8 (by decide)]
      exact sP
    have lX : StL (r_nx C) S1 n lc := StL_of lP (by rw [nx2 3 (by decide)]) (nx2 4 (by decide)) (nx2 5 (by decide)) (nx2 6 (by decide)) (nx2 10 (by decide)) rfl
    have hdX := d1.of (dk_nx C)
    generalize r_nx C = C1 at hH nx1 sX lX hdX
    refine rd_close d1.1 ho1 bS hS1 hS20 hS2 mO1 (Or.inl s29) ce (by rw [← kn]; exact c7) hf1 ?_
    intro N2 g2 hx2 hbN2 hpN2 n22 ok2 hlt2 hg2 hno2
    have hON2 : mO N2 = o + 1 := by rw [(tkx_N hx2).2.2.1]; exact mO1
    have e29 : N2 29 o = 0 := by rw [hx2.1 29 (by decide)]; exact s29
    have ecl := clN_0 hON2 e29
    have sNN := StN_tkx sX hx2
    have sLN := StL_tkx lX hx2
    have hmN := StN_mN sNN
    have hfc := frm_clN N2
    obtain ⟨g2, rfl⟩ : ∃ q, g2 = q + 1 := ⟨g2 - 1, by omega⟩
    by_cases c : n = 200
    · have en : m_nd N2 5 = (0, failM N2 (N2 19 3)) := by unfold m_nd; rw [if_pos (by omega)]
      rw [en] at ecl
      have z : ¬ (m_clN N2).2 19 4 < 0 := by
        rw [ecl]
        exact failM_ge hpN2
      rw [if_neg z]
      refine rd_flt (hH.1 ?_) ((hfr.tr hx2.x).tr hfc.x) (Int32.not_lt.mp z)
      rw [(add_200 (by rw [sX.1, c])).2]
    · have en : m_nd N2 5 = (nI n, m_new N2 5) := by rw [nd_s (by omega), hmN]
      rw [en] at ecl
      have hcf : (m_clN N2).2 19 4 < 0 := by
        rw [ecl]
        show m_new N2 5 19 4 < 0
        rw [(new_c N2 5).2.1 4 (by decide)]
        exact hbN2.1
      rw [if_pos hcf]
      have hst := C_cl hbN2.2.1 hbN2.2.2.1 hpN2 hON2 hno2 hcf
      have ea := (add_lt (k := 5) sX.1 (by omega)).2
      have s1 := StN_new 5 sNN (by omega)
      have t1 := StL_new 5 sNN sLN (by omega)
      have hdk := dk_radd C1 5
      rw [ea] at hH hdk
      have hcu : n_newM C1 n 5 11 3 = nI (i + 1) := by
        rw [(newM_c _ _ _).1 11 (by decide) (by decide) (by decide) (by decide) (by decide) (by decide)]
        exact nx1
      obtain ⟨c1, c2, -⟩ := new_c N2 5
      have hF2 : FR B (m_new N2 5) o := (hFS.tkx hx2).of (c2 11 (by decide)) (c1 26 (by decide) (by decide) (by decide) (by decide) (by decide)) (fun q _ => by rw [c1 27 (by decide) (by decide) (by decide) (by decide) (by decide)]) (fun q _ => by rw [c1 28 (by decide) (by decide) (by decide) (by decide) (by decide)]) (fun q _ => by rw [c1 29 (by decide) (by decide) (by decide) (by decide) (by decide)])
      rw [ecl] at hst hfc hcf ⊢
      obtain ⟨q1, q2, q3⟩ := cl_fin (V := V) (B := B) hst hfc hcf hx2 hbN2 hpN2 n22 ok2 (hdX.of hdk) hcu hS1 hS20 s1 t1 (by omega) rfl (by omega) hOB hF2
      exact hH.2 _ _ (i + 1) (n + 1) lc n rfl q1 q2 (hfr.tr q3) (by omega) (by rw [← etl1]; exact hg2)
  rw [if_neg c7] at hH
  have h7 : ¬ sc_e V (pos V (i + 1)) = -1 → ¬ sc_k V (pos V (i + 1)) = 7 := fun ce z => by
    rw [if_neg ce] at kn
    exact c7 (by rw [kn]; exact z)
  by_cases c : n = 200
  · have ea := (add_200 (k := 4) (show C 3 5 = nI 200 by rw [sP.1, c])).2
    rw [ea] at hH
    refine doomed' d1.1 ho1 bS hS1 hS20 hS2 mO1 (Or.inl s29) (by rw [hmS]; exact c) h7 (fun _ z => ?_) hf1 ((hH.1 (ll_m1 _ _ _ _)).of hfr)
    rw [s29] at z
    exact absurd z (by decide)
  · have ea := (add_lt (k := 4) sP.1 (by omega)).2
    have s1 := StN_new 4 sP (by omega)
    have t1 := StL_new 4 sP lP (by omega)
    have hdk := dk_radd C 4
    rw [ea] at hH hdk
    dsimp only at hH hdk
    have hcu : n_newM C n 4 11 3 = nI i := by
      rw [(newM_c _ _ _).1 11 (by decide) (by decide) (by decide) (by decide) (by decide) (by decide)]
      exact d2
    generalize n_newM C n 4 = CN at hH s1 t1 hdk hcu
    obtain ⟨nz1, nz2⟩ := nx_c hcu
    have sX : StN (r_nx CN) (m_new S1 4) (n + 1) := by
      unfold StN
      rw [nz2 3 (by decide), nz2 4 (by decide), nz2 5 (by decide), nz2 7 (by decide), nz2 8 (by decide)]
      exact s1
    have lX : StL (r_nx CN) (m_new S1 4) (n + 1) lc := StL_of t1 (by rw [nz2 3 (by decide)]) (nz2 4 (by decide)) (nz2 5 (by decide)) (nz2 6 (by decide)) (nz2 10 (by decide)) rfl
    have hdX := (d1.of hdk).of (dk_nx CN)
    generalize r_nx CN = C1 at hH nz1 sX lX hdX
    have eG := bg_0 mO1 s29 hmS
    obtain ⟨c1, c2, -⟩ := new_c S1 4
    have v27 : bgM S1 27 = upd (S1 27) o (nI n) := by
      rw [eG, am_up_ne (by decide), am_up_ne (by decide), am_up_i, if_pos rfl, c1 27 (by decide) (by decide) (by decide) (by decide) (by decide)]
    have v28 : bgM S1 28 = upd (S1 28) o (nI n) := by
      rw [eG, am_up_ne (by decide), am_up_i, if_pos rfl, am_up_ne (by decide), c1 28 (by decide) (by decide) (by decide) (by decide) (by decide)]
    have v29 : bgM S1 29 = upd (S1 29) o 1 := by
      rw [eG, am_up_i, if_pos rfl, am_up_ne (by decide), am_up_ne (by decide), c1 29 (by decide) (by decide) (by decide) (by decide) (by decide)]
    have v26 : bgM S1 26 = S1 26 := by
      rw [eG, am_up_ne (by decide), am_up_ne (by decide), am_up_ne (by decide), c1 26 (by decide) (by decide) (by decide) (by decide) (by decide)]
    have v11 : bgM S1 19 11 = S1 19 11 := bg_19 S1 11 (by decide)
    have v13 : bgM S1 19 13 = S1 19 13 := bg_19 S1 13 (by decide)
    have vO : ∀ q, ¬ q = 27 → ¬ q = 28 → ¬ q = 29 → bgM S1 q = m_new S1 4 q := fun q h1 h2 h3 => by rw [eG, am_up_ne h3, am_up_ne h2, am_up_ne h1]
    have sG : StN C1 (bgM S1) (n + 1) := StN_ref sX (by rw [vO 19 (by decide) (by decide) (by decide)]) (vO 21 (by decide) (by decide) (by decide)) (vO 22 (by decide) (by decide) (by decide)) (vO 24 (by decide) (by decide) (by decide)) (vO 25 (by decide) (by decide) (by decide))
    have lG : StL C1 (bgM S1) (n + 1) lc := StL_ref lX (vO 23 (by decide) (by decide) (by decide))
    have bK : bgK S1 := fun _ => by
      rw [mO1, Nat.add_sub_cancel, s29, hmS]
      exact ⟨by decide, fun _ => c⟩
    have kk := (hdX.read nz1 ho1).1
    rw [← kn] at kk
    refine lst_loop ih ho15 hOB 200 C1 S1 (i + 1) (n + 1) lc n (g + 1) mO1 ?_ ⟨hdX, nz1, ho1, bS, hS1, hS20, hS2, bK, sG, lG, by omega⟩ ⟨fun _ => by omega, fun _ _ => ⟨by rw [kk]; exact c7, fun z => ?_⟩⟩ (by rw [v27, upd_eq]) (by rw [v28, upd_eq]) (by rw [v29, upd_eq]) (by omega) (by omega) ?_ hfr (by omega) (by omega) (by rw [← etl1]; exact hf1) hH
    · have : mO (bgM S1) = mO S1 := by unfold mO; rw [v13]
      rw [this]; exact mO1
    · rw [mO1, Nat.add_sub_cancel, s29] at z
      exact absurd z (by decide)
    · exact hFS.of v11 v26 (fun q hq => by rw [v27, upd_lt _ _ hq]) (fun q hq => by rw [v28, upd_lt _ _ hq]) (fun q hq => by rw [v29, upd_lt _ _ hq])
theorem D_s {V : aM} {j o : Nat} (ih : DD V (rdD j) (o + 1)) (ho15 : o < 15) : DD V (rdD (j + 1)) o := by
  apply dd_gen
  intro Kf C R N i n lc e g k hk htk hO h hfu hpe1 het hpe ho1 hx n2 hp hbN hfr ha2 hab hF hC
  rcases hk with rfl | rfl
  · exact dd_lst ih ho15 htk hO h hfu hpe1 het hpe ho1 hx hp hbN hfr ha2 hab hF hC
  · exact dd_quo ih ho15 htk hO h hfu hpe1 het hpe ho1 hx hp hbN hfr ha2 hab hF hC
theorem D_all (V : aM) : ∀ j, j ≤ 15 → DD V (rdD j) (15 - j)
  | 0, _ => D_0 V
  | j + 1, hj => by
    have h := D_all V j (by omega)
    rw [show 15 - j = (15 - (j + 1)) + 1 by omega] at h
    exact D_s h (by omega)
end
section
/-! THE DESK'S LETTERS "quote" stay where they are -/
def Lq (M : aM) : Prop := (∃ lc, M 3 9 = nI lc ∧ 5 ≤ lc ∧ lc ≤ 405) ∧ ∀ k, k < 5 → M 10 k = QF k
def lq (M N : aM) : Prop := Lq M → Lq N
theorem lq.rf (M : aM) : lq M M := fun h => h
theorem lq.tr {M N P : aM} (h1 : lq M N) (h2 : lq N P) : lq M P := fun h => h2 (h1 h)
theorem lq.up {M N : aM} (h : lq M N) {c j : Nat} {x : Int32} (hc : ¬ c = 10 ∧ (¬ c = 3 ∨ ¬ j = 9)) : lq M (am_up N c j x) := fun z => by
  obtain ⟨⟨lc, e, l5, l4⟩, hq⟩ := h z
  refine ⟨⟨lc, ?_, l5, l4⟩, fun k hk => ?_⟩
  · by_cases q : 3 = c
    · rw [am_up_i, if_pos q, upd, if_neg (by omega), ← q]; exact e
    · rw [am_up_ne q]; exact e
  · rw [am_up_ne (by omega)]; exact hq k hk
theorem lq_add (M : aM) (k : Int32) : lq M (n_add M k).2 := by
  unfold n_add
  split
  · exact lq.rf M
  split
  · exact ((((((lq.rf M).up (by first | exact ⟨by decide, Or.inl (by decide)⟩ | exact ⟨by decide, Or.inr (by decide)⟩)).up (by first | exact ⟨by decide, Or.inl (by decide)⟩ | exact ⟨by decide, Or.inr (by decide)⟩)).up (by first | exact ⟨by decide, Or.inl (by decide)⟩ | exact ⟨by decide, Or.inr (by decide)⟩)).up (by first | exact ⟨by decide, Or.inl (by decide)⟩ | exact ⟨by decide, Or.inr (by decide)⟩)).up (by first | exact ⟨by decide, Or.inl (by decide)⟩ | exact ⟨by decide, Or.inr (by decide)⟩)).up (by first | exact ⟨by decide, Or.inl (by decide)⟩ | exact ⟨by decide, Or.inr (by decide)⟩)
  · exact lq.rf M
theorem lq_flt (M : aM) : lq M (r_fltM M) := (lq.rf M).up (by first | exact ⟨by decide, Or.inl (by decide)⟩ | exact ⟨by decide, Or.inr (by decide)⟩)
theorem lq_radd (M : aM) (k : Int32) : lq M (r_add M k).2 := by
  unfold r_add
  split
  · exact (lq_add M k).tr (lq_flt _)
  · exact lq_add M k
theorem lq_nx (M : aM) : lq M (r_nx M) := (lq.rf M).up (by first | exact ⟨by decide, Or.inl (by decide)⟩ | exact ⟨by decide, Or.inr (by decide)⟩)
theorem lq_set {c : Nat} (hc : ¬ c = 10 ∧ ¬ c = 3) (M : aM) (x v : Int32) : lq M (n_set c M x v) := by
  unfold n_set
  split
  · exact (lq.rf M).up ⟨hc.1, Or.inl hc.2⟩
  · exact lq.rf M
theorem lq_ltr (M : aM) (x b : Int32) : lq M (n_ltr M x b) := by
  unfold n_ltr
  split
  · split
    · exact lq.rf M
    next c0 =>
    split
    · next c =>
      intro ⟨⟨lc, e, l5, l4⟩, hq⟩
      have hlt : lc < 405 := Nat.lt_of_not_le (fun q => by
        rw [e] at c
        exact nI_nlt (a := lc) (b := 405) q (by omega) c)
      refine ⟨⟨lc + 1, ?_, by omega, by omega⟩, fun k hk => ?_⟩
      · rw [am_up_ne (by decide), am_up_i, if_pos rfl, upd_eq, e, nI_1]
      · rw [am_up_ne (by decide), am_up_ne (by decide), am_up_i, if_pos rfl, e, show cl (nI lc) = lc from nI_clamp (by omega), upd_lt _ _ (by omega)]
        exact hq k hk
    · exact lq.rf M
  · exact lq.rf M
theorem lq_nmL (nd e : Int32) : ∀ (k : Nat) (i : Int32) (M : aM), lq M (nmL nd e k i M)
  | 0, _, M => lq.rf M
  | k + 1, i, M => by
    unfold nmL
    split
    · exact (lq_ltr _ _ _).tr (lq_nmL nd e k _ _)
    · exact lq.rf M
theorem lq_stL (nd e : Int32) : ∀ (k : Nat) (i : Int32) (M : aM), lq M (stL nd e k i M)
  | 0, _, M => lq.rf M
  | k + 1, i, M => by
    unfold stL
    split
    · split
      · exact (lq_ltr _ _ _).tr (lq_stL nd e k _ _)
      · exact (lq_ltr _ _ _).tr (lq_stL nd e k _ _)
    · exact lq.rf M
theorem lq_num (M : aM) : lq M (r_num M).2 := (lq_radd M 1).tr (lq_set (by decide) _ _ _)
theorem lq_name (M : aM) : lq M (r_name M).2 := (lq_radd M 2).tr (lq_nmL _ _ _ _ _)
theorem lq_str (M : aM) : lq M (r_str M).2 := (lq_radd M 3).tr (lq_stL _ _ _ _ _)
theorem lq_qM (a b c : Int32) (M : aM) : lq M (q_M a b c M) := by
  unfold q_M
  have h : lq M (if hasN M b = true then nqM M b else M) := by
    split
    · exact ((lq.rf M).up (by first | exact ⟨by decide, Or.inl (by decide)⟩ | exact ⟨by decide, Or.inr (by decide)⟩)).up (by first | exact ⟨by decide, Or.inl (by decide)⟩ | exact ⟨by decide, Or.inr (by decide)⟩)
    · exact lq.rf M
  exact ((h.tr (lq_set (by decide) _ _ _)).tr (lq_set (by decide) _ _ _)).tr (lq_nx _)
theorem lq_qA (a b : Int32) (M : aM) (q : Int32) : lq M (q_A a b M q).2 := by
  unfold q_A
  have h1 := lq_set (c := 7) (by decide) M b q
  generalize n_set 7 M b q = N at h1 ⊢
  have h2 := lq_radd N 5
  generalize r_add N 5 = P at h2 ⊢
  exact (h1.tr h2).tr (lq_set (by decide) _ _ _)
theorem lq_qB {f : aM → Int32 × aM} (hf : ∀ M, lq M (f M).2) (a b c : Int32) (M : aM) : lq M (q_B f a b c M).2 := by
  unfold q_B
  have h1 := lq_qM a b c M
  generalize q_M a b c M = N at h1 ⊢
  have h2 := hf N
  generalize f N = P at h2 ⊢
  by_cases q : P.1 = -1
  · rw [if_pos q]; exact h1.tr h2
  · rw [if_neg q]; exact (h1.tr h2).tr (lq_qA _ _ _ _)
theorem lq_quo {f : aM → Int32 × aM} (hf : ∀ M, lq M (f M).2) (M : aM) : lq M (r_quo f M).2 := by
  unfold r_quo
  have h1 := lq_radd M 4
  generalize r_add M 4 = p1 at h1 ⊢
  have h2 := lq_radd p1.2 2
  generalize r_add p1.2 2 = p2 at h2 ⊢
  have h3 := lq_radd p2.2 4
  generalize r_add p2.2 4 = p3 at h3 ⊢
  by_cases q : p3.1 = -1
  · rw [if_pos q]; exact (h1.tr h2).tr h3
  · rw [if_neg q]; exact ((h1.tr h2).tr h3).tr (lq_qB hf _ _ _ _)
theorem lq_dot {f : aM → Int32 × aM} (hf : ∀ M, lq M (f M).2) (M : aM) : lq M (r_dot f M).2 := by
  have h1 := (lq_nx M).tr (hf (r_nx M))
  unfold r_dot
  split
  · exact h1
  split
  · exact h1.tr (lq_nx _)
  · exact (h1.tr (lq_nx _)).tr (lq_flt _)
theorem lq_lE {M : aM} {p : Int32 × aM} {a b : Int32} (h : lq M p.2) : lq M (r_lE p a b).2 := h.tr (lq_set (by decide) _ _ _)
theorem lq_ll {f : aM → Int32 × aM} (hf : ∀ M, lq M (f M).2) (first : Int32) : ∀ (r : Nat) (last : Int32) (M : aM), lq M (r_ll f first r last M).2
  | 0, _, M => lq.rf M
  | r + 1, last, M => by
    have hh : lq M (r_hd f last M) := ((hf M).tr (lq_set (by decide) _ _ _)).tr (lq_nx _)
    unfold r_ll
    split
    · exact lq.rf M
    split
    · exact hf M
    split
    · exact lq_lE (hh.tr (lq_radd _ 5))
    split
    · exact lq_lE (hh.tr (lq_dot hf _))
    · exact ((hh.tr (lq_radd _ 4)).tr (lq_set (by decide) _ _ _)).tr (lq_ll hf first r _ _)
theorem lq_lst {f : aM → Int32 × aM} (hf : ∀ M, lq M (f M).2) (M : aM) : lq M (r_lst f M).2 := by
  unfold r_lst
  split
  · exact (lq_nx M).tr (lq_radd _ 5)
  · exact ((lq_radd M 4).tr (lq_nx _)).tr (lq_ll hf _ _ _ _)
theorem lq_rdD : ∀ (j : Nat) (M : aM), lq M (rdD j M).2
  | 0, M => by
    unfold rdD
    split
    · exact lq_num M
    split
    · exact lq_name M
    split
    · exact lq_str M
    · exact lq_flt M
  | j + 1, M => by
    unfold rdD
    split
    · exact lq_num M
    split
    · exact lq_name M
    split
    · exact lq_str M
    split
    · exact lq_lst (lq_rdD j) M
    split
    · exact lq_quo (lq_rdD j) M
    · exact lq_flt M
end
section
/-! READ, on both sides -/
theorem TT.cells {V C D : aM} (h : TT V C) (h1 : D 1 1 = C 1 1) (h2 : D 2 = C 2) (h12 : D 12 = C 12) (h13 : D 13 = C 13) (h14 : D 14 = C 14) (h15 : D 15 = C 15) : TT V D := by
  obtain ⟨a0, a1, a2, a3⟩ := h
  refine ⟨a0, by rw [h1]; exact a1, by rw [h2]; exact a2, fun j hj ho => ?_⟩
  have := a3 j hj ho
  unfold tok_at at this ⊢
  rw [h12, h13, h14, h15]
  exact this
theorem addD_lt {C : aM} {d : Nat} {x : Int32} (h : C 3 7 = nI d) (hd : d < 200) : n_addD C x = am_up (am_up C 9 d x) 3 7 (nI (d + 1)) := by
  unfold n_addD
  rw [h, if_neg (nI_pos (by omega)), if_pos (show nI d < 200 from nI_lt (b := 200) hd (by decide)), show cl (nI d) = d from nI_clamp (by omega), nI_1]
/-- the desk's reading ends in a fault -/
def rdF : Nat → aM → Bool
  | 0, _ => false
  | r + 1, M => if tkS M = 10 then false else if (rdD 15 M).1 = -1 then true else rdF r (r_nx (n_addD (rdD 15 M).2 (rdD 15 M).1))
theorem rdF_clr : ∀ (r : Nat) (M : aM), rdF r M = true → ∃ C, rdL r M = clrM C
  | 0, _, h => by cases h
  | r + 1, M, h => by
    rw [rdF] at h
    rw [rdL]
    by_cases c : tkS M = 10
    · rw [if_pos c] at h
      cases h
    rw [if_neg c] at h ⊢
    by_cases c2 : (rdD 15 M).1 = -1
    · rw [if_pos c2]
      exact ⟨_, rfl⟩
    · rw [if_neg c2] at h ⊢
      exact rdF_clr r _ h
theorem top_loop {Kf : aM → Prop} {V R0 : aM} : ∀ (r : Nat) (C R : aM) (i n lc d f : Nat), mO R = 0 → DB V C R i n lc → C 3 7 = nI d → R 19 11 = nI d → d ≤ 200 → (∀ k, k < d → C 9 k = R 26 k) → frx R0 R → 201 ≤ n + r → m_tl R0 - pos V i < f → (rdF r C = true → fltK Kf R0) → (rdF r C = false → ∀ (N : aM) (n' lc' d' : Nat), frx R0 N → N 19 4 < 0 → StN (rdL r C) N n' → StL (rdL r C) N n' lc' → rdL r C 3 7 = nI d' → N 19 11 = nI d' → d' ≤ 200 → (∀ k, k < d' → rdL r C 9 k = N 26 k) → Kf N) → m_rd Kf f R := by
  intro r
  induction r with
  | zero =>
    intro C R i n lc d f hO h hd hd2 hd3 hd4 hx hnr hf hF hE
    have := h.2.2.2.2.2.2.2.2.1.2.2.1
    omega
  | succ r ih =>
    intro C R i n lc d f hO h hd hd2 hd3 hd4 hx hnr hf hF hE
    have h' := h
    obtain ⟨d1, e2, e3, e4, e5, e6, e7, e8, e9, e10, e11⟩ := h'
    have bM : bgM R = R := by unfold bgM; rw [if_pos hO]
    rw [bM] at e9 e10
    have etl : m_tl R = m_tl R0 := by unfold m_tl; rw [hx.2.1]
    have kk := (d1.read e2 e3).1
    by_cases c10 : tkS C = 10
    · rw [rdL, rdF, if_pos c10, if_pos c10] at hE
      have ce : ¬ sc_e V (pos V i) = -1 := fun z => by
        rw [if_pos z] at kk
        rw [kk] at c10
        exact absurd c10 (by decide)
      rw [if_neg ce] at kk
      obtain ⟨l1, l2⟩ := pos_le d1.1 i e3
      have h400 := d1.1.2
      have hp : cl (R 19 2) = pos V i := by rw [e7]; exact nI_clamp (by omega)
      obtain ⟨v1, v2, v3⟩ := vw_sc e5 e6 (pos V i)
      obtain ⟨f, rfl⟩ : ∃ q, f = q + 1 := ⟨f - 1, by omega⟩
      refine rd_end e4 (by rw [hp, v3]; exact ce) (by rw [hp, v2, ← kk]; exact c10) (fun z => absurd hO z) (fun _ N hN => ?_)
      refine hE rfl N n lc d (hx.tr hN.x) (by rw [hN.2 4 (by decide) (by decide)]; exact e4.1) (StN_tkx e9 hN) (StL_tkx e10 hN) hd (by rw [hN.2 11 (by decide) (by decide)]; exact hd2) hd3 ?_
      rw [hN.1 26 (by decide)]
      exact hd4
    have hD : DD V (rdD 15) 0 := D_all V 15 (Nat.le_refl _)
    refine hD Kf C R i n lc f hO h ⟨fun z => absurd z c10, fun z => absurd hO z⟩ (by rw [etl]; exact hf) ?_ ?_
    · intro z
      exact (hF (by rw [rdF, if_neg c10, if_pos z])).of hx
    intro S f' i' n' lc' m hm1 hDA hDK hfS hnn hf'
    rw [bM] at hDK
    obtain ⟨x1, x2, x3, x4, x5, x6, x7, x8, x9, x10, x11, x12, x13, x14, x15, x16, x17⟩ := hDA
    obtain ⟨k1, k2, k3, k4⟩ := hDK
    have hmS := StN_mN x15
    have hn2 := x15.2.2.1
    have hmn := x11.1
    have hne : ¬ (rdD 15 C).1 = -1 := by rw [hm1]; exact nI_ne (by omega)
    have hdk := dk_rdD 15 C
    rw [rdF, if_neg c10, if_neg hne, hm1] at hF
    rw [rdL, rdF, if_neg c10, if_neg hne, if_neg c10, if_neg hne, hm1] at hE
    generalize (rdD 15 C).2 = C2 at hF hE x1 x2 x15 x16 hdk
    have hc7 : C2 3 7 = nI d := by rw [hdk.2]; exact hd
    have hc9 : C2 9 = C 9 := hdk.1 9 (by omega)
    have mOS : mO S = 0 := by rw [k1]; exact hO
    have s11 : S 19 11 = nI d := by rw [k2]; exact hd2
    have mDS : mD S = d := by unfold mD; rw [s11]; exact nI_clamp (by omega)
    have hdm := x11.2.1 mOS
    have hd200 : d < 200 := by omega
    obtain ⟨u1, u2⟩ := E_0 x6 x7 (by omega) mOS hdm hmn
    rw [m_end, if_neg (Int32.not_le.mpr x4), if_pos mOS]
    rw [mDS] at u1 u2 ⊢
    rw [addD_lt hc7 hd200] at hF hE
    have hfT : frm S (am_up (am_up S 26 d (nI m)) 19 11 (nI (d + 1))) := ((frm.rf S).up (by decide)).u9 (Or.inr (Or.inr (Or.inl rfl)))
    have t11 : am_up (am_up S 26 d (nI m)) 19 11 (nI (d + 1)) 19 11 = nI (d + 1) := by rw [am_up_i, if_pos rfl, upd_eq]
    have t26 : am_up (am_up S 26 d (nI m)) 19 11 (nI (d + 1)) 26 = upd (S 26) d (nI m) := by rw [am_up_ne (by decide), am_up_i, if_pos rfl]
    have t19 : ∀ j, ¬ j = 11 → am_up (am_up S 26 d (nI m)) 19 11 (nI (d + 1)) 19 j = S 19 j := fun j hj => by
      rw [am_up_ap, if_pos rfl, if_neg hj, am_up_ne (by decide)]
    have tO : ∀ q, ¬ q = 19 → ¬ q = 26 → am_up (am_up S 26 d (nI m)) 19 11 (nI (d + 1)) q = S q := fun q h1 h2 => by rw [am_up_ne h1, am_up_ne h2]
    generalize am_up (am_up S 26 d (nI m)) 19 11 (nI (d + 1)) = T at u1 u2 hfT t11 t26 t19 tO ⊢
    have c7 : am_up (am_up C2 9 d (nI m)) 3 7 (nI (d + 1)) 3 7 = nI (d + 1) := by rw [am_up_i, if_pos rfl, upd_eq]
    have c9 : am_up (am_up C2 9 d (nI m)) 3 7 (nI (d + 1)) 9 = upd (C2 9) d (nI m) := by rw [am_up_ne (by decide), am_up_i, if_pos rfl]
    have c3 : ∀ j, ¬ j = 7 → am_up (am_up C2 9 d (nI m)) 3 7 (nI (d + 1)) 3 j = C2 3 j := fun j hj => by
      rw [am_up_ap, if_pos rfl, if_neg hj, am_up_ne (by decide)]
    have cO : ∀ q, ¬ q = 3 → ¬ q = 9 → am_up (am_up C2 9 d (nI m)) 3 7 (nI (d + 1)) q = C2 q := fun q h1 h2 => by rw [am_up_ne h1, am_up_ne h2]
    generalize am_up (am_up C2 9 d (nI m)) 3 7 (nI (d + 1)) = C3 at hF hE c7 c9 c3 cO
    obtain ⟨nx1, nx2⟩ := nx_c (C := C3) (i := i') (by rw [cO 11 (by decide) (by decide)]; exact x2)
    have hT4 : TT V (r_nx C3) := x1.cells (by rw [nx2 1 (by decide), cO 1 (by decide) (by decide)]) (by rw [nx2 2 (by decide), cO 2 (by decide) (by decide)]) (by rw [nx2 12 (by decide), cO 12 (by decide) (by decide)]) (by rw [nx2 13 (by decide), cO 13 (by decide) (by decide)]) (by rw [nx2 14 (by decide), cO 14 (by decide) (by decide)]) (by rw [nx2 15 (by decide), cO 15 (by decide) (by decide)])
    have sN : StN (r_nx C3) T n' := by
      refine StN_ref (R := S) ?_ (t19 5 (by decide)) (tO 21 (by decide) (by decide)) (tO 22 (by decide) (by decide)) (tO 24 (by decide) (by decide)) (tO 25 (by decide) (by decide))
      unfold StN
      rw [nx2 3 (by decide), nx2 4 (by decide), nx2 5 (by decide), nx2 7 (by decide), nx2 8 (by decide), c3 5 (by decide), cO 4 (by decide) (by decide), cO 5 (by decide) (by decide), cO 7 (by decide) (by decide), cO 8 (by decide) (by decide)]
      exact x15
    have sL : StL (r_nx C3) T n' lc' := StL_of x16 (by rw [nx2 3 (by decide), c3 9 (by decide)]) (by rw [nx2 4 (by decide), cO 4 (by decide) (by decide)]) (by rw [nx2 5 (by decide), cO 5 (by decide) (by decide)]) (by rw [nx2 6 (by decide), cO 6 (by decide) (by decide)]) (by rw [nx2 10 (by decide), cO 10 (by decide) (by decide)]) (tO 23 (by decide) (by decide))
    obtain ⟨r1, r2, r3, r4, r5⟩ := frm_mt hfT x8 x9 x10
    have mOT : mO T = 0 := by
      have : mO T = mO S := by unfold mO; rw [t19 13 (by decide)]
      rw [this]; exact mOS
    have bT : bgM T = T := by unfold bgM; rw [if_pos mOT]
    have n9 : r_nx C3 9 = upd (C2 9) d (nI m) := by rw [nx2 9 (by decide)]; exact c9
    have n37 : r_nx C3 3 7 = nI (d + 1) := by rw [nx2 3 (by decide)]; exact c7
    generalize r_nx C3 = C4 at hF hE nx1 hT4 sN sL n9 n37
    refine ih C4 T (i' + 1) n' lc' (d + 1) f' mOT ⟨hT4, nx1, x3, ⟨by rw [t19 4 (by decide)]; exact x4, u1, u2, r1, r2, r3⟩, by rw [t19 1 (by decide)]; exact x12, by rw [tO 20 (by decide) (by decide)]; exact x13, by rw [t19 2 (by decide)]; exact x14, fun z => absurd mOT z, by rw [bT]; exact sN, by rw [bT]; exact sL, x17⟩ n37 t11 (by omega) (fun k hk => ?_) ((hx.tr hfS).tr hfT.x) (by omega) (by rw [← etl]; exact hf') hF hE
    rw [n9, t26]
    by_cases c : k = d
    · rw [c, upd_eq, upd_eq]
    · rw [upd_lt _ _ (by omega), upd_lt _ _ (by omega), hc9, k3]
      exact hd4 k (by omega)
theorem rd_and {A B : aM → Prop} : ∀ (f : Nat) (M : aM), m_rd A f M → m_rd B f M → m_rd (fun N => A N ∧ B N) f M
  | 0, _, h, _ => h
  | f + 1, M, h1, h2 => by
    rw [m_rd] at h1 h2 ⊢
    by_cases c : 0 ≤ M 19 4
    · rw [if_pos c] at h1 h2 ⊢
      exact ⟨h1, h2⟩
    rw [if_neg c] at h1 h2 ⊢
    refine ⟨h1.1, ?_⟩
    obtain ⟨-, h1⟩ := h1
    obtain ⟨-, h2⟩ := h2
    by_cases ce : sc_e (vw M) (cl (M 19 2)) = -1
    · rw [if_pos ce] at h1 h2 ⊢
      exact fun a => ⟨h1 a, h2 a⟩
    rw [if_neg ce] at h1 h2 ⊢
    by_cases c10 : sc_k (vw M) (cl (M 19 2)) = 10
    · rw [if_pos c10] at h1 h2 ⊢
      exact ⟨h1.1, h1.2, h2.2⟩
    rw [if_neg c10] at h1 h2 ⊢
    exact ⟨h1.1, rd_and f _ h1.2 h2.2⟩
theorem rd_mono {A B : aM → Prop} (hAB : ∀ N, A N → B N) : ∀ (f : Nat) (M : aM), m_rd A f M → m_rd B f M
  | 0, _, h => h
  | f + 1, M, h1 => by
    rw [m_rd] at h1 ⊢
    by_cases c : 0 ≤ M 19 4
    · rw [if_pos c] at h1 ⊢
      exact hAB _ h1
    rw [if_neg c] at h1 ⊢
    refine ⟨h1.1, ?_⟩
    obtain ⟨-, h1⟩ := h1
    by_cases ce : sc_e (vw M) (cl (M 19 2)) = -1
    · rw [if_pos ce] at h1 ⊢
      exact fun a => hAB _ (h1 a)
    rw [if_neg ce] at h1 ⊢
    by_cases c10 : sc_k (vw M) (cl (M 19 2)) = 10
    · rw [if_pos c10] at h1 ⊢
      exact ⟨h1.1, hAB _ h1.2⟩
    rw [if_neg c10] at h1 ⊢
    exact ⟨h1.1, rd_mono hAB f _ h1.2⟩
end
section
/-! READ AS A WHOLE, on both sides -/
theorem scan_fr (V : aM) : ∀ (k i p : Nat) (M : aM) (q : Nat), ¬ q = 12 → ¬ q = 13 → ¬ q = 14 → ¬ q = 15 → scanM V k i p M q = M q
  | 0, _, _, _, _, _, _, _, _ => rfl
  | k + 1, i, p, M, q, a, b, c, d => by
    have h : sc_put V M i p q = M q := by unfold sc_put; rw [am_up_ne a, am_up_ne d, am_up_ne c, am_up_ne b]
    unfold scanM
    split
    · exact h
    split
    · exact h
    · rw [scan_fr V k _ _ _ q a b c d]; exact h
theorem clr_c (M : aM) : (∀ q, ¬ q = 3 → clrM M q = M q) ∧ clrM M 3 5 = nI 0 ∧ clrM M 3 7 = nI 0 ∧ clrM M 3 9 = nI 5 := by
  unfold clrM
  refine ⟨fun q h => by rw [am_up_ne h, am_up_ne h, am_up_ne h], ?_, ?_, ?_⟩
  · simp only [am_up_ap, ↓reduceIte, Nat.reduceEqDiff]; rfl
  · simp only [am_up_ap, ↓reduceIte, Nat.reduceEqDiff]; rfl
  · simp only [am_up_ap, ↓reduceIte]; rfl
theorem rd0_c (M : aM) : (∀ q, ¬ q = 3 → ¬ q = 11 → ¬ q = 12 → ¬ q = 13 → ¬ q = 14 → ¬ q = 15 → rd0 M q = M q) ∧ rd0 M 3 = clrM M 3 ∧ rd0 M 11 3 = nI 0 ∧ rd0 M 11 4 = -1 := by
  unfold rd0
  refine ⟨fun q a b c d e f => ?_, ?_, ?_, ?_⟩
  · rw [am_up_ne b, am_up_ne b, scan_fr _ _ _ _ _ q c d e f, am_up_ne c, (clr_c M).1 q a]
  · rw [am_up_ne (by decide), am_up_ne (by decide), scan_fr _ _ _ _ _ 3 (by decide) (by decide) (by decide) (by decide), am_up_ne (by decide)]
  · rw [am_up_i, if_pos rfl, upd_eq]; rfl
  · rw [am_up_ap, if_pos rfl, if_neg (by decide), am_up_i, if_pos rfl, upd_eq]
theorem rd0_TT {M : aM} (h : tx_ok M) : TT (clrM M) (rd0 M) := by
  obtain ⟨c1, -⟩ := clr_c M
  obtain ⟨r1, -⟩ := rd0_c M
  refine ⟨h, by rw [r1 1 (by decide) (by decide) (by decide) (by decide) (by decide) (by decide), c1 1 (by decide)], by rw [r1 2 (by decide) (by decide) (by decide) (by decide) (by decide) (by decide), c1 2 (by decide)], fun j hj ho => ?_⟩
  have q := scan_spec (V := clrM M) 401 0 (am_up (clrM M) 12 3 0) rfl (fun k hk => absurd hk (by omega)) j (by omega) hj ho
  have e : pos (clrM M) 0 = 0 := rfl
  rw [e] at q
  unfold rd0
  generalize scanM (clrM M) 401 0 0 (am_up (clrM M) 12 3 0) = S at q ⊢
  unfold tok_at at q ⊢
  rw [am_up_ne (by decide), am_up_ne (by decide), am_up_ne (by decide), am_up_ne (by decide), am_up_ne (by decide), am_up_ne (by decide), am_up_ne (by decide), am_up_ne (by decide)]
  exact q
theorem lq_clr (M : aM) : lq M (clrM M) := fun h => by
  obtain ⟨c1, -, -, c9⟩ := clr_c M
  refine ⟨⟨5, c9, by omega, by omega⟩, fun k hk => ?_⟩
  rw [c1 10 (by decide)]
  exact h.2 k hk
theorem lq_addD (M : aM) (x : Int32) : lq M (n_addD M x) := by
  unfold n_addD
  split
  · exact lq.rf M
  split
  · exact ((lq.rf M).up ⟨by decide, Or.inl (by decide)⟩).up ⟨by decide, Or.inr (by decide)⟩
  · exact lq.rf M
theorem lq_rdL : ∀ (r : Nat) (M : aM), lq M (rdL r M)
  | 0, M => lq.rf M
  | r + 1, M => by
    unfold rdL
    split
    · exact lq.rf M
    split
    · exact (lq_rdD 15 M).tr (lq_clr _)
    · exact (((lq_rdD 15 M).tr (lq_addD _ _)).tr (lq_nx _)).tr (lq_rdL r _)
theorem lq_rdT (M : aM) : lq M (rdT M) := by
  refine lq.tr ?_ (lq_rdL 401 (rd0 M))
  obtain ⟨r1, r3, -, -⟩ := rd0_c M
  intro h
  refine ⟨⟨5, by rw [r3]; exact (clr_c M).2.2.2, by omega, by omega⟩, fun k hk => ?_⟩
  rw [r1 10 (by decide) (by decide) (by decide) (by decide) (by decide) (by decide)]
  exact h.2 k hk
theorem rdL_2 : ∀ (r : Nat) (M : aM), rdL r M 2 = M 2
  | 0, M => rfl
  | r + 1, M => by
    have h := (dk_rdD 15 M).1 2 (by omega)
    unfold rdL
    split
    · rfl
    split
    · rw [(clr_c _).1 2 (by decide)]; exact h
    · rw [rdL_2 r _]
      have e : ∀ (A : aM) (x : Int32), n_addD A x 2 = A 2 := fun A x => by
        unfold n_addD
        split
        · rfl
        split
        · rw [am_up_ne (by decide), am_up_ne (by decide)]
        · rfl
      unfold r_nx
      rw [am_up_ne (by decide), e]
      exact h
/-- both sides hold the same nodes and data -/
def EQ (M : aM) : Prop := ∃ n lc d, StN M M n ∧ StL M M n lc ∧ M 3 7 = nI d ∧ M 19 11 = nI d ∧ d ≤ 200 ∧ ∀ k, k < d → M 9 k = M 26 k
/-- what the two readings of M leave behind, N the reference's -/
def RQ (M N : aM) : Prop := EQ (m_fin N) ∧ m_fin N 2 = m_fin N 20 ∧ ((rdF 401 (rd0 M) = true ∧ m_ans N = -1) ∨ (rdF 401 (rd0 M) = false ∧ m_ans N = rdT M 3 7)) ∧ ∀ q, q < 19 → ¬ q = 1 → m_fin N q = rdT M q
theorem rd_EQ {M : aM} (h : I2 M) (h2 : M 2 = M 20) (hq : Lq M) : m_rd (RQ M) 402 (m_r0 (am_up (rdT M) 1 1 0)) := by
  obtain ⟨⟨a1, a2⟩, ⟨b1, b2⟩, c, d1, d2, d3, d4⟩ := h
  have hfr := fr_read M
  have hL := lq_rdT M hq
  have h2T : rdT M 2 = M 2 := by
    unfold rdT
    rw [rdL_2, (rd0_c M).1 2 (by decide) (by decide) (by decide) (by decide) (by decide) (by decide)]
  have m1 : ∀ q, ¬ q = 1 → am_up (rdT M) 1 1 0 q = rdT M q := fun q hq => am_up_ne hq
  generalize am_up (rdT M) 1 1 0 = M1 at hfr m1 ⊢
  have z : (∀ i, ¬ i = 19 → m_r0 M1 i = M1 i) ∧ (∀ j, ¬ j = 4 → ¬ j = 2 → ¬ j = 5 → ¬ j = 11 → ¬ j = 13 → m_r0 M1 19 j = M1 19 j) ∧ m_r0 M1 19 4 = -1 ∧ m_r0 M1 19 2 = 0 ∧ m_r0 M1 19 5 = 0 ∧ m_r0 M1 19 11 = 0 ∧ m_r0 M1 19 13 = 0 := by
    unfold m_r0
    refine ⟨fun i hi => by rw [am_up_ne hi, am_up_ne hi, am_up_ne hi, am_up_ne hi, am_up_ne hi], fun j g1 g2 g3 g4 g5 => ?_, ?_, ?_, ?_, ?_, ?_⟩
    · simp only [am_up_ap, g1, g2, g3, g4, g5, ↓reduceIte]
    · simp only [am_up_ap, ↓reduceIte, Nat.reduceEqDiff]
    · simp only [am_up_ap, ↓reduceIte, Nat.reduceEqDiff]
    · simp only [am_up_ap, ↓reduceIte, Nat.reduceEqDiff]
    · simp only [am_up_ap, ↓reduceIte, Nat.reduceEqDiff]
    · simp only [am_up_ap, ↓reduceIte]
  generalize m_r0 M1 = R at z ⊢
  obtain ⟨z1, z2, z3, z4, z5, z6, z7⟩ := z
  have e1 : R 19 1 = M 19 1 := by rw [z2 1 (by decide) (by decide) (by decide) (by decide) (by decide), hfr 19 (by decide)]
  have e20 : R 20 = M 20 := by rw [z1 20 (by decide), hfr 20 (by decide)]
  have mtR : mt_ok R := by unfold mt_ok m_tl; rw [e1]; exact b1
  have tbR : tb_ok R := by unfold tb_ok m_tl; rw [e1, e20]; exact b2
  have nR : mN R = 0 := by unfold mN; rw [z5]; rfl
  have dR : mD R = 0 := by unfold mD; rw [z6]; rfl
  have oR : mO R = 0 := by unfold mO; rw [z7]; rfl
  have aR : cl (R 19 2) = 0 := by rw [z4]; rfl
  have hSI : SI false R := by unfold SI; rw [nR, dR, oR]; exact SIr_0 _ _ _ _ _ _ _
  have hbs : bs_ok R := ⟨⟨by rw [nR, z5]; rfl, by rw [nR]; omega⟩, ⟨by rw [dR, z6]; rfl, by rw [dR]; omega⟩, ⟨by rw [oR, z7]; rfl, by rw [oR]; omega⟩⟩
  have hbd : bdy R := ⟨by rw [z3]; decide, hSI, hbs, mtR, tbR, ⟨by rw [aR, z4]; rfl, by rw [aR]; omega⟩⟩
  have bM : bgM R = R := by unfold bgM; rw [if_pos oR]
  have hTT := rd0_TT a1
  obtain ⟨r1, r3, r113, r114⟩ := rd0_c M
  obtain ⟨c1, c5, c7, c9⟩ := clr_c M
  have eT : rdL 401 (rd0 M) = rdT M := rfl
  have f10 : rd0 M 10 = M 10 := r1 10 (by decide) (by decide) (by decide) (by decide) (by decide) (by decide)
  have hfin : ∀ N, frx R N → (∀ q, q < 19 → ¬ q = 1 → m_fin N q = rdT M q) ∧ (∀ q, ¬ q = 19 → m_fin N q = N q) ∧ m_fin N 20 = M 20 ∧ m_fin N 19 5 = (if 0 ≤ N 19 4 then 0 else N 19 5) ∧ m_fin N 19 11 = (if 0 ≤ N 19 4 then 0 else N 19 11) := by
    intro N hN
    have y1 : ∀ i, ¬ i = 19 → m_fin N i = N i := fun i hi => by unfold m_fin; rw [am_up_ne hi, am_up_ne hi, am_up_ne hi]
    refine ⟨fun q h1 h3 => ?_, y1, ?_, ?_, ?_⟩
    · rw [y1 q (by omega), hN.1 q (Or.inl h1), z1 q (by omega), m1 q h3]
    · rw [y1 20 (by decide), hN.1 20 (Or.inr (Or.inl rfl)), e20]
    · unfold m_fin; simp only [am_up_ap, ↓reduceIte, Nat.reduceEqDiff]
    · unfold m_fin; simp only [am_up_ap, ↓reduceIte]
  refine top_loop (V := clrM M) (R0 := R) 401 (rd0 M) R 0 0 5 0 402 oR ⟨hTT, r113, fun k hk => absurd hk (by omega), hbd, ?_, ?_, ?_, fun q => absurd oR q, ?_, ?_, by omega⟩ (by rw [r3]; exact c7) (by rw [z6]; rfl) (by omega) (fun k hk => absurd hk (by omega)) (frx.rf R) (by omega) ?_ ?_ ?_
  · rw [e1, c1 1 (by decide)]; exact c.symm
  · rw [e20, c1 2 (by decide)]; exact h2.symm
  · rw [z4]; rfl
  · rw [bM]
    exact ⟨by rw [r3]; exact c5, by rw [z5]; rfl, by omega, fun x hx => absurd hx (by omega)⟩
  · rw [bM]
    exact ⟨by rw [r3]; exact c9, by omega, by omega, fun k hk => by rw [f10]; exact hq.2 k hk, fun x hx => absurd hx (by omega)⟩
  · have := mtR.2
    omega
  · intro hf N hN h4
    obtain ⟨C', hC'⟩ := rdF_clr _ _ hf
    rw [eT] at hC'
    obtain ⟨y1, y2, y3, y4, y5⟩ := hfin N hN
    rw [if_pos h4] at y4 y5
    have t3 : m_fin N 3 = clrM C' 3 := by rw [y1 3 (by omega) (by omega), hC']
    obtain ⟨-, q5, q7, q9⟩ := clr_c C'
    refine ⟨⟨0, 5, 0, ⟨by rw [t3]; exact q5, by rw [y4]; rfl, by omega, fun x hx => absurd hx (by omega)⟩, ⟨by rw [t3]; exact q9, by omega, by omega, fun k hk => by rw [y1 10 (by omega) (by omega)]; exact hL.2 k hk, fun x hx => absurd hx (by omega)⟩, by rw [t3]; exact q7, by rw [y5]; rfl, by omega, fun k hk => absurd hk (by omega)⟩, by rw [y1 2 (by omega) (by omega), h2T, y3]; exact h2, Or.inl ⟨hf, by unfold m_ans; rw [if_pos h4]⟩, y1⟩
  · intro hf N n' lc' d' hN h4 sN sL hd hd2 hd3 hd4
    rw [eT] at sN sL hd hd4
    have h4' : ¬ 0 ≤ N 19 4 := Int32.not_le.mpr h4
    obtain ⟨y1, y2, y3, y4, y5⟩ := hfin N hN
    rw [if_neg h4'] at y4 y5
    refine ⟨⟨n', lc', d', ?_, ?_, by rw [y1 3 (by omega) (by omega)]; exact hd, by rw [y5]; exact hd2, hd3, by rw [y1 9 (by omega) (by omega), y2 26 (by decide)]; exact hd4⟩, by rw [y1 2 (by omega) (by omega), h2T, y3]; exact h2, Or.inr ⟨hf, by unfold m_ans; rw [if_neg h4', hd2, hd]⟩, y1⟩
    · unfold StN
      rw [y1 3 (by omega) (by omega), y1 4 (by omega) (by omega), y1 5 (by omega) (by omega), y1 7 (by omega) (by omega), y1 8 (by omega) (by omega), y4, y2 21 (by decide), y2 22 (by decide), y2 24 (by decide), y2 25 (by decide)]
      exact sN
    · unfold StL ltrs
      rw [y1 3 (by omega) (by omega), y1 4 (by omega) (by omega), y1 5 (by omega) (by omega), y1 6 (by omega) (by omega), y1 10 (by omega) (by omega), y2 23 (by decide)]
      exact sL
end
section
/-! WHAT HOLDS BETWEEN CALLS, both sides holding the same -/
theorem EQ.of {M N : aM} (h : EQ M) (hc : ∀ i, 3 ≤ i → i ≤ 10 → N i = M i) (h5 : N 19 5 = M 19 5) (h11 : N 19 11 = M 19 11) (hr : ∀ i, 21 ≤ i → i ≤ 26 → N i = M i) : EQ N := by
  obtain ⟨n, lc, d, h1, h2, h3, h4, h6, h7⟩ := h
  refine ⟨n, lc, d, ?_, ?_, ?_, ?_, h6, ?_⟩
  · unfold StN
    rw [hc 3 (by omega) (by omega), hc 4 (by omega) (by omega), hc 5 (by omega) (by omega), hc 7 (by omega) (by omega), hc 8 (by omega) (by omega), h5, hr 21 (by omega) (by omega), hr 22 (by omega) (by omega), hr 24 (by omega) (by omega), hr 25 (by omega) (by omega)]
    exact h1
  · unfold StL ltrs
    rw [hc 3 (by omega) (by omega), hc 4 (by omega) (by omega), hc 5 (by omega) (by omega), hc 6 (by omega) (by omega), hc 10 (by omega) (by omega), hr 23 (by omega) (by omega)]
    exact h2
  · rw [hc 3 (by omega) (by omega)]; exact h3
  · rw [h11]; exact h4
  · rw [hc 9 (by omega) (by omega), hr 26 (by omega) (by omega)]; exact h7
def I3 (M : aM) : Prop := I2 M ∧ M 2 = M 20 ∧ EQ M
theorem EQ.lq {M : aM} (h : EQ M) : Lq M := by
  obtain ⟨n, lc, d, h1, h2, h3, h4, h6, h7⟩ := h
  exact ⟨⟨lc, h2.1, h2.2.1, h2.2.2.1⟩, h2.2.2.2.1⟩
theorem I3.wq {M N : aM} (h : I3 M) (hr : wq_rel M N) : I3 N := by
  refine ⟨h.1.wq hr, ?_, h.2.2.of (fun i a b => hr.1 i (by omega) (by omega) (by omega) (by omega)) (hr.2.1 5 (by decide)) (hr.2.1 11 (by decide)) (fun i a b => hr.1 i (by omega) (by omega) (by omega) (by omega))⟩
  rw [hr.1 2 (by decide) (by decide) (by decide) (by decide), hr.1 20 (by decide) (by decide) (by decide) (by decide)]
  exact h.2.1
theorem I3.f9 {M N : aM} (h : I3 M) (hr : fr9 M N) (hw : wt_ok N) : I3 N := by
  refine ⟨h.1.f9 hr hw, ?_, h.2.2.of (fun i a b => hr i (by omega) (by omega)) (by rw [hr 19 (by decide) (by decide)]) (by rw [hr 19 (by decide) (by decide)]) (fun i a b => hr i (by omega) (by omega))⟩
  rw [hr 2 (by decide) (by decide), hr 20 (by decide) (by decide)]
  exact h.2.1
theorem p_I3 {M : aM} {v : Int64} {n : Int32} (h : I3 M) : I3 (p2M (p1M M v n) v n) := by
  have hfr := p1_fr M v n
  have hq2 : (∀ i, ¬ i = 19 → ¬ i = 20 → p2M (p1M M v n) v n i = p1M M v n i) ∧ (∀ j, ¬ j = 1 → p2M (p1M M v n) v n 19 j = p1M M v n 19 j) := by
    unfold p2M
    split
    · exact ⟨(fm_put v _ _).1, (fm_put v _ _).2.1⟩
    · exact ⟨fun _ _ _ => rfl, fun _ _ => rfl⟩
  refine ⟨p_I2 h.1, ?_, h.2.2.of (fun i a b => (hq2.1 i (by omega) (by omega)).trans (hfr i (by omega))) (by rw [hq2.2 5 (by decide), hfr 19 (by decide)]) (by rw [hq2.2 11 (by decide), hfr 19 (by decide)]) (fun i a b => (hq2.1 i (by omega) (by omega)).trans (hfr i (by omega)))⟩
  rw [hq2.1 2 (by decide) (by decide)]
  have c := h.1.2.2.1
  have hb : m_putOk (p1M M v n) n = d_putOk M n := by
    unfold d_putOk m_putOk
    rw [hfr 19 (by decide), c]
  cases hq : d_putOk M n
  · have e2 : p2M (p1M M v n) v n = p1M M v n := by unfold p2M; rw [hb, hq]; rfl
    have e1 : p1M M v n = M := by unfold p1M; rw [hq]; rfl
    rw [e2, e1]
    exact h.2.1
  · have e2 : p2M (p1M M v n) v n = m_putL v (cl n) (p1M M v n) := by unfold p2M; rw [hb, hq]; rfl
    have e1 : p1M M v n = d_putL v (cl n) M := by unfold p1M; rw [hq]; rfl
    have l1 := putOk_D h.1.1.1 hq
    have h8 : cl n ≤ 8 := by
      have hq' := hq
      unfold d_putOk at hq'
      simp only [Bool.and_eq_true, Bool.not_eq_true', decide_eq_false_iff_not] at hq'
      have h1 : ¬ n < 0 := fun q => hq'.1.1 (Int32.lt_trans q (by decide))
      obtain ⟨j, hj, rfl⟩ := nI_of h1
      rw [show cl (nI j) = j from nI_clamp hj]
      exact Nat.le_of_not_lt (fun q => hq'.1.2 (nI_lt (a := 8) q hj))
    have q := put_txt v (cl n) M (p1M M v n) h8 (by rw [hfr 20 (by decide)]; exact h.2.1) (by unfold tl m_tl; rw [hfr 19 (by decide), c]) l1
    rw [e2]
    rw [show p1M M v n 2 = d_putL v (cl n) M 2 by rw [e1]]
    exact q
theorem r_I3 {M : aM} (h : I3 M) {K : aR} (hK : ∀ (r : Int32) (N : aM), I3 N → ((rdF 401 (rd0 M) = true ∧ r = -1) ∨ (rdF 401 (rd0 M) = false ∧ r = rdT M 3 7)) → (∀ q, q < 19 → ¬ q = 1 → N q = rdT M q) → K (some (.int r)) N) : m_rd (fun N => K (some (.int (m_ans N))) (m_fin N)) 402 (m_r0 (am_up (rdT M) 1 1 0)) := by
  have q1 := r_I2 (K := fun _ N => I2 N) h.1 (fun _ N hN => hN)
  have q2 := rd_EQ h.1 h.2.1 h.2.2.lq
  refine rd_mono ?_ 402 _ (rd_and 402 _ q1 q2)
  intro N hN
  exact hK (m_ans N) (m_fin N) ⟨hN.1, hN.2.2.1, hN.2.1⟩ hN.2.2.2.1 hN.2.2.2.2
/-! THE SIMPLE ANSWERS -/
theorem has_eq {M : aM} {n : Nat} (h : StN M M n) (x : Int32) : hasN M x = m_has M x ∧ (hasN M x = true → ∃ y, y < n ∧ x = nI y) := by
  have h200 := h.2.2.1
  unfold hasN m_has
  rw [h.1, h.2.1]
  by_cases c0 : x < 0
  · simp [c0]
  obtain ⟨y, hy, rfl⟩ := nI_of c0
  by_cases c1 : y < n
  · have a : nI y < nI n := nI_lt c1 (by omega)
    have b : nI y < 200 := nI_lt (b := 200) (by omega) (by decide)
    refine ⟨by simp [c0, a, b], fun _ => ⟨y, c1, rfl⟩⟩
  · have a : ¬ nI y < nI n := nI_nlt (by omega) (by omega)
    refine ⟨by simp [c0, a], fun z => ?_⟩
    simp [a] at z
theorem dat_eq {M : aM} (h : I3 M) (k : Int32) : n_data M k = m_data M k := by
  obtain ⟨n, lc, d, h1, h2, h3, h4, h6, h7⟩ := h.2.2
  unfold n_data m_data
  rw [h3, h4]
  by_cases c0 : k < 0
  · rw [if_pos c0, if_pos c0]
  rw [if_neg c0, if_neg c0]
  obtain ⟨y, hy, rfl⟩ := nI_of c0
  by_cases c1 : y < d
  · rw [if_pos (nI_lt c1 (by omega)), if_pos (nI_lt c1 (by omega)), if_pos (show nI y < 200 from nI_lt (b := 200) (by omega) (by decide)), show cl (nI y) = y from nI_clamp hy]
    exact h7 y c1
  · rw [if_neg (nI_nlt (by omega) (by omega)), if_neg (nI_nlt (by omega) (by omega))]
theorem kin_eq {M : aM} (h : I3 M) (x : Int32) : n_kind M x = m_kind M x := by
  obtain ⟨n, lc, d, h1, -⟩ := h.2.2
  have h200 := h1.2.2.1
  obtain ⟨e, f⟩ := has_eq h1 x
  unfold n_kind m_kind
  rw [← e]
  by_cases c : hasN M x = true
  · obtain ⟨y, hy, rfl⟩ := f c
    rw [if_pos c, if_pos c, show cl (nI y) = y from nI_clamp (by omega)]
    exact (h1.2.2.2 y hy).1
  · rw [if_neg c, if_neg c]
theorem amt_eq {M : aM} (h : I3 M) (x : Int32) : n_amt M x = m_amt M x := by
  obtain ⟨n, lc, d, h1, -⟩ := h.2.2
  have h200 := h1.2.2.1
  obtain ⟨e, f⟩ := has_eq h1 x
  unfold n_amt m_amt
  rw [← e]
  by_cases c : hasN M x = true
  · obtain ⟨y, hy, rfl⟩ := f c
    rw [if_pos c, if_pos c, show cl (nI y) = y from nI_clamp (by omega)]
    exact (h1.2.2.2 y hy).2.1
  · rw [if_neg c, if_neg c]
theorem byt_eq {M : aM} (h : I3 M) (x k : Int32) : n_byte M x k = m_byte M x k := by
  obtain ⟨n, lc, d, h1, h2, -⟩ := h.2.2
  have h200 := h1.2.2.1
  obtain ⟨e, f⟩ := has_eq h1 x
  unfold n_byte m_byte m_isT isN
  rw [← e]
  cases c : hasN M x
  · simp
  obtain ⟨y, hy, rfl⟩ := f c
  rw [show cl (nI y) = y from nI_clamp (by omega)]
  obtain ⟨p1, p2, p3, p4⟩ := h1.2.2.2 y hy
  simp only [Bool.true_and]
  rw [← p1, ← p2]
  by_cases ck : M 4 y = 2 ∨ M 4 y = 3
  · obtain ⟨s, a, q1, q2, q3, q4, q5⟩ := h2.2.2.2.2 y hy ck
    have hc : (decide (M 4 y = 2) || decide (M 4 y = 3)) = true := by
      rcases ck with z | z <;> simp [z]
    rw [if_pos hc, if_pos hc]
    by_cases c0 : k < 0
    · rw [if_pos c0, if_pos c0]
    rw [if_neg c0, if_neg c0, q2]
    obtain ⟨j, hj, rfl⟩ := nI_of c0
    have h405 := h2.2.2.1
    by_cases c1 : j < a
    · have es : M 6 y + nI j = nI (s + j) := by rw [q1, nI_add]
      rw [if_pos (nI_lt c1 (by omega)), if_pos (nI_lt c1 (by omega)), es, if_neg (nI_pos (by omega)), if_pos (show nI (s + j) < 405 from nI_lt (b := 405) (by omega) (by decide)), show cl (nI (s + j)) = s + j from nI_clamp (by omega), show cl (nI j) = j from nI_clamp hj]
      exact q5 j c1
    · rw [if_neg (nI_nlt (by omega) (by omega)), if_neg (nI_nlt (by omega) (by omega))]
  · have hc : ¬ (decide (M 4 y = 2) || decide (M 4 y = 3)) = true := by
      simp only [Bool.or_eq_true, decide_eq_true_eq]
      exact ck
    rw [if_neg hc, if_neg hc]
theorem prt_eq {M : aM} (h : I3 M) (x k : Int32) : d_part M x k = m_part M x k := by
  obtain ⟨n, lc, d, h1, -⟩ := h.2.2
  have h200 := h1.2.2.1
  obtain ⟨e, f⟩ := has_eq h1 x
  unfold d_part m_part n_head n_tail isN
  rw [← e]
  cases c : hasN M x
  · simp
  obtain ⟨y, hy, rfl⟩ := f c
  rw [show cl (nI y) = y from nI_clamp (by omega)]
  obtain ⟨p1, p2, p3, p4⟩ := h1.2.2.2 y hy
  rw [← p1, ← p3, ← p4]
  by_cases ck : M 4 y = 4
  · simp [ck]
  · simp [ck]
theorem wrt_eq {M N : aM} (h : I3 M) (h19 : N 19 = M 19) (x : Int32) : b2 (hasN M x) = b2 (m_has N x) := by
  obtain ⟨n, lc, d, h1, -⟩ := h.2.2
  have e := (has_eq h1 x).1
  unfold m_has at e ⊢
  rw [h19, ← e]
end
section
/-! THE DESK'S FAULT is kept -/
def kp (C D : aM) : Prop := D 11 = C 11 ∧ D 3 5 = C 3 5
theorem kp.rf (C : aM) : kp C C := ⟨rfl, rfl⟩
theorem kp.tr {C D E : aM} (h1 : kp C D) (h2 : kp D E) : kp C E := ⟨h2.1.trans h1.1, h2.2.trans h1.2⟩
theorem kp.up {C D : aM} (h : kp C D) {c j : Nat} {x : Int32} (hc : ¬ c = 11 ∧ (¬ c = 3 ∨ ¬ j = 5)) : kp C (am_up D c j x) := by
  refine ⟨by rw [am_up_ne (by omega)]; exact h.1, ?_⟩
  by_cases q : 3 = c
  · rw [am_up_i, if_pos q, upd, if_neg (by omega), ← q]; exact h.2
  · rw [am_up_ne q]; exact h.2
theorem kp_set {c : Nat} (hc : ¬ c = 11 ∧ ¬ c = 3) (M : aM) (x v : Int32) : kp M (n_set c M x v) := by
  unfold n_set
  split
  · exact (kp.rf M).up ⟨hc.1, Or.inl hc.2⟩
  · exact kp.rf M
theorem kp_ltr (M : aM) (x b : Int32) : kp M (n_ltr M x b) := by
  unfold n_ltr
  split
  · split
    · exact kp.rf M
    split
    · exact (((kp.rf M).up ⟨by decide, Or.inl (by decide)⟩).up ⟨by decide, Or.inr (by decide)⟩).up ⟨by decide, Or.inl (by decide)⟩
    · exact kp.rf M
  · exact kp.rf M
theorem kp_nmL (nd e : Int32) : ∀ (k : Nat) (i : Int32) (M : aM), kp M (nmL nd e k i M)
  | 0, _, M => kp.rf M
  | k + 1, i, M => by
    unfold nmL
    split
    · exact (kp_ltr _ _ _).tr (kp_nmL nd e k _ _)
    · exact kp.rf M
theorem kp_stL (nd e : Int32) : ∀ (k : Nat) (i : Int32) (M : aM), kp M (stL nd e k i M)
  | 0, _, M => kp.rf M
  | k + 1, i, M => by
    unfold stL
    split
    · split
      · exact (kp_ltr _ _ _).tr (kp_stL nd e k _ _)
      · exact (kp_ltr _ _ _).tr (kp_stL nd e k _ _)
    · exact kp.rf M
theorem n_add_11 (M : aM) (k : Int32) : (n_add M k).2 11 = M 11 := by
  unfold n_add
  split
  · rfl
  split
  · dsimp only
    rw [am_up_ne (by decide), am_up_ne (by decide), am_up_ne (by decide), am_up_ne (by decide), am_up_ne (by decide), am_up_ne (by decide)]
  · rfl
def GC (V C : aM) (i n : Nat) : Prop := TT V C ∧ C 11 3 = nI i ∧ okT V i ∧ C 3 5 = nI n ∧ n ≤ 200 ∧ C 11 4 = -1
def PF (V : aM) (n : Nat) (p : Int32 × aM) : Prop := (p.1 = -1 ∧ ¬ p.2 11 4 = -1) ∨ (¬ p.1 = -1 ∧ ∃ i n', TT V p.2 ∧ p.2 11 3 = nI i ∧ okT V (i + 1) ∧ p.2 3 5 = nI n' ∧ n < n' ∧ n' ≤ 200 ∧ p.2 11 4 = -1)
theorem flt_ne {V C : aM} {i : Nat} (h : TT V C) (hi : C 11 3 = nI i) (ho : okT V i) : ¬ r_fltM C 11 4 = -1 := by
  obtain ⟨l1, l2, l3, l4⟩ := h.lt ho
  have hb := (h.read hi ho).2.1
  have hs := (f_skip_le (M := V) l3).2
  have hss : sc_s V (pos V i) = f_skip V (pos V i) := rfl
  unfold r_beg at hb
  unfold r_fltM
  rw [am_up_i, if_pos rfl, upd_eq, hb]
  exact nI_ne (by omega)
theorem add_fl {V C : aM} {i : Nat} {k : Int32} (h : TT V C) (hi : C 11 3 = nI i) (ho : okT V i) (hz : (r_add C k).1 = -1) : ¬ (r_add C k).2 11 4 = -1 := by
  have hd := dk_add C k
  have h11 := n_add_11 C k
  unfold r_add at hz ⊢
  by_cases c : (n_add C k).1 = -1
  · rw [if_pos c]
    exact flt_ne (h.of hd) (by rw [h11]; exact hi) ho
  · rw [if_neg c] at hz
    exact absurd hz c
theorem add_3 (C : aM) (k : Int32) : (r_add C k).2 11 3 = C 11 3 := by
  have h11 := n_add_11 C k
  unfold r_add
  split
  · show r_fltM (n_add C k).2 11 3 = C 11 3
    unfold r_fltM
    rw [am_up_ap, if_pos rfl, if_neg (by decide), h11]
  · rw [h11]
theorem GC.kp {V C D : aM} {i n : Nat} (h : GC V C i n) (hk : kp C D) (hd : dk C D) : GC V D i n := by
  obtain ⟨a, b, c, d, e, f⟩ := h
  exact ⟨a.of hd, by rw [hk.1]; exact b, c, by rw [hk.2]; exact d, e, by rw [hk.1]; exact f⟩
theorem GC.nx {V C : aM} {i n : Nat} (h : GC V C i n) (ho : okT V (i + 1)) : GC V (r_nx C) (i + 1) n := by
  obtain ⟨a, b, c, d, e, f⟩ := h
  obtain ⟨x1, x2⟩ := nx_c b
  refine ⟨a.of (dk_nx C), x1, ho, by rw [x2 3 (by decide)]; exact d, e, ?_⟩
  unfold r_nx
  rw [am_up_ap, if_pos rfl, if_neg (by decide)]
  exact f
theorem GC.new {V C : aM} {i n : Nat} {k : Int32} (h : GC V C i n) (hn : n < 200) : r_add C k = (nI n, n_newM C n k) ∧ GC V (n_newM C n k) i (n + 1) := by
  obtain ⟨a, b, c, d, e, f⟩ := h
  have ea := (add_lt (k := k) d hn).2
  have hd := dk_radd C k
  rw [ea] at hd
  have c11 : n_newM C n k 11 = C 11 := (newM_c C n k).1 11 (by decide) (by decide) (by decide) (by decide) (by decide) (by decide)
  exact ⟨ea, a.of hd, by rw [c11]; exact b, c, (newM_c C n k).2.2.1, by omega, by rw [c11]; exact f⟩
theorem PF_add {V C : aM} {i n : Nat} {k : Int32} (h : GC V C i n) (ho : okT V (i + 1)) : PF V n (r_add C k) := by
  by_cases c : n = 200
  · have ea := (add_200 (k := k) (show C 3 5 = nI 200 by rw [h.2.2.2.1, c])).2
    rw [ea]
    exact Or.inl ⟨rfl, flt_ne h.1 h.2.1 h.2.2.1⟩
  · have h5 := h.2.2.2.2.1
    obtain ⟨ea, g1, g2, g3, g4, g5, g6⟩ := h.new (k := k) (by omega)
    rw [ea]
    exact Or.inr ⟨nI_ne (by omega), i, n + 1, g1, g2, ho, g4, by omega, g5, g6⟩
theorem PF.step {V D : aM} {n : Nat} {p : Int32 × aM} (h : PF V n p) (hk : kp p.2 D) (hd : dk p.2 D) : PF V n (p.1, D) := by
  rcases h with ⟨a, b⟩ | ⟨a, i, n', b1, b2, b3, b4, b5, b6, b7⟩
  · exact Or.inl ⟨a, by show ¬ D 11 4 = -1; rw [hk.1]; exact b⟩
  · exact Or.inr ⟨a, i, n', b1.of hd, by show D 11 3 = nI i; rw [hk.1]; exact b2, b3, by show D 3 5 = nI n'; rw [hk.2]; exact b4, b5, b6, by show D 11 4 = -1; rw [hk.1]; exact b7⟩
theorem PF.mono {V : aM} {n n0 : Nat} {p : Int32 × aM} (h : PF V n p) (hn : n0 ≤ n) : PF V n0 p := by
  rcases h with h | ⟨a, i, n', b1, b2, b3, b4, b5, b6, b7⟩
  · exact Or.inl h
  · exact Or.inr ⟨a, i, n', b1, b2, b3, b4, by omega, b6, b7⟩
theorem PF_num {V C : aM} {i n : Nat} (h : GC V C i n) (ho : okT V (i + 1)) : PF V n (r_num C) := (PF_add (k := 1) h ho).step (kp_set (by decide) _ _ _) (dk_set (by decide) _ _ _)
theorem PF_name {V C : aM} {i n : Nat} (h : GC V C i n) (ho : okT V (i + 1)) : PF V n (r_name C) := (PF_add (k := 2) h ho).step (kp_nmL _ _ _ _ _) (dk_nmL _ _ _ _ _)
theorem PF_str {V C : aM} {i n : Nat} (h : GC V C i n) (ho : okT V (i + 1)) : PF V n (r_str C) := (PF_add (k := 3) h ho).step (kp_stL _ _ _ _ _) (dk_stL _ _ _ _ _)
/-- the token under the cursor, and the next -/
theorem GC.tok {V C : aM} {i n : Nat} {k : Int32} (h : GC V C i n) (hk : tkS C = k) (h10 : ¬ k = 10) (h11 : ¬ k = 11) : okT V (i + 1) := by
  have kk := (h.1.read h.2.1 h.2.2.1).1
  by_cases ce : sc_e V (pos V i) = -1
  · rw [if_pos ce, hk] at kk
    exact absurd kk h11
  · rw [if_neg ce, hk] at kk
    exact h.2.2.1.s ce (by rw [← kk]; exact h10)
def FL (V : aM) (g : aM → Int32 × aM) : Prop := ∀ (C : aM) (i n : Nat), GC V C i n → PF V n (g C)
theorem PF.ok {V : aM} {n : Nat} {p : Int32 × aM} (h : PF V n p) (hz : ¬ p.1 = -1) : ∃ i n', GC V p.2 i n' ∧ okT V (i + 1) ∧ n < n' := by
  rcases h with ⟨a, -⟩ | ⟨-, i, n', b1, b2, b3, b4, b5, b6, b7⟩
  · exact absurd a hz
  · exact ⟨i, n', ⟨b1, b2, fun j hj => b3 j (by omega), b4, b6, b7⟩, b3, b5⟩
theorem PF.bad {V : aM} {n : Nat} {p : Int32 × aM} (h : PF V n p) (hz : p.1 = -1) : ¬ p.2 11 4 = -1 := by
  rcases h with ⟨-, b⟩ | ⟨a, -⟩
  · exact b
  · exact absurd hz a
theorem PF_lE {V : aM} {n : Nat} {p : Int32 × aM} {a b : Int32} (h : PF V n p) (ha : ¬ a = -1) : PF V n (r_lE p a b) := by
  have q := h.step (kp_set (c := 8) (by decide) p.2 b p.1) (dk_set (c := 8) (by decide) p.2 b p.1)
  unfold r_lE
  by_cases c : p.1 = -1
  · rw [if_pos c]
    exact Or.inl ⟨rfl, q.bad c⟩
  · rw [if_neg c]
    rcases q with ⟨z, -⟩ | ⟨-, z⟩
    · exact absurd z c
    · exact Or.inr ⟨ha, z⟩
theorem PF_dot {V : aM} {f : aM → Int32 × aM} (hf : FL V f) {C : aM} {i n : Nat} (h : GC V C i n) (ho : okT V (i + 1)) : PF V n (r_dot f C) := by
  have q := hf (r_nx C) (i + 1) n (h.nx ho)
  unfold r_dot
  by_cases c : (f (r_nx C)).1 = -1
  · rw [if_pos c]
    exact Or.inl ⟨rfl, q.bad c⟩
  rw [if_neg c]
  obtain ⟨i', n', g, ho', hn⟩ := q.ok c
  have g2 := g.nx ho'
  by_cases c7 : tkS (r_nx (f (r_nx C)).2) = 7
  · rw [if_pos c7]
    have ho2 := g2.tok c7 (by decide) (by decide)
    obtain ⟨g21, g22, g23, g24, g25, g26⟩ := g2
    exact Or.inr ⟨c, i' + 1, n', g21, g22, ho2, g24, hn, g25, g26⟩
  · rw [if_neg c7]
    exact Or.inl ⟨rfl, flt_ne g2.1 g2.2.1 g2.2.2.1⟩
theorem ll_m (g : aM → Int32 × aM) (first : Int32) (r : Nat) (M : aM) : r_ll g first r (-1) M = (-1, M) := by
  cases r with
  | zero => rw [r_ll]
  | succ r => rw [r_ll, if_pos rfl]
theorem PF_ll {V : aM} {f : aM → Int32 × aM} (hf : FL V f) {first : Int32} (h1 : ¬ first = -1) {n0 : Nat} : ∀ (r : Nat) (l : Int32) (C : aM) (i n : Nat), GC V C i n → ¬ l = -1 → 201 ≤ n + r → n0 ≤ n → PF V n0 (r_ll f first r l C) := by
  intro r
  induction r with
  | zero =>
    intro l C i n h hl hr hn
    have := h.2.2.2.2.1
    omega
  | succ r ih =>
    intro l C i n h hl hr hn
    have q := hf C i n h
    rw [r_ll, if_neg hl]
    by_cases c : (f C).1 = -1
    · rw [if_pos c]
      exact Or.inl ⟨rfl, q.bad c⟩
    rw [if_neg c]
    obtain ⟨i', n', g, ho', hn'⟩ := q.ok c
    have g2 : GC V (r_hd f l C) (i' + 1) n' := (g.kp (kp_set (c := 7) (by decide) _ _ _) (dk_set (c := 7) (by decide) _ _ _)).nx ho'
    generalize r_hd f l C = H at g2 ⊢
    by_cases c7 : tkS H = 7
    · rw [if_pos c7]
      exact PF_lE ((PF_add g2 (g2.tok c7 (by decide) (by decide))).mono (by omega)) h1
    rw [if_neg c7]
    by_cases c9 : tkS H = 9
    · rw [if_pos c9]
      exact PF_lE ((PF_dot hf g2 (g2.tok c9 (by decide) (by decide))).mono (by omega)) h1
    rw [if_neg c9]
    by_cases c200 : n' = 200
    · have ea := (add_200 (k := 4) (show H 3 5 = nI 200 by rw [g2.2.2.2.1, c200])).2
      rw [ea]
      show PF V n0 (r_ll f first r (-1) (n_set 8 (r_fltM H) l (-1)))
      rw [ll_m]
      refine Or.inl ⟨rfl, ?_⟩
      show ¬ n_set 8 (r_fltM H) l (-1) 11 4 = -1
      rw [(kp_set (c := 8) (by decide) (r_fltM H) l (-1)).1]
      exact flt_ne g2.1 g2.2.1 g2.2.2.1
    · have h5 := g2.2.2.2.2.1
      obtain ⟨ea, g3⟩ := g2.new (k := 4) (by omega)
      rw [ea]
      exact ih (nI n') _ (i' + 1) (n' + 1) (g3.kp (kp_set (c := 8) (by decide) _ _ _) (dk_set (c := 8) (by decide) _ _ _)) (nI_ne (by omega)) (by omega) (by omega)
theorem PF_lst {V : aM} {f : aM → Int32 × aM} (hf : FL V f) {C : aM} {i n : Nat} (h : GC V C i n) (ho : okT V (i + 1)) : PF V n (r_lst f C) := by
  unfold r_lst
  have kn := h.1.next h.2.1 ho
  by_cases c7 : tk C 13 11 (C 11 3 + 1) = 7
  · rw [if_pos c7]
    have g := h.nx ho
    have ce : ¬ sc_e V (pos V (i + 1)) = -1 := fun z => by
      rw [if_pos z, c7] at kn
      exact absurd kn (by decide)
    rw [if_neg ce, c7] at kn
    exact PF_add g (ho.s ce (by rw [← kn]; decide))
  rw [if_neg c7]
  by_cases c200 : n = 200
  · have ea := (add_200 (k := 4) (show C 3 5 = nI 200 by rw [h.2.2.2.1, c200])).2
    rw [ea]
    show PF V n (r_ll f (-1) 200 (-1) (r_nx (r_fltM C)))
    rw [ll_m]
    refine Or.inl ⟨rfl, ?_⟩
    show ¬ r_nx (r_fltM C) 11 4 = -1
    unfold r_nx
    rw [am_up_ap, if_pos rfl, if_neg (by decide)]
    exact flt_ne h.1 h.2.1 h.2.2.1
  · have h5 := h.2.2.2.2.1
    obtain ⟨ea, g⟩ := h.new (k := 4) (by omega)
    rw [ea]
    exact (PF_ll hf (nI_ne (by omega)) 200 (nI n) _ (i + 1) (n + 1) (g.nx ho) (nI_ne (by omega)) (by omega) (Nat.le_refl _)).mono (by omega)
theorem PF_quo {V : aM} {f : aM → Int32 × aM} (hf : FL V f) {C : aM} {i n : Nat} (h : GC V C i n) (ho : okT V (i + 1)) : PF V n (r_quo f C) := by
  obtain ⟨d1, d2, d3, d4, d5, d6⟩ := h
  unfold r_quo
  by_cases hn : n + 3 ≤ 200
  · obtain ⟨a1, a2, a3⟩ := quo_add d4 hn
    have h : GC V C i n := ⟨d1, d2, d3, d4, d5, d6⟩
    rw [a3, if_neg (show ¬ (nI (n + 2), Q3 C n).1 = -1 from nI_ne (by omega)), a2, a1]
    dsimp only
    obtain ⟨-, g1⟩ := h.new (k := 4) (by omega)
    obtain ⟨-, g2⟩ := g1.new (k := 2) (by omega)
    obtain ⟨-, g3⟩ := g2.new (k := 4) (by omega)
    have g4 : GC V (q_M (nI n) (nI (n + 1)) (nI (n + 2)) (Q3 C n)) (i + 1) (n + 3) := by
      unfold q_M
      refine GC.nx ?_ ho
      have hq : kp (Q3 C n) (if hasN (Q3 C n) (nI (n + 1)) = true then nqM (Q3 C n) (nI (n + 1)) else Q3 C n) ∧ dk (Q3 C n) (if hasN (Q3 C n) (nI (n + 1)) = true then nqM (Q3 C n) (nI (n + 1)) else Q3 C n) := by
        split
        · unfold nqM
          exact ⟨((kp.rf _).up ⟨by decide, Or.inl (by decide)⟩).up ⟨by decide, Or.inl (by decide)⟩, ((dk.rf _).up ⟨by decide, Or.inl (by decide)⟩).up ⟨by decide, Or.inl (by decide)⟩⟩
        · exact ⟨kp.rf _, dk.rf _⟩
      have g3' : GC V (Q3 C n) i (n + 3) := g3
      exact ((g3'.kp hq.1 hq.2).kp (kp_set (c := 7) (by decide) _ _ _) (dk_set (c := 7) (by decide) _ _ _)).kp (kp_set (c := 8) (by decide) _ _ _) (dk_set (c := 8) (by decide) _ _ _)
    unfold q_B
    generalize q_M (nI n) (nI (n + 1)) (nI (n + 2)) (Q3 C n) = C1 at g4 ⊢
    have q := hf C1 (i + 1) (n + 3) g4
    by_cases c : (f C1).1 = -1
    · rw [if_pos c]
      exact Or.inl ⟨rfl, q.bad c⟩
    rw [if_neg c]
    obtain ⟨i', n', g, ho', hn'⟩ := q.ok c
    generalize f C1 = p at g c ⊢
    unfold q_A
    have g5 := g.kp (kp_set (c := 7) (by decide) p.2 (nI (n + 2)) p.1) (dk_set (c := 7) (by decide) p.2 (nI (n + 2)) p.1)
    generalize n_set 7 p.2 (nI (n + 2)) p.1 = C3 at g5 ⊢
    exact PF_lE (a := nI n) (b := nI (n + 2)) ((PF_add (k := 5) g5 ho').mono (by omega)) (nI_ne (by omega))
  · have hz := quo_full d4 d5 hn
    rw [if_pos hz]
    refine Or.inl ⟨rfl, ?_⟩
    have t1 := (d1.of (dk_radd C 4)).of (dk_radd (r_add C 4).2 2)
    have t2 : (r_add (r_add C 4).2 2).2 11 3 = nI i := by rw [add_3, add_3]; exact d2
    generalize (r_add (r_add C 4).2 2).2 = X at t1 t2 hz ⊢
    exact add_fl t1 t2 d3 hz
theorem FL_all (V : aM) : ∀ j, FL V (rdD j)
  | 0 => fun C i n h => by
    have hat := fun k (hk : tkS C = k) a b => h.tok hk a b
    unfold rdD
    by_cases c1 : tkS C = 1
    · rw [if_pos c1]; exact PF_num h (hat 1 c1 (by decide) (by decide))
    rw [if_neg c1]
    by_cases c2 : tkS C = 2
    · rw [if_pos c2]; exact PF_name h (hat 2 c2 (by decide) (by decide))
    rw [if_neg c2]
    by_cases c3 : tkS C = 3
    · rw [if_pos c3]; exact PF_str h (hat 3 c3 (by decide) (by decide))
    rw [if_neg c3]
    exact Or.inl ⟨rfl, flt_ne h.1 h.2.1 h.2.2.1⟩
  | j + 1 => fun C i n h => by
    have ih := FL_all V j
    have hat := fun k (hk : tkS C = k) a b => h.tok hk a b
    unfold rdD
    by_cases c1 : tkS C = 1
    · rw [if_pos c1]; exact PF_num h (hat 1 c1 (by decide) (by decide))
    rw [if_neg c1]
    by_cases c2 : tkS C = 2
    · rw [if_pos c2]; exact PF_name h (hat 2 c2 (by decide) (by decide))
    rw [if_neg c2]
    by_cases c3 : tkS C = 3
    · rw [if_pos c3]; exact PF_str h (hat 3 c3 (by decide) (by decide))
    rw [if_neg c3]
    by_cases c6 : tkS C = 6
    · rw [if_pos c6]; exact PF_lst ih h (hat 6 c6 (by decide) (by decide))
    rw [if_neg c6]
    by_cases c8 : tkS C = 8
    · rw [if_pos c8]; exact PF_quo ih h (hat 8 c8 (by decide) (by decide))
    rw [if_neg c8]
    exact Or.inl ⟨rfl, flt_ne h.1 h.2.1 h.2.2.1⟩
theorem addD_c (M : aM) (x : Int32) : (∀ q, ¬ q = 3 → ¬ q = 9 → n_addD M x q = M q) ∧ n_addD M x 3 5 = M 3 5 := by
  unfold n_addD
  split
  · exact ⟨fun _ _ _ => rfl, rfl⟩
  split
  · exact ⟨fun q a b => by rw [am_up_ne a, am_up_ne b], by rw [am_up_ap, if_pos rfl, if_neg (by decide), am_up_ne (by decide)]⟩
  · exact ⟨fun _ _ _ => rfl, rfl⟩
theorem rdL_4 {V : aM} : ∀ (r : Nat) (C : aM) (i n : Nat), GC V C i n → 201 ≤ n + r → (rdF r C = true ∧ ¬ rdL r C 11 4 = -1) ∨ (rdF r C = false ∧ rdL r C 11 4 = -1)
  | 0, C, i, n, h, hr => by
    have := h.2.2.2.2.1
    omega
  | r + 1, C, i, n, h, hr => by
    rw [rdF, rdL]
    by_cases c10 : tkS C = 10
    · rw [if_pos c10, if_pos c10]
      exact Or.inr ⟨rfl, h.2.2.2.2.2⟩
    rw [if_neg c10, if_neg c10]
    have q := FL_all V 15 C i n h
    by_cases c : (rdD 15 C).1 = -1
    · rw [if_pos c, if_pos c]
      refine Or.inl ⟨rfl, ?_⟩
      rw [(clr_c _).1 11 (by decide)]
      exact q.bad c
    rw [if_neg c, if_neg c]
    obtain ⟨i', n', g, ho', hn'⟩ := q.ok c
    generalize (rdD 15 C) = p at g ⊢
    obtain ⟨a1, a2⟩ := addD_c p.2 p.1
    have g2 : GC V (n_addD p.2 p.1) i' n' := by
      obtain ⟨b1, b2, b3, b4, b5, b6⟩ := g
      exact ⟨b1.cells (by rw [a1 1 (by decide) (by decide)]) (a1 2 (by decide) (by decide)) (a1 12 (by decide) (by decide)) (a1 13 (by decide) (by decide)) (a1 14 (by decide) (by decide)) (a1 15 (by decide) (by decide)), by rw [a1 11 (by decide) (by decide)]; exact b2, b3, by rw [a2]; exact b4, b5, by rw [a1 11 (by decide) (by decide)]; exact b6⟩
    exact rdL_4 r _ (i' + 1) n' (g2.nx ho') (by omega)
/-- the desk's answer to read -/
theorem rd_ans {M : aM} (h : tx_ok M) {r : Int32} (hr : (rdF 401 (rd0 M) = true ∧ r = -1) ∨ (rdF 401 (rd0 M) = false ∧ r = rdT M 3 7)) : (if rdT M 11 4 = -1 then rdT M 3 7 else -1) = r := by
  obtain ⟨r1, r3, r113, r114⟩ := rd0_c M
  have q := rdL_4 (V := clrM M) 401 (rd0 M) 0 0 ⟨rd0_TT h, r113, fun k hk => absurd hk (by omega), by rw [r3]; exact (clr_c M).2.1, by omega, r114⟩ (by omega)
  have e : rdL 401 (rd0 M) = rdT M := rfl
  rw [e] at q
  rcases q with ⟨q1, q2⟩ | ⟨q1, q2⟩
  · rw [if_neg q2]
    rcases hr with ⟨-, z⟩ | ⟨z, -⟩
    · exact z.symm
    · rw [q1] at z; cases z
  · rw [if_pos q2]
    rcases hr with ⟨z, -⟩ | ⟨-, z⟩
    · rw [q1] at z; cases z
    · exact z.symm
end
section
/-! HOW DEEP HEADS GO in what is read -/
def fw (n : Nat) (C D : aM) : Prop := ∀ x, x < n → D 4 x = C 4 x ∧ D 7 x = C 7 x ∧ D 8 x = C 8 x ∧ D 5 x = C 5 x
theorem fw.rf (n : Nat) (C : aM) : fw n C C := fun _ _ => ⟨rfl, rfl, rfl, rfl⟩
theorem fw.tr {n : Nat} {C D E : aM} (h1 : fw n C D) (h2 : fw n D E) : fw n C E := fun x hx => ⟨(h2 x hx).1.trans (h1 x hx).1, (h2 x hx).2.1.trans (h1 x hx).2.1, (h2 x hx).2.2.1.trans (h1 x hx).2.2.1, (h2 x hx).2.2.2.trans (h1 x hx).2.2.2⟩
def kq (C D : aM) : Prop := D 4 = C 4 ∧ D 7 = C 7 ∧ D 8 = C 8
theorem kq.rf (C : aM) : kq C C := ⟨rfl, rfl, rfl⟩
theorem kq.tr {C D E : aM} (h1 : kq C D) (h2 : kq D E) : kq C E := ⟨h2.1.trans h1.1, h2.2.1.trans h1.2.1, h2.2.2.trans h1.2.2⟩
theorem kq.up {C D : aM} (h : kq C D) {c j : Nat} {x : Int32} (hc : ¬ c = 4 ∧ ¬ c = 7 ∧ ¬ c = 8) : kq C (am_up D c j x) := ⟨by rw [am_up_ne (by omega)]; exact h.1, by rw [am_up_ne (by omega)]; exact h.2.1, by rw [am_up_ne (by omega)]; exact h.2.2⟩
theorem kq_set {c : Nat} (hc : ¬ c = 4 ∧ ¬ c = 7 ∧ ¬ c = 8) (M : aM) (x v : Int32) : kq M (n_set c M x v) := by
  unfold n_set
  split
  · exact (kq.rf M).up hc
  · exact kq.rf M
theorem kq_ltr (M : aM) (x b : Int32) : kq M (n_ltr M x b) := by
  unfold n_ltr
  split
  · split
    · exact kq.rf M
    split
    · exact (((kq.rf M).up (by decide)).up (by decide)).up (by decide)
    · exact kq.rf M
  · exact kq.rf M
theorem kq_nmL (nd e : Int32) : ∀ (k : Nat) (i : Int32) (M : aM), kq M (nmL nd e k i M)
  | 0, _, M => kq.rf M
  | k + 1, i, M => by
    unfold nmL
    split
    · exact (kq_ltr _ _ _).tr (kq_nmL nd e k _ _)
    · exact kq.rf M
theorem kq_stL (nd e : Int32) : ∀ (k : Nat) (i : Int32) (M : aM), kq M (stL nd e k i M)
  | 0, _, M => kq.rf M
  | k + 1, i, M => by
    unfold stL
    split
    · split
      · exact (kq_ltr _ _ _).tr (kq_stL nd e k _ _)
      · exact (kq_ltr _ _ _).tr (kq_stL nd e k _ _)
    · exact kq.rf M
theorem kq_nx (M : aM) : kq M (r_nx M) := (kq.rf M).up (by decide)
theorem nx_5 (M : aM) : r_nx M 5 = M 5 := am_up_ne (by decide)
/-- amounts of other nodes stay -/
def k5 (y : Nat) (C D : aM) : Prop := ∀ x, ¬ x = y → D 5 x = C 5 x
theorem k5_set (M : aM) (x v : Int32) : k5 (cl x) M (n_set 5 M x v) := fun z hz => by
  unfold n_set
  split
  · rw [am_up_i, if_pos rfl]; simp only [upd]; rw [if_neg hz]
  · rfl
theorem k5_ltr (M : aM) (x b : Int32) : k5 (cl x) M (n_ltr M x b) := fun z hz => by
  unfold n_ltr
  split
  · split
    · rfl
    split
    · rw [am_up_i, if_pos rfl]; simp only [upd]; rw [if_neg hz, am_up_ne (by decide), am_up_ne (by decide)]
    · rfl
  · rfl
theorem k5_nmL (nd e : Int32) : ∀ (k : Nat) (i : Int32) (M : aM), k5 (cl nd) M (nmL nd e k i M)
  | 0, _, M => fun _ _ => rfl
  | k + 1, i, M => by
    unfold nmL
    split
    · exact fun z hz => (k5_nmL nd e k _ _ z hz).trans (k5_ltr _ _ _ z hz)
    · exact fun _ _ => rfl
theorem k5_stL (nd e : Int32) : ∀ (k : Nat) (i : Int32) (M : aM), k5 (cl nd) M (stL nd e k i M)
  | 0, _, M => fun _ _ => rfl
  | k + 1, i, M => by
    unfold stL
    split
    · split
      · exact fun z hz => (k5_stL nd e k _ _ z hz).trans (k5_ltr _ _ _ z hz)
      · exact fun z hz => (k5_stL nd e k _ _ z hz).trans (k5_ltr _ _ _ z hz)
    · exact fun _ _ => rfl
theorem has_n {C : aM} {n l : Nat} (h : C 3 5 = nI n) (hn : n ≤ 200) (hl : l < n) : hasN C (nI l) = true := by
  unfold hasN
  rw [h]
  have a1 : ¬ nI l < 0 := nI_pos (by omega)
  have a2 : nI l < nI n := nI_lt hl (by omega)
  have a3 : nI l < 200 := nI_lt (b := 200) (by omega) (by decide)
  simp [a1, a2, a3]
theorem set_n {C : aM} {n l c : Nat} {v : Int32} (h : C 3 5 = nI n) (hn : n ≤ 200) (hl : l < n) : n_set c C (nI l) v = am_up C c l v := by
  unfold n_set
  rw [if_pos (has_n h hn hl), show cl (nI l) = l from nI_clamp (by omega)]
/-- nodes a .. b - 1 are whole, but for ex; D says how deep each is, at most j -/
def Rk1 (C : aM) (D : Nat → Nat) (a b x : Nat) : Prop := ∃ h t, C 7 x = nI h ∧ C 8 x = nI t ∧ a ≤ h ∧ h < b ∧ a ≤ t ∧ t < b ∧ D h < D x ∧ D t ≤ D x
def RK (C : aM) (D : Nat → Nat) (a b j : Nat) (ex : Nat → Prop) : Prop := ∀ x, a ≤ x → x < b → (D x ≤ j ∧ (C 4 x = 4 → C 5 x = 0)) ∧ (C 4 x = 4 → ¬ ex x → Rk1 C D a b x)
theorem Rk1.of {C C' : aM} {D D' : Nat → Nat} {a a' b b' x : Nat} (h : Rk1 C D a b x) (h7 : C' 7 x = C 7 x) (h8 : C' 8 x = C 8 x) (ha : a' ≤ a) (hb : b ≤ b') (hx : D' x = D x) (hD : ∀ y, a ≤ y → y < b → D' y = D y) : Rk1 C' D' a' b' x := by
  obtain ⟨p, t, e1, e2, e3, e4, e5, e6, e7, e8⟩ := h
  exact ⟨p, t, by rw [h7]; exact e1, by rw [h8]; exact e2, by omega, by omega, by omega, by omega, by rw [hD p e3 e4, hx]; exact e7, by rw [hD t e5 e6, hx]; exact e8⟩
theorem RK.fin {C C' : aM} {D D' : Nat → Nat} {a n n' j l m t : Nat} {ex' : Nat → Prop} (h : RK C D a n j (fun x => x = l)) (hl : a ≤ l ∧ l < n) (h7 : C 7 l = nI m) (hm : a ≤ m ∧ m < n) (hD : D m < D l) (hs : ∀ x, x < n → C' 4 x = C 4 x ∧ C' 7 x = C 7 x ∧ C' 5 x = C 5 x ∧ (¬ x = l → C' 8 x = C 8 x)) (h8 : C' 8 l = nI t) (ht : a ≤ t ∧ t < n') (hnn : n ≤ n') (hDD : ∀ x, x < n → D' x = D x) (hDt : D' t ≤ D l) (hnew : ∀ x, n ≤ x → x < n' → (D' x ≤ j ∧ (C' 4 x = 4 → C' 5 x = 0)) ∧ (C' 4 x = 4 → ¬ ex' x → Rk1 C' D' a n' x)) : RK C' D' a n' j ex' := by
  intro x hx1 hx2
  by_cases c : x < n
  · obtain ⟨q1, q2⟩ := h x hx1 c
    obtain ⟨s4, s7, s5, s8⟩ := hs x c
    refine ⟨⟨by rw [hDD x c]; exact q1.1, by rw [s4, s5]; exact q1.2⟩, fun k4 _ => ?_⟩
    by_cases cl : x = l
    · subst cl
      exact ⟨m, t, by rw [s7]; exact h7, h8, hm.1, by omega, ht.1, ht.2, by rw [hDD m hm.2, hDD x c]; exact hD, by rw [hDD x c]; exact hDt⟩
    · rw [s4] at k4
      exact (q2 k4 cl).of s7 (s8 cl) (Nat.le_refl _) hnn (hDD x c) (fun y _ hy => hDD y hy)
  · exact hnew x (by omega) hx2
def RD (V : aM) (g : aM → Int32 × aM) (j : Nat) : Prop := ∀ (C : aM) (i n : Nat), GC V C i n → ¬ (g C).1 = -1 → ∃ n' m D, (g C).2 3 5 = nI n' ∧ n' ≤ 200 ∧ (g C).1 = nI m ∧ n ≤ m ∧ m < n' ∧ RK (g C).2 D n n' j (fun _ => False) ∧ fw n C (g C).2
/-- a node that is no pair -/
theorem RD_one {V C D' : aM} {i n j : Nat} {k : Int32} (h : GC V C i n) (hk : ¬ k = 4) (hz : ¬ (r_add C k).1 = -1) (hq : kq (r_add C k).2 D') (hp : kp (r_add C k).2 D') (h5' : k5 (cl (r_add C k).1) (r_add C k).2 D') : ∃ n' m D, D' 3 5 = nI n' ∧ n' ≤ 200 ∧ (r_add C k).1 = nI m ∧ n ≤ m ∧ m < n' ∧ RK D' D n n' j (fun _ => False) ∧ fw n C D' := by
  have h5 := h.2.2.2.2.1
  by_cases c : n = 200
  · have ea := (add_200 (k := k) (show C 3 5 = nI 200 by rw [h.2.2.2.1, c])).2
    rw [ea] at hz
    exact absurd rfl hz
  obtain ⟨ea, -⟩ := h.new (k := k) (by omega)
  obtain ⟨c1, c2, c3, c4, c5, c6, c7, c8⟩ := newM_c C n k
  rw [ea] at hq hp h5' ⊢
  dsimp only at hq hp h5' ⊢
  rw [show cl (nI n) = n from nI_clamp (by omega)] at h5'
  refine ⟨n + 1, n, fun _ => 0, by rw [hp.2, c3], by omega, rfl, by omega, by omega, fun x h1 h2 => ?_, fun x hx => ?_⟩
  · have : x = n := by omega
    subst this
    have hne : ¬ D' 4 x = 4 := by rw [hq.1, c4, upd_eq]; exact hk
    exact ⟨⟨Nat.zero_le _, fun z => absurd z hne⟩, fun z => absurd z hne⟩
  · rw [hq.1, hq.2.1, hq.2.2, h5' x (by omega), c4, c5, c7, c8, upd_lt _ _ hx, upd_lt _ _ hx, upd_lt _ _ hx, upd_lt _ _ hx]
    exact ⟨rfl, rfl, rfl, rfl⟩
theorem RD_ll {V : aM} {f : aM → Int32 × aM} {j : Nat} (hf : FL V f) (hr : RD V f j) {first : Nat} (hf1 : first < 200) {n0 : Nat} : ∀ (r : Nat) (C : aM) (i n l : Nat) (D : Nat → Nat), GC V C i n → n0 ≤ l → l < n → C 4 l = 4 → D l = j + 1 → RK C D n0 n (j + 1) (fun x => x = l) → 201 ≤ n + r → ¬ (r_ll f (nI first) r (nI l) C).1 = -1 → ∃ n' D', (r_ll f (nI first) r (nI l) C).1 = nI first ∧ (r_ll f (nI first) r (nI l) C).2 3 5 = nI n' ∧ n < n' ∧ n' ≤ 200 ∧ RK (r_ll f (nI first) r (nI l) C).2 D' n0 n' (j + 1) (fun _ => False) ∧ fw n0 C (r_ll f (nI first) r (nI l) C).2 := by
  intro r
  induction r with
  | zero =>
    intro C i n l D h h0l hln h4 hDl hR hnr hz
    have := h.2.2.2.2.1
    omega
  | succ r ih =>
    intro C i n l D h h0l hln h4 hDl hR hnr hz
    have h5 := h.2.2.2.2.1
    rw [r_ll, if_neg (nI_ne (by omega))] at hz ⊢
    by_cases c : (f C).1 = -1
    · rw [if_pos c] at hz
      exact absurd rfl hz
    rw [if_neg c] at hz ⊢
    obtain ⟨i', n2', g, ho', hn'⟩ := (hf C i n h).ok c
    obtain ⟨n2, m, D2, e35, en2, em, hm1, hm2, R2, f2⟩ := hr C i n h c
    have hnn : n2' = n2 := (nI_eq (by have := g.2.2.2.2.1; omega) (by omega)).mp (by rw [← g.2.2.2.1, e35])
    subst hnn
    have eH : r_hd f (nI l) C = r_nx (am_up (f C).2 7 l (nI m)) := by
      unfold r_hd
      rw [em, set_n e35 en2 (by omega)]
    rw [eH] at hz ⊢
    have g2 : GC V (r_nx (am_up (f C).2 7 l (nI m))) (i' + 1) n2' := (g.kp ((kp.rf _).up ⟨by decide, Or.inl (by decide)⟩) ((dk.rf _).up ⟨by decide, Or.inl (by decide)⟩)).nx ho'
    clear eH
    generalize (f C).2 = C2 at hz g g2 e35 R2 f2 ⊢
    have k3 := kq_nx (am_up C2 7 l (nI m))
    have p4 : am_up C2 7 l (nI m) 4 = C2 4 := am_up_ne (by decide)
    have p8 : am_up C2 7 l (nI m) 8 = C2 8 := am_up_ne (by decide)
    have p7 : am_up C2 7 l (nI m) 7 = upd (C2 7) l (nI m) := by rw [am_up_i, if_pos rfl]
    rw [kq, p4, p7, p8] at k3
    obtain ⟨k34, k37, k38⟩ := k3
    have k35 : r_nx (am_up C2 7 l (nI m)) 5 = C2 5 := by rw [nx_5, am_up_ne (by decide)]
    generalize r_nx (am_up C2 7 l (nI m)) = C3 at hz g2 k34 k37 k38 k35 ⊢
    -- the nodes as they stand now, last's tail pending
    have D3n : ∀ x, x < n → (fun x => if x < n then D x else D2 x) x = D x := fun x hx => by
      show (if x < n then D x else D2 x) = D x
      rw [if_pos hx]
    have D3o : ∀ x, n ≤ x → (fun x => if x < n then D x else D2 x) x = D2 x := fun x hx => by
      show (if x < n then D x else D2 x) = D2 x
      rw [if_neg (by omega)]
    generalize (fun x => if x < n then D x else D2 x) = D3 at D3n D3o
    have R3 : RK C3 D3 n0 n2' (j + 1) (fun x => x = l) := by
      intro x hx1 hx2
      by_cases cx : x < n
      · obtain ⟨q1, q2⟩ := hR x hx1 cx
        obtain ⟨s4, s7, s8, s5⟩ := f2 x cx
        refine ⟨⟨by rw [D3n x cx]; exact q1.1, by rw [k34, k35, s4, s5]; exact q1.2⟩, fun z1 z2 => ?_⟩
        rw [k34, s4] at z1
        refine (q2 z1 z2).of ?_ ?_ (Nat.le_refl _) (by omega) (D3n x cx) (fun y _ hy => D3n y hy)
        · rw [k37]; simp only [upd]; rw [if_neg z2]; exact s7
        · rw [k38]; exact s8
      · obtain ⟨q1, q2⟩ := R2 x (by omega) hx2
        refine ⟨⟨by rw [D3o x (by omega)]; have := q1.1; omega, by rw [k34, k35]; exact q1.2⟩, fun z1 z2 => ?_⟩
        rw [k34] at z1
        refine (q2 z1 (fun q => q)).of ?_ ?_ (by omega) (Nat.le_refl _) (D3o x (by omega)) (fun y hy _ => D3o y hy)
        · rw [k37]; simp only [upd]; rw [if_neg z2]
        · rw [k38]
    have l7 : C3 7 l = nI m := by rw [k37, upd_eq]
    have l4 : C3 4 l = 4 := by rw [k34, (f2 l hln).1]; exact h4
    have Dm : D3 m < D3 l := by
      rw [D3o m hm1, D3n l hln, hDl]
      have := (R2 m hm1 hm2).1.1
      omega
    have Dl : D3 l = j + 1 := by rw [D3n l hln, hDl]
    have fw3 : fw n0 C C3 := fun x hx => by
      obtain ⟨s4, s7, s8, s5⟩ := f2 x (by omega)
      refine ⟨by rw [k34]; exact s4, ?_, by rw [k38]; exact s8, by rw [k35]; exact s5⟩
      rw [k37]
      simp only [upd]
      rw [if_neg (by omega)]
      exact s7
    by_cases c7 : tkS C3 = 7
    · rw [if_pos c7] at hz ⊢
      by_cases c200 : n2' = 200
      · have ea := (add_200 (k := 5) (show C3 3 5 = nI 200 by rw [g2.2.2.2.1, c200])).2
        rw [ea] at hz
        exact absurd rfl hz
      obtain ⟨ea, g3⟩ := g2.new (k := 5) (by omega)
      obtain ⟨w1, w2, w3, w4, w5, w6, w7, w8⟩ := newM_c C3 n2' 5
      rw [ea] at hz ⊢
      have eE : r_lE (nI n2', n_newM C3 n2' 5) (nI first) (nI l) = (nI first, am_up (n_newM C3 n2' 5) 8 l (nI n2')) := by
        unfold r_lE
        dsimp only
        rw [if_neg (nI_ne (by omega)), set_n w3 (by omega) (by omega)]
      rw [eE]
      dsimp only
      have v4 : am_up (n_newM C3 n2' 5) 8 l (nI n2') 4 = upd (C3 4) n2' 5 := by rw [am_up_ne (by decide), w4]
      have v7 : am_up (n_newM C3 n2' 5) 8 l (nI n2') 7 = upd (C3 7) n2' (-1) := by rw [am_up_ne (by decide), w7]
      have v8 : am_up (n_newM C3 n2' 5) 8 l (nI n2') 8 = upd (upd (C3 8) n2' (-1)) l (nI n2') := by rw [am_up_i, if_pos rfl, w8]
      have v35 : am_up (n_newM C3 n2' 5) 8 l (nI n2') 3 5 = nI (n2' + 1) := by rw [am_up_ne (by decide), w3]
      have v5 : am_up (n_newM C3 n2' 5) 8 l (nI n2') 5 = upd (C3 5) n2' 0 := by rw [am_up_ne (by decide), w5]
      generalize am_up (n_newM C3 n2' 5) 8 l (nI n2') = E at v4 v5 v7 v8 v35 ⊢
      refine ⟨n2' + 1, fun x => if x < n2' then D3 x else 0, by trivial, v35, by omega, by omega, ?_, ?_⟩
      · refine R3.fin (m := m) (t := n2') ⟨h0l, by omega⟩ l7 ⟨by omega, hm2⟩ Dm (fun x hx => ⟨by rw [v4, upd_lt _ _ hx], by rw [v7, upd_lt _ _ hx], by rw [v5, upd_lt _ _ hx], fun z => ?_⟩) (by rw [v8, upd_eq]) ⟨by omega, by omega⟩ (by omega) (fun x hx => if_pos hx) (by rw [if_neg (by omega)]; omega) (fun x h1 h2 => ?_)
        · rw [v8]; simp only [upd]; rw [if_neg z, if_neg (by omega)]
        · have : x = n2' := by omega
          subst this
          have hne : ¬ E 4 x = 4 := by rw [v4, upd_eq]; decide
          exact ⟨⟨by rw [if_neg (by omega)]; omega, fun z => absurd z hne⟩, fun z => absurd z hne⟩
      · refine fw3.tr (fun x hx => ⟨by rw [v4, upd_lt _ _ (by omega)], by rw [v7, upd_lt _ _ (by omega)], ?_, by rw [v5, upd_lt _ _ (by omega)]⟩)
        rw [v8]
        simp only [upd]
        rw [if_neg (by omega), if_neg (by omega)]
    rw [if_neg c7] at hz ⊢
    by_cases c9 : tkS C3 = 9
    · rw [if_pos c9] at hz ⊢
      have ho2 := g2.tok c9 (by decide) (by decide)
      have g3 := g2.nx ho2
      have eDot : r_dot f C3 = if (f (r_nx C3)).1 = -1 then (-1, (f (r_nx C3)).2) else if tkS (r_nx (f (r_nx C3)).2) = 7 then ((f (r_nx C3)).1, r_nx (f (r_nx C3)).2) else (-1, r_fltM (r_nx (f (r_nx C3)).2)) := by rfl
      rw [eDot] at hz ⊢
      clear eDot
      have kn := kq_nx C3
      have kn5' := nx_5 C3
      generalize r_nx C3 = C4 at hz g3 kn kn5' ⊢
      by_cases c1 : (f C4).1 = -1
      · rw [if_pos c1] at hz
        exact absurd rfl hz
      rw [if_neg c1] at hz ⊢
      by_cases c8 : tkS (r_nx (f C4).2) = 7
      case neg =>
        rw [if_neg c8] at hz
        exact absurd rfl hz
      rw [if_pos c8] at hz ⊢
      obtain ⟨n3, m2, Dd, y35, yn, ym, hy1, hy2, RR, ff⟩ := hr C4 (i' + 1 + 1) n2' g3 c1
      rw [ym] at hz ⊢
      have kn5 := kq_nx (f C4).2
      have kn55 := nx_5 (f C4).2
      have kp5 : r_nx (f C4).2 3 5 = nI n3 := by unfold r_nx; rw [am_up_ne (by decide)]; exact y35
      generalize (f C4).2 = C5' at hz RR ff kn5 kn55 kp5 ⊢
      generalize r_nx C5' = C5 at hz kn5 kn55 kp5 ⊢
      have eE : r_lE (nI m2, C5) (nI first) (nI l) = (nI first, am_up C5 8 l (nI m2)) := by
        unfold r_lE
        dsimp only
        rw [if_neg (nI_ne (by omega)), set_n kp5 (by omega) (by omega)]
      rw [eE]
      dsimp only
      have v4 : am_up C5 8 l (nI m2) 4 = C5' 4 := by rw [am_up_ne (by decide), kn5.1]
      have v7 : am_up C5 8 l (nI m2) 7 = C5' 7 := by rw [am_up_ne (by decide), kn5.2.1]
      have v8 : am_up C5 8 l (nI m2) 8 = upd (C5' 8) l (nI m2) := by rw [am_up_i, if_pos rfl, kn5.2.2]
      have v35 : am_up C5 8 l (nI m2) 3 5 = nI n3 := by rw [am_up_ne (by decide)]; exact kp5
      have v5 : am_up C5 8 l (nI m2) 5 = C5' 5 := by rw [am_up_ne (by decide), kn55]
      generalize am_up C5 8 l (nI m2) = E at v4 v5 v7 v8 v35 ⊢
      have hs : ∀ x, x < n2' → C5' 4 x = C3 4 x ∧ C5' 7 x = C3 7 x ∧ C5' 8 x = C3 8 x ∧ C5' 5 x = C3 5 x := fun x hx => by
        obtain ⟨s1, s2, s3, s5⟩ := ff x hx
        rw [kn5'] at s5
        rw [kn.1] at s1
        rw [kn.2.1] at s2
        rw [kn.2.2] at s3
        exact ⟨s1, s2, s3, s5⟩
      refine ⟨n3, fun x => if x < n2' then D3 x else Dd x, by trivial, v35, by omega, yn, ?_, ?_⟩
      · have hDm := (RR m2 hy1 hy2).1.1
        refine R3.fin (m := m) (t := m2) ⟨h0l, by omega⟩ l7 ⟨by omega, hm2⟩ Dm (fun x hx => ⟨by rw [v4]; exact (hs x hx).1, by rw [v7]; exact (hs x hx).2.1, by rw [v5]; exact (hs x hx).2.2.2, fun z => ?_⟩) (by rw [v8, upd_eq]) ⟨by omega, hy2⟩ (by omega) (fun x hx => if_pos hx) (by rw [if_neg (by omega)]; omega) (fun x h1 h2 => ?_)
        · rw [v8]; simp only [upd]; rw [if_neg z]; exact (hs x hx).2.2.1
        · obtain ⟨q1, q2⟩ := RR x h1 h2
          refine ⟨⟨by rw [if_neg (by omega)]; have := q1.1; omega, by rw [v4, v5]; exact q1.2⟩, fun z1 _ => ?_⟩
          rw [v4] at z1
          refine (q2 z1 (fun q => q)).of (by rw [v7]) ?_ (by omega) (Nat.le_refl _) (if_neg (by omega)) (fun y hy _ => if_neg (by omega))
          rw [v8]
          simp only [upd]
          rw [if_neg (by omega)]
      · refine fw3.tr (fun x hx => ⟨by rw [v4]; exact (hs x (by omega)).1, by rw [v7]; exact (hs x (by omega)).2.1, ?_, by rw [v5]; exact (hs x (by omega)).2.2.2⟩)
        rw [v8]
        simp only [upd]
        rw [if_neg (by omega)]
        exact (hs x (by omega)).2.2.1
    rw [if_neg c9] at hz ⊢
    by_cases c200 : n2' = 200
    · have ea := (add_200 (k := 4) (show C3 3 5 = nI 200 by rw [g2.2.2.2.1, c200])).2
      rw [ea] at hz
      exact absurd (ll_m1 _ _ _ _) hz
    obtain ⟨ea, g3⟩ := g2.new (k := 4) (by omega)
    obtain ⟨w1, w2, w3, w4, w5, w6, w7, w8⟩ := newM_c C3 n2' 4
    rw [ea] at hz ⊢
    dsimp only at hz ⊢
    rw [set_n w3 (by omega) (by omega)] at hz ⊢
    have v4 : am_up (n_newM C3 n2' 4) 8 l (nI n2') 4 = upd (C3 4) n2' 4 := by rw [am_up_ne (by decide), w4]
    have v7 : am_up (n_newM C3 n2' 4) 8 l (nI n2') 7 = upd (C3 7) n2' (-1) := by rw [am_up_ne (by decide), w7]
    have v8 : am_up (n_newM C3 n2' 4) 8 l (nI n2') 8 = upd (upd (C3 8) n2' (-1)) l (nI n2') := by rw [am_up_i, if_pos rfl, w8]
    have v5 : am_up (n_newM C3 n2' 4) 8 l (nI n2') 5 = upd (C3 5) n2' 0 := by rw [am_up_ne (by decide), w5]
    have g4 : GC V (am_up (n_newM C3 n2' 4) 8 l (nI n2')) (i' + 1) (n2' + 1) := g3.kp ((kp.rf _).up ⟨by decide, Or.inl (by decide)⟩) ((dk.rf _).up ⟨by decide, Or.inl (by decide)⟩)
    generalize am_up (n_newM C3 n2' 4) 8 l (nI n2') = E at v4 v5 v7 v8 g4 hz ⊢
    have fwE : fw n0 C3 E := fun x hx => by
      refine ⟨by rw [v4, upd_lt _ _ (by omega)], by rw [v7, upd_lt _ _ (by omega)], ?_, by rw [v5, upd_lt _ _ (by omega)]⟩
      rw [v8]
      simp only [upd]
      rw [if_neg (by omega), if_neg (by omega)]
    have hR4 : RK E (fun x => if x < n2' then D3 x else j + 1) n0 (n2' + 1) (j + 1) (fun x => x = n2') := by
      refine R3.fin (m := m) (t := n2') ⟨h0l, by omega⟩ l7 ⟨by omega, hm2⟩ Dm (fun x hx => ⟨by rw [v4, upd_lt _ _ hx], by rw [v7, upd_lt _ _ hx], by rw [v5, upd_lt _ _ hx], fun z => ?_⟩) (by rw [v8, upd_eq]) ⟨by omega, by omega⟩ (by omega) (fun x hx => if_pos hx) (by rw [if_neg (by omega), Dl]; omega) (fun x h1 h2 => ?_)
      · rw [v8]; simp only [upd]; rw [if_neg z, if_neg (by omega)]
      · have hx : x = n2' := by omega
        exact ⟨⟨by rw [if_neg (by omega)]; omega, fun _ => by rw [hx, v5, upd_eq]⟩, fun _ z => absurd hx z⟩
    obtain ⟨n', D', o1, o2, o3, o4, o5, o6⟩ := ih E (i' + 1) (n2' + 1) n2' (fun x => if x < n2' then D3 x else j + 1) g4 (by omega) (by omega) (by rw [v4, upd_eq]) (if_neg (by omega)) hR4 (by omega) hz
    exact ⟨n', D', o1, o2, by omega, o4, o5, (fw3.tr fwE).tr o6⟩
end
section
/-! HOW DEEP HEADS GO: lists, quotes, every datum, a whole text -/
theorem RD_lst {V : aM} {f : aM → Int32 × aM} {j : Nat} (hf : FL V f) (hr : RD V f j) {C : aM} {i n : Nat} (h : GC V C i n) (ho : okT V (i + 1)) (hz : ¬ (r_lst f C).1 = -1) : ∃ n' m D, (r_lst f C).2 3 5 = nI n' ∧ n' ≤ 200 ∧ (r_lst f C).1 = nI m ∧ n ≤ m ∧ m < n' ∧ RK (r_lst f C).2 D n n' (j + 1) (fun _ => False) ∧ fw n C (r_lst f C).2 := by
  have h5 := h.2.2.2.2.1
  unfold r_lst at hz ⊢
  by_cases c7 : tk C 13 11 (C 11 3 + 1) = 7
  · rw [if_pos c7] at hz ⊢
    obtain ⟨n', m, D, a1, a2, a3, a4, a5, a6, a7⟩ := RD_one (j := j + 1) (h.nx ho) (k := 5) (by decide) hz (kq.rf _) (kp.rf _) (fun _ _ => rfl)
    refine ⟨n', m, D, a1, a2, a3, a4, a5, a6, fw.tr (fun x _ => ?_) a7⟩
    obtain ⟨z1, z2, z3⟩ := kq_nx C
    rw [z1, z2, z3, nx_5]
    exact ⟨rfl, rfl, rfl, rfl⟩
  rw [if_neg c7] at hz ⊢
  by_cases c200 : n = 200
  · have ea := (add_200 (k := 4) (show C 3 5 = nI 200 by rw [h.2.2.2.1, c200])).2
    rw [ea] at hz
    exact absurd (ll_m1 _ _ _ _) hz
  obtain ⟨ea, g⟩ := h.new (k := 4) (by omega)
  rw [ea] at hz ⊢
  dsimp only at hz ⊢
  obtain ⟨w1, w2, w3, w4, w5, w6, w7, w8⟩ := newM_c C n 4
  have g2 := g.nx ho
  have kn := kq_nx (n_newM C n 4)
  have kn5 := nx_5 (n_newM C n 4)
  generalize r_nx (n_newM C n 4) = C1 at hz g2 kn kn5 ⊢
  obtain ⟨n', D', o1, o2, o3, o4, o5, o6⟩ := RD_ll hf hr (first := n) (by omega) (n0 := n) 200 C1 (i + 1) (n + 1) n (fun _ => j + 1) g2 (Nat.le_refl _) (by omega) (by rw [kn.1, w4, upd_eq]) rfl (fun x h1 h2 => ⟨⟨Nat.le_refl _, fun _ => by rw [show x = n by omega, kn5, w5, upd_eq]⟩, fun _ z => absurd (show x = n by omega) z⟩) (by omega) hz
  refine ⟨n', n, D', o2, o4, o1, Nat.le_refl _, by omega, o5, fw.tr (fun x hx => ?_) o6⟩
  rw [kn.1, kn.2.1, kn.2.2, kn5, w4, w5, w7, w8, upd_lt _ _ hx, upd_lt _ _ hx, upd_lt _ _ hx, upd_lt _ _ hx]
  exact ⟨rfl, rfl, rfl, rfl⟩
theorem RD_quo {V : aM} {f : aM → Int32 × aM} {j : Nat} (hf : FL V f) (hr : RD V f j) {C : aM} {i n : Nat} (h : GC V C i n) (ho : okT V (i + 1)) (hz : ¬ (r_quo f C).1 = -1) : ∃ n' m D, (r_quo f C).2 3 5 = nI n' ∧ n' ≤ 200 ∧ (r_quo f C).1 = nI m ∧ n ≤ m ∧ m < n' ∧ RK (r_quo f C).2 D n n' (j + 1) (fun _ => False) ∧ fw n C (r_quo f C).2 := by
  have h5 := h.2.2.2.2.1
  have d4 := h.2.2.2.1
  unfold r_quo at hz ⊢
  by_cases hn : n + 3 ≤ 200
  case neg =>
    rw [if_pos (quo_full d4 h5 hn)] at hz
    exact absurd rfl hz
  obtain ⟨a1, a2, a3⟩ := quo_add d4 hn
  rw [a3, if_neg (show ¬ (nI (n + 2), Q3 C n).1 = -1 from nI_ne (by omega)), a2, a1] at hz ⊢
  dsimp only at hz ⊢
  obtain ⟨-, g1⟩ := h.new (k := 4) (by omega)
  obtain ⟨-, g2⟩ := g1.new (k := 2) (by omega)
  obtain ⟨-, g3⟩ := g2.new (k := 4) (by omega)
  have g3' : GC V (Q3 C n) i (n + 3) := g3
  have q4 : Q3 C n 4 = upd (upd (upd (C 4) n 4) (n + 1) 2) (n + 2) 4 := by
    unfold Q3
    rw [(newM_c _ _ _).2.2.2.1, (newM_c _ _ _).2.2.2.1, (newM_c _ _ _).2.2.2.1]
  have q7 : Q3 C n 7 = upd (upd (upd (C 7) n (-1)) (n + 1) (-1)) (n + 2) (-1) := by
    unfold Q3
    rw [(newM_c _ _ _).2.2.2.2.2.2.1, (newM_c _ _ _).2.2.2.2.2.2.1, (newM_c _ _ _).2.2.2.2.2.2.1]
  have q8 : Q3 C n 8 = upd (upd (upd (C 8) n (-1)) (n + 1) (-1)) (n + 2) (-1) := by
    unfold Q3
    rw [(newM_c _ _ _).2.2.2.2.2.2.2, (newM_c _ _ _).2.2.2.2.2.2.2, (newM_c _ _ _).2.2.2.2.2.2.2]
  have q5 : Q3 C n 5 = upd (upd (upd (C 5) n 0) (n + 1) 0) (n + 2) 0 := by
    unfold Q3
    rw [(newM_c _ _ _).2.2.2.2.1, (newM_c _ _ _).2.2.2.2.1, (newM_c _ _ _).2.2.2.2.1]
  generalize Q3 C n = Q at hz g3' q4 q5 q7 q8 ⊢
  have q35 := g3'.2.2.2.1
  have eM : q_M (nI n) (nI (n + 1)) (nI (n + 2)) Q = r_nx (am_up (am_up (am_up (am_up Q 6 (n + 1) 0) 5 (n + 1) 5) 7 n (nI (n + 1))) 8 n (nI (n + 2))) := by
    have s1 : am_up (am_up Q 6 (n + 1) 0) 5 (n + 1) 5 3 5 = nI (n + 3) := by rw [am_up_ne (by decide), am_up_ne (by decide)]; exact q35
    have s2 : n_set 7 (am_up (am_up Q 6 (n + 1) 0) 5 (n + 1) 5) (nI n) (nI (n + 1)) = am_up (am_up (am_up Q 6 (n + 1) 0) 5 (n + 1) 5) 7 n (nI (n + 1)) := set_n s1 (by omega) (by omega)
    have s3 : am_up (am_up (am_up Q 6 (n + 1) 0) 5 (n + 1) 5) 7 n (nI (n + 1)) 3 5 = nI (n + 3) := by rw [am_up_ne (by decide)]; exact s1
    unfold q_M nqM
    rw [if_pos (has_n q35 (by omega) (by omega)), show cl (nI (n + 1)) = n + 1 from nI_clamp (by omega), s2, set_n s3 (by omega) (by omega)]
  unfold q_B at hz ⊢
  rw [eM] at hz ⊢
  have g4 : GC V (r_nx (am_up (am_up (am_up (am_up Q 6 (n + 1) 0) 5 (n + 1) 5) 7 n (nI (n + 1))) 8 n (nI (n + 2)))) (i + 1) (n + 3) := (g3'.kp (((((kp.rf _).up ⟨by decide, Or.inl (by decide)⟩).up ⟨by decide, Or.inl (by decide)⟩).up ⟨by decide, Or.inl (by decide)⟩).up ⟨by decide, Or.inl (by decide)⟩) (((((dk.rf _).up ⟨by decide, Or.inl (by decide)⟩).up ⟨by decide, Or.inl (by decide)⟩).up ⟨by decide, Or.inl (by decide)⟩).up ⟨by decide, Or.inl (by decide)⟩)).nx ho
  have kn := kq_nx (am_up (am_up (am_up (am_up Q 6 (n + 1) 0) 5 (n + 1) 5) 7 n (nI (n + 1))) 8 n (nI (n + 2)))
  have u4 : am_up (am_up (am_up (am_up Q 6 (n + 1) 0) 5 (n + 1) 5) 7 n (nI (n + 1))) 8 n (nI (n + 2)) 4 = Q 4 := by rw [am_up_ne (by decide), am_up_ne (by decide), am_up_ne (by decide), am_up_ne (by decide)]
  have u7 : am_up (am_up (am_up (am_up Q 6 (n + 1) 0) 5 (n + 1) 5) 7 n (nI (n + 1))) 8 n (nI (n + 2)) 7 = upd (Q 7) n (nI (n + 1)) := by rw [am_up_ne (by decide), am_up_i, if_pos rfl, am_up_ne (by decide), am_up_ne (by decide)]
  have u8 : am_up (am_up (am_up (am_up Q 6 (n + 1) 0) 5 (n + 1) 5) 7 n (nI (n + 1))) 8 n (nI (n + 2)) 8 = upd (Q 8) n (nI (n + 2)) := by rw [am_up_i, if_pos rfl, am_up_ne (by decide), am_up_ne (by decide), am_up_ne (by decide)]
  have u5 : am_up (am_up (am_up (am_up Q 6 (n + 1) 0) 5 (n + 1) 5) 7 n (nI (n + 1))) 8 n (nI (n + 2)) 5 = upd (Q 5) (n + 1) 5 := by rw [am_up_ne (by decide), am_up_ne (by decide), am_up_i, if_pos rfl, am_up_ne (by decide)]
  have kn5 := nx_5 (am_up (am_up (am_up (am_up Q 6 (n + 1) 0) 5 (n + 1) 5) 7 n (nI (n + 1))) 8 n (nI (n + 2)))
  rw [kq, u4, u7, u8] at kn
  rw [u5] at kn5
  generalize r_nx (am_up (am_up (am_up (am_up Q 6 (n + 1) 0) 5 (n + 1) 5) 7 n (nI (n + 1))) 8 n (nI (n + 2))) = C1 at hz g4 kn kn5 ⊢
  obtain ⟨kn4, kn7, kn8⟩ := kn
  by_cases c : (f C1).1 = -1
  · rw [if_pos c] at hz
    exact absurd rfl hz
  rw [if_neg c] at hz ⊢
  obtain ⟨n1, m, D2, e35, en1, em, hm1, hm2, R2, f2⟩ := hr C1 (i + 1) (n + 3) g4 c
  rw [em] at hz ⊢
  generalize (f C1).2 = C2 at hz e35 R2 f2 ⊢
  unfold q_A at hz ⊢
  rw [set_n e35 en1 (by omega)] at hz ⊢
  have e35' : am_up C2 7 (n + 2) (nI m) 3 5 = nI n1 := by rw [am_up_ne (by decide)]; exact e35
  by_cases c200 : n1 = 200
  · have ea := (add_200 (k := 5) (show am_up C2 7 (n + 2) (nI m) 3 5 = nI 200 by rw [e35', c200])).2
    rw [ea] at hz
    exact absurd rfl hz
  have ea := (add_lt (k := 5) e35' (by omega)).2
  rw [ea] at hz ⊢
  dsimp only at hz ⊢
  obtain ⟨w1, w2, w3, w4, w5, w6, w7, w8⟩ := newM_c (am_up C2 7 (n + 2) (nI m)) n1 5
  rw [if_neg (nI_ne (by omega)), set_n w3 (by omega) (by omega)]
  have v4 : am_up (n_newM (am_up C2 7 (n + 2) (nI m)) n1 5) 8 (n + 2) (nI n1) 4 = upd (C2 4) n1 5 := by rw [am_up_ne (by decide), w4, am_up_ne (by decide)]
  have v7 : am_up (n_newM (am_up C2 7 (n + 2) (nI m)) n1 5) 8 (n + 2) (nI n1) 7 = upd (upd (C2 7) (n + 2) (nI m)) n1 (-1) := by rw [am_up_ne (by decide), w7, am_up_i, if_pos rfl]
  have v8 : am_up (n_newM (am_up C2 7 (n + 2) (nI m)) n1 5) 8 (n + 2) (nI n1) 8 = upd (upd (C2 8) n1 (-1)) (n + 2) (nI n1) := by rw [am_up_i, if_pos rfl, w8, am_up_ne (by decide)]
  have v35 : am_up (n_newM (am_up C2 7 (n + 2) (nI m)) n1 5) 8 (n + 2) (nI n1) 3 5 = nI (n1 + 1) := by rw [am_up_ne (by decide), w3]
  have v5 : am_up (n_newM (am_up C2 7 (n + 2) (nI m)) n1 5) 8 (n + 2) (nI n1) 5 = upd (C2 5) n1 0 := by rw [am_up_ne (by decide), w5, am_up_ne (by decide)]
  generalize am_up (n_newM (am_up C2 7 (n + 2) (nI m)) n1 5) 8 (n + 2) (nI n1) = E at v4 v5 v7 v8 v35 ⊢
  have D0 : ∀ x, n + 3 ≤ x → x < n1 → (fun x => if x < n + 3 then (if x = n + 1 then 0 else j + 1) else if x < n1 then D2 x else 0) x = D2 x := fun x h1 h2 => by
    show (if x < n + 3 then (if x = n + 1 then 0 else j + 1) else if x < n1 then D2 x else 0) = D2 x
    rw [if_neg (by omega), if_pos h2]
  have D1 : ∀ x, x < n + 3 → ¬ x = n + 1 → (fun x => if x < n + 3 then (if x = n + 1 then 0 else j + 1) else if x < n1 then D2 x else 0) x = j + 1 := fun x h1 h2 => by
    show (if x < n + 3 then (if x = n + 1 then 0 else j + 1) else if x < n1 then D2 x else 0) = j + 1
    rw [if_pos h1, if_neg h2]
  have Dn : (fun x => if x < n + 3 then (if x = n + 1 then 0 else j + 1) else if x < n1 then D2 x else 0) (n + 1) = 0 := by
    show (if n + 1 < n + 3 then (if n + 1 = n + 1 then 0 else j + 1) else if n + 1 < n1 then D2 (n + 1) else 0) = 0
    rw [if_pos (by omega), if_pos rfl]
  have De : (fun x => if x < n + 3 then (if x = n + 1 then 0 else j + 1) else if x < n1 then D2 x else 0) n1 = 0 := by
    show (if n1 < n + 3 then (if n1 = n + 1 then 0 else j + 1) else if n1 < n1 then D2 n1 else 0) = 0
    rw [if_neg (by omega), if_neg (by omega)]
  generalize (fun x => if x < n + 3 then (if x = n + 1 then 0 else j + 1) else if x < n1 then D2 x else 0) = D at D0 D1 Dn De
  -- the cells of the three nodes and below
  have b4 : ∀ x, x < n + 3 → E 4 x = upd (upd (upd (C 4) n 4) (n + 1) 2) (n + 2) 4 x := fun x hx => by
    rw [v4, upd_lt _ _ (by omega), (f2 x hx).1, kn4, q4]
  have b7 : ∀ x, x < n + 3 → ¬ x = n + 2 → E 7 x = upd (upd (upd (upd (C 7) n (-1)) (n + 1) (-1)) (n + 2) (-1)) n (nI (n + 1)) x := fun x hx h2 => by
    rw [v7, upd_lt _ _ (by omega), show upd (C2 7) (n + 2) (nI m) x = C2 7 x by simp only [upd]; rw [if_neg h2], (f2 x hx).2.1, kn7, q7]
  have b8 : ∀ x, x < n + 3 → ¬ x = n + 2 → E 8 x = upd (upd (upd (upd (C 8) n (-1)) (n + 1) (-1)) (n + 2) (-1)) n (nI (n + 2)) x := fun x hx h2 => by
    rw [v8, show upd (upd (C2 8) n1 (-1)) (n + 2) (nI n1) x = C2 8 x by simp only [upd]; rw [if_neg h2, if_neg (by omega)], (f2 x hx).2.2.1, kn8, q8]
  have b5 : ∀ x, x < n + 3 → E 5 x = upd (upd (upd (upd (C 5) n 0) (n + 1) 0) (n + 2) 0) (n + 1) 5 x := fun x hx => by
    rw [v5, upd_lt _ _ (by omega), (f2 x hx).2.2.2, kn5, q5]
  refine ⟨n1 + 1, n, D, v35, by omega, rfl, Nat.le_refl _, by omega, fun x h1 h2 => ?_, fun x hx => ?_⟩
  · by_cases c3 : x < n + 3
    · by_cases cn1 : x = n + 1
      · subst cn1
        have hne : ¬ E 4 (n + 1) = 4 := by
          rw [b4 _ c3]
          simp only [upd]
          rw [if_neg (by omega), if_pos trivial]
          decide
        exact ⟨⟨by rw [Dn]; omega, fun z => absurd z hne⟩, fun z => absurd z hne⟩
      · have h50 : E 5 x = 0 := by
          rw [b5 x c3]
          simp only [upd]
          rw [if_neg cn1, if_neg cn1]
          by_cases c2 : x = n + 2
          · rw [if_pos c2]
          · rw [if_neg c2, if_pos (show x = n by omega)]
        refine ⟨⟨by rw [D1 x c3 cn1]; omega, fun _ => h50⟩, fun _ _ => ?_⟩
        by_cases cn : x = n
        · subst cn
          refine ⟨x + 1, x + 2, ?_, ?_, by omega, by omega, by omega, by omega, by rw [Dn, D1 x c3 cn1]; omega, by rw [D1 x c3 cn1, D1 (x + 2) (by omega) (by omega)]; omega⟩
          · rw [b7 x c3 (by omega), upd_eq]
          · rw [b8 x c3 (by omega), upd_eq]
        · have : x = n + 2 := by omega
          subst this
          refine ⟨m, n1, ?_, ?_, by omega, by omega, by omega, by omega, ?_, by rw [De]; omega⟩
          · rw [v7, upd_lt _ _ (by omega), upd_eq]
          · rw [v8, upd_eq]
          · rw [D0 m hm1 hm2, D1 _ c3 cn1]
            have := (R2 m hm1 hm2).1.1
            omega
    · by_cases cx : x < n1
      · obtain ⟨z1, z2⟩ := R2 x (by omega) cx
        refine ⟨⟨by rw [D0 x (by omega) cx]; have := z1.1; omega, by rw [v4, v5, upd_lt _ _ cx, upd_lt _ _ cx]; exact z1.2⟩, fun k4 _ => ?_⟩
        rw [v4, upd_lt _ _ cx] at k4
        refine (z2 k4 (fun q => q)).of ?_ ?_ (by omega) (by omega) (D0 x (by omega) cx) (fun y y1 y2 => D0 y y1 y2)
        · rw [v7, upd_lt _ _ cx]; simp only [upd]; rw [if_neg (by omega)]
        · rw [v8]; simp only [upd]; rw [if_neg (by omega), if_neg (by omega)]
      · have : x = n1 := by omega
        subst this
        have hne : ¬ E 4 x = 4 := by rw [v4, upd_eq]; decide
        exact ⟨⟨by rw [De]; omega, fun z => absurd z hne⟩, fun z => absurd z hne⟩
  · have hu : ∀ (g : Nat → Int32) (y : Nat) (v : Int32), n ≤ y → upd g y v x = g x := fun g y v hy => upd_lt g v (by omega)
    rw [b4 x (by omega), b7 x (by omega) (by omega), b8 x (by omega) (by omega), b5 x (by omega)]
    refine ⟨?_, ?_, ?_, ?_⟩
    · rw [hu _ _ _ (by omega), hu _ _ _ (by omega), hu _ _ _ (by omega)]
    · rw [hu _ _ _ (by omega), hu _ _ _ (by omega), hu _ _ _ (by omega), hu _ _ _ (by omega)]
    · rw [hu _ _ _ (by omega), hu _ _ _ (by omega), hu _ _ _ (by omega), hu _ _ _ (by omega)]
    · rw [hu _ _ _ (by omega), hu _ _ _ (by omega), hu _ _ _ (by omega), hu _ _ _ (by omega)]
theorem RD_at {V C : aM} {i n j : Nat} (h : GC V C i n) {k : Int32} (hk : k = 1 ∨ k = 2 ∨ k = 3) (hz : ¬ (atD C k).1 = -1) : ∃ n' m D, (atD C k).2 3 5 = nI n' ∧ n' ≤ 200 ∧ (atD C k).1 = nI m ∧ n ≤ m ∧ m < n' ∧ RK (atD C k).2 D n n' j (fun _ => False) ∧ fw n C (atD C k).2 := by
  unfold atD at hz ⊢
  rcases hk with rfl | rfl | rfl
  · rw [if_pos rfl] at hz ⊢
    exact RD_one h (k := 1) (by decide) hz (kq_set (by decide) _ _ _) (kp_set (by decide) _ _ _) (k5_set _ _ _)
  · rw [if_neg (by decide), if_pos rfl] at hz ⊢
    exact RD_one h (k := 2) (by decide) hz (kq_nmL _ _ _ _ _) (kp_nmL _ _ _ _ _) (k5_nmL _ _ _ _ _)
  · rw [if_neg (by decide), if_neg (by decide)] at hz ⊢
    exact RD_one h (k := 3) (by decide) hz (kq_stL _ _ _ _ _) (kp_stL _ _ _ _ _) (k5_stL _ _ _ _ _)
theorem RD_all (V : aM) : ∀ j, RD V (rdD j) j
  | 0 => fun C i n h hz => by
    by_cases c1 : tkS C = 1 ∨ tkS C = 2 ∨ tkS C = 3
    · rw [rdD_at 0 c1] at hz ⊢
      exact RD_at h c1 hz
    · exfalso
      apply hz
      unfold rdD
      rw [if_neg (fun q => c1 (Or.inl q)), if_neg (fun q => c1 (Or.inr (Or.inl q))), if_neg (fun q => c1 (Or.inr (Or.inr q)))]
  | j + 1 => fun C i n h hz => by
    have ih := RD_all V j
    have hf := FL_all V j
    by_cases c1 : tkS C = 1 ∨ tkS C = 2 ∨ tkS C = 3
    · rw [rdD_at (j + 1) c1] at hz ⊢
      exact RD_at h c1 hz
    by_cases c6 : tkS C = 6
    · rw [rdD_6 j c6] at hz ⊢
      exact RD_lst hf ih h (h.tok c6 (by decide) (by decide)) hz
    by_cases c8 : tkS C = 8
    · rw [rdD_8 j c8] at hz ⊢
      exact RD_quo hf ih h (h.tok c8 (by decide) (by decide)) hz
    · exfalso
      apply hz
      rw [rdD, if_neg (fun q => c1 (Or.inl q)), if_neg (fun q => c1 (Or.inr (Or.inl q))), if_neg (fun q => c1 (Or.inr (Or.inr q))), if_neg c6, if_neg c8]
/-- heads go no deeper than 15 -/
def RX (M : aM) : Prop := ∃ n D, M 3 5 = nI n ∧ n ≤ 200 ∧ RK M D 0 n 15 (fun _ => False)
theorem RX.of {M N : aM} (h : RX M) (h3 : N 3 5 = M 3 5) (h4 : N 4 = M 4) (h5 : N 5 = M 5) (h7 : N 7 = M 7) (h8 : N 8 = M 8) : RX N := by
  unfold RX RK Rk1
  rw [h3, h4, h5, h7, h8]
  exact h
theorem RX_rdL {V : aM} : ∀ (r : Nat) (C : aM) (i n : Nat) (D : Nat → Nat), GC V C i n → RK C D 0 n 15 (fun _ => False) → 201 ≤ n + r → RX (rdL r C)
  | 0, C, i, n, D, h, hR, hr => by
    have := h.2.2.2.2.1
    omega
  | r + 1, C, i, n, D, h, hR, hr => by
    rw [rdL]
    by_cases c10 : tkS C = 10
    · rw [if_pos c10]
      exact ⟨n, D, h.2.2.2.1, h.2.2.2.2.1, hR⟩
    rw [if_neg c10]
    have q := FL_all V 15 C i n h
    by_cases c : (rdD 15 C).1 = -1
    · rw [if_pos c]
      exact ⟨0, D, (clr_c _).2.1, by omega, fun x h1 h2 => by omega⟩
    rw [if_neg c]
    obtain ⟨i', n2, g, ho', hn'⟩ := q.ok c
    obtain ⟨n2', m, D2, e35, en2, em, hm1, hm2, R2, f2⟩ := RD_all V 15 C i n h c
    have hnn : n2' = n2 := (nI_eq (by omega) (by have := g.2.2.2.2.1; omega)).mp (by rw [← g.2.2.2.1, e35])
    subst hnn
    generalize rdD 15 C = p at g R2 f2 ⊢
    obtain ⟨a1, a2⟩ := addD_c p.2 p.1
    have g2 : GC V (n_addD p.2 p.1) i' n2' := by
      obtain ⟨b1, b2, b3, b4, b5, b6⟩ := g
      exact ⟨b1.cells (by rw [a1 1 (by decide) (by decide)]) (a1 2 (by decide) (by decide)) (a1 12 (by decide) (by decide)) (a1 13 (by decide) (by decide)) (a1 14 (by decide) (by decide)) (a1 15 (by decide) (by decide)), by rw [a1 11 (by decide) (by decide)]; exact b2, b3, by rw [a2]; exact b4, b5, by rw [a1 11 (by decide) (by decide)]; exact b6⟩
    have g3 := g2.nx ho'
    have kn := kq_nx (n_addD p.2 p.1)
    rw [kq, a1 4 (by decide) (by decide), a1 7 (by decide) (by decide), a1 8 (by decide) (by decide)] at kn
    have kn5 := nx_5 (n_addD p.2 p.1)
    rw [a1 5 (by decide) (by decide)] at kn5
    generalize r_nx (n_addD p.2 p.1) = E at g3 kn kn5 ⊢
    refine RX_rdL r E (i' + 1) n2' (fun x => if x < n then D x else D2 x) g3 (fun x h1 h2 => ?_) (by omega)
    by_cases cx : x < n
    · obtain ⟨z1, z2⟩ := hR x h1 cx
      refine ⟨⟨by show (if x < n then D x else D2 x) ≤ 15; rw [if_pos cx]; exact z1.1, by rw [kn.1, kn5, (f2 x cx).1, (f2 x cx).2.2.2]; exact z1.2⟩, fun k4 _ => ?_⟩
      rw [kn.1, (f2 x cx).1] at k4
      exact (z2 k4 (fun q => q)).of (by rw [kn.2.1]; exact (f2 x cx).2.1) (by rw [kn.2.2]; exact (f2 x cx).2.2.1) (Nat.le_refl _) (by omega) (if_pos cx) (fun y _ hy => if_pos hy)
    · obtain ⟨z1, z2⟩ := R2 x (by omega) h2
      refine ⟨⟨by show (if x < n then D x else D2 x) ≤ 15; rw [if_neg cx]; exact z1.1, by rw [kn.1, kn5]; exact z1.2⟩, fun k4 _ => ?_⟩
      rw [kn.1] at k4
      exact (z2 k4 (fun q => q)).of (by rw [kn.2.1]) (by rw [kn.2.2]) (by omega) (Nat.le_refl _) (if_neg cx) (fun y hy _ => if_neg (by omega))
theorem RX_rdT {M : aM} (h : tx_ok M) : RX (rdT M) := by
  obtain ⟨r1, r3, r113, r114⟩ := rd0_c M
  exact RX_rdL (V := clrM M) 401 (rd0 M) 0 0 (fun _ => 0) ⟨rd0_TT h, r113, fun k hk => absurd hk (by omega), by rw [r3]; exact (clr_c M).2.1, by omega, r114⟩ (fun x h1 h2 => by omega) (by omega)
end
section
/-! WHAT HOLDS BETWEEN CALLS, heads no deeper than brackets -/
def I4 (M : aM) : Prop := I3 M ∧ RX M
theorem I4.wq {M N : aM} (h : I4 M) (hr : wq_rel M N) : I4 N := ⟨h.1.wq hr, h.2.of (by rw [hr.1 3 (by decide) (by decide) (by decide) (by decide)]) (hr.1 4 (by decide) (by decide) (by decide) (by decide)) (hr.1 5 (by decide) (by decide) (by decide) (by decide)) (hr.1 7 (by decide) (by decide) (by decide) (by decide)) (hr.1 8 (by decide) (by decide) (by decide) (by decide))⟩
theorem I4.f9 {M N : aM} (h : I4 M) (hr : fr9 M N) (hw : wt_ok N) : I4 N := ⟨h.1.f9 hr hw, h.2.of (by rw [hr 3 (by decide) (by decide)]) (hr 4 (by decide) (by decide)) (hr 5 (by decide) (by decide)) (hr 7 (by decide) (by decide)) (hr 8 (by decide) (by decide))⟩
theorem p_I4 {M : aM} {v : Int64} {n : Int32} (h : I4 M) : I4 (p2M (p1M M v n) v n) := by
  have hfr := p1_fr M v n
  have hq2 : ∀ i, ¬ i = 19 → ¬ i = 20 → p2M (p1M M v n) v n i = p1M M v n i := by
    unfold p2M
    split
    · exact (fm_put v _ _).1
    · exact fun _ _ _ => rfl
  have e : ∀ i, 3 ≤ i → i < 19 → p2M (p1M M v n) v n i = M i := fun i a b => (hq2 i (by omega) (by omega)).trans (hfr i a)
  exact ⟨p_I3 h.1, h.2.of (by rw [e 3 (by omega) (by omega)]) (e 4 (by omega) (by omega)) (e 5 (by omega) (by omega)) (e 7 (by omega) (by omega)) (e 8 (by omega) (by omega))⟩
theorem r_I4 {M : aM} (h : I4 M) {K : aR} (hK : ∀ (r : Int32) (N : aM), I4 N → (if rdT M 11 4 = -1 then rdT M 3 7 else -1) = r → K (some (.int r)) N) : m_rd (fun N => K (some (.int (m_ans N))) (m_fin N)) 402 (m_r0 (am_up (rdT M) 1 1 0)) := by
  have hX := RX_rdT h.1.1.1.1
  refine r_I3 h.1 (fun r N hN hr hq => hK r N ⟨hN, hX.of (by rw [hq 3 (by omega) (by omega)]) (hq 4 (by omega) (by omega)) (hq 5 (by omega) (by omega)) (hq 7 (by omega) (by omega)) (hq 8 (by omega) (by omega))⟩ (rd_ans h.1.1.1.1 hr))
end
