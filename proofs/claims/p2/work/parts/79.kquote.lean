/-! A QUOTE, from its token to its end -/
theorem dd_quo {V : aM} {j o : Nat} (ih : DD V (rdD j) (o + 1)) (ho15 : o < 15) {Kf : aM → Prop} {C R N : aM} {i n lc e g : Nat} (htk : tkS C = 8) (hO : mO R = o) (h : DB V C R i n lc) (hfu : m_tl R - pos V i < g + 1) (hpe1 : pos V i < e) (het : e ≤ m_tl R) (hpe : pos V (i + 1) = e) (ho1 : okT V (i + 1)) (hx : tkx R N) (hp : ¬ N 19 3 < 0) (hbN : bdy N) (hfr : frx R (m_act N 8)) (ha2 : m_act N 8 19 2 = nI e) (hab : 0 ≤ m_act N 8 19 4 ∨ bdy (m_act N 8)) (hF : (rdD (j + 1) C).1 = -1 → fltK Kf R)
    (hC : ∀ (S : aM) (f' i' n' lc' m : Nat), (rdD (j + 1) C).1 = nI m → DA V (rdD (j + 1) C).2 S i' n' lc' m → DK (bgM R) S → frx R S → n < n' → m_tl R - pos V (i' + 1) < f' → m_rd Kf f' (m_end (o + 1) (nI m) S)) : m_rd Kf g (m_act N 8) := by
  rw [rdD_8 j htk] at hF hC
  have ea : m_act N 8 = m_open true N := by unfold m_act; rw [if_neg (by decide), if_pos rfl]
  rw [ea] at hfr ha2 hab ⊢
  obtain ⟨d1, d2, d3, d4, d5, d6, d7, d8, d9, d10, d11⟩ := h
  obtain ⟨l1, l2, l3, l4⟩ := d1.lt d3
  obtain ⟨b1, b2, b3, b4, b5, b6⟩ := hbN
  obtain ⟨g, rfl⟩ : ∃ q, g = q + 1 := ⟨g - 1, by omega⟩
  have hkN := bgK_tkx hx d8
  have hBx := bg_tkx hx
  have eB := beg_bg hkN
  have cf : m_beg N 19 4 < 0 := by rw [eB, bg_19 N 4 (by decide)]; exact b1
  obtain ⟨g1, g2, g3, g4, -⟩ := T_beg b2 b3 hp cf
  have hON : mO N = o := by rw [(tkx_N hx).2.2.1, hO]
  have sN := StN_tkx d9 hBx
  have sL := StL_tkx d10 hBx
  rw [← eB] at sN sL hBx
  have f3 : m_beg N 19 3 = N 19 3 := beg_19 N 3 (by decide) (by decide)
  clear eB
  generalize hBg : m_beg N = B at cf g1 g2 g3 g4 sN sL hBx f3
  have hm := StN_mN sN
  have hpB : ¬ B 19 3 < 0 := by rw [f3]; exact hp
  by_cases hn' : ¬ n + 3 ≤ 200
  · have hn := hn'
    refine rd_flt (hF ?_) hfr (open_qf hBg hON ho15 cf g2.1 hm hpB hn)
    unfold r_quo
    rw [if_pos (quo_full sN.1 sN.2.2.1 hn)]
  have hn : n + 3 ≤ 200 := Nat.not_lt.mp (fun q => hn' (by omega))
  obtain ⟨eS, e4⟩ := open_q hBg hON ho15 cf g2.1 hm hn
  obtain ⟨c27, c28, c29, c26, c13, c11⟩ := opq_c (o := o) g2.1 hm hn eS
  obtain ⟨p1, p2, p3, p4⟩ := opP_c true o B
  have sP : StN C (m_opP true o B) n := StN_ref sN (p2 5 (by decide)) (p1 21 (by decide) (by decide)) (p1 22 (by decide) (by decide)) (p1 24 (by decide) (by decide)) (p1 25 (by decide) (by decide))
  have lP : StL C (m_opP true o B) n lc := StL_ref sL (p1 23 (by decide) (by decide))
  have sQ := quo_open (o := o) sP lP hn
  rw [← eS] at sQ
  have eM := quo_M sP lP hn
  clear eS
  generalize m_open true N = S1 at hfr ha2 hab e4 c27 c28 c29 c26 c13 c11 sQ ⊢
  obtain ⟨a1, a2, a3⟩ := quo_add sN.1 hn
  have eR : r_quo (rdD j) C = q_B (rdD j) (nI n) (nI (n + 1)) (nI (n + 2)) (Q3 C n) := by
    unfold r_quo
    rw [a3, if_neg (show ¬ (nI (n + 2), Q3 C n).1 = -1 from nI_ne (by omega)), a2, a1]
  rw [eR] at hF hC
  have hdk : dk C (Q3 C n) := by
    have := ((dk_radd C 4).tr (dk_radd _ 2)).tr (dk_radd _ 4)
    rw [a3] at this
    exact this
  have hdM : dk C (q_M (nI n) (nI (n + 1)) (nI (n + 2)) (Q3 C n)) := hdk.tr (dk_qM _ _ _ _)
  have hD : am_up (am_up (am_up (am_up (Q3 C n) 6 (n + 1) 0) 5 (n + 1) 5) 7 n (nI (n + 1))) 8 n (nI (n + 2)) 11 3 = nI i := by
    rw [am_up_ne (by decide), am_up_ne (by decide), am_up_ne (by decide), am_up_ne (by decide)]
    unfold Q3
    rw [(newM_c _ _ _).1 11 (by decide) (by decide) (by decide) (by decide) (by decide) (by decide), (newM_c _ _ _).1 11 (by decide) (by decide) (by decide) (by decide) (by decide) (by decide), (newM_c _ _ _).1 11 (by decide) (by decide) (by decide) (by decide) (by decide) (by decide)]
    exact d2
  generalize am_up (am_up (am_up (am_up (Q3 C n) 6 (n + 1) 0) 5 (n + 1) 5) 7 n (nI (n + 1))) 8 n (nI (n + 2)) = D at hD sQ eM
  obtain ⟨nx1, nx2⟩ := nx_c hD
  have sM : StN (r_nx D) S1 (n + 3) := by
    unfold StN
    rw [nx2 3 (by decide), nx2 4 (by decide), nx2 5 (by decide), nx2 7 (by decide), nx2 8 (by decide)]
    exact sQ.1
  have lM : StL (r_nx D) S1 (n + 3) lc := StL_of sQ.2 (by rw [nx2 3 (by decide)]) (nx2 4 (by decide)) (nx2 5 (by decide)) (nx2 6 (by decide)) (nx2 10 (by decide)) rfl
  have eqB : q_B (rdD j) (nI n) (nI (n + 1)) (nI (n + 2)) (Q3 C n) = if (rdD j (r_nx D)).1 = -1 then (-1, (rdD j (r_nx D)).2) else q_A (nI n) (nI (n + 2)) (rdD j (r_nx D)).2 (rdD j (r_nx D)).1 := by
    unfold q_B
    rw [eM]
  rw [eqB] at hF hC
  rw [eM] at hdM
  clear eqB eM eR hdk a1 a2 a3 sQ
  generalize r_nx D = C1 at hF hC hdM nx1 sM lM
  have mO1 : mO S1 = o + 1 := by unfold mO; rw [c13]; exact nI_clamp (by omega)
  have c29o : S1 29 o = 4 := by rw [c29, upd_eq]
  have bK : bgK S1 := fun _ => by rw [mO1, Nat.add_sub_cancel, c29o]; exact ⟨by decide, fun z => absurd z (by decide)⟩
  have bM : bgM S1 = S1 := by unfold bgM; rw [mO1, Nat.add_sub_cancel, c29o, if_neg (by omega), if_neg (by decide)]
  have etl1 : m_tl S1 = m_tl R := by unfold m_tl; rw [hfr.2.1]
  have h41 : ¬ 0 ≤ S1 19 4 := Int32.not_le.mpr (by rw [e4]; exact cf)
  refine ih Kf C1 S1 (i + 1) (n + 3) lc (g + 1) mO1 ⟨d1.of hdM, nx1, ho1, hab.resolve_left h41, hfr.2.1.trans d5, (hfr.1 20 (Or.inr (Or.inl rfl))).trans d6, by rw [ha2, hpe], bK, by rw [bM]; exact sM, by rw [bM]; exact lM, by omega⟩ ⟨fun _ => by omega, fun _ z => ?_⟩ (by rw [etl1]; omega) ?_ ?_
  · rw [mO1, Nat.add_sub_cancel, c29o] at z
    exact absurd z (by decide)
  · intro z
    have := hF (by rw [if_pos z])
    exact this.of hfr
  intro S f' i' n' lc' m hm1 hDA hDK hfS hnn hf'
  obtain ⟨x1, x2, x3, x4, x5, x6, x7, x8, x9, x10, x11, x12, x13, x14, x15, x16, x17⟩ := hDA
  have hmS := StN_mN x15
  have hn2 := x15.2.2.1
  have hmn := x11.1
  have hne : ¬ (rdD j C1).1 = -1 := by rw [hm1]; exact nI_ne (by omega)
  rw [if_neg hne, hm1] at hF hC
  generalize (rdD j C1).2 = C2 at hF hC x1 x2 x15 x16
  unfold q_A at hF hC
  dsimp only at hF hC
  rw [bM] at hDK
  obtain ⟨k1, k2, k3, k4⟩ := hDK
  rw [mO1] at k1 k4
  obtain ⟨y27, y28, y29⟩ := k4 o (by omega)
  rw [c27, upd_eq] at y27
  rw [c28, upd_eq] at y28
  rw [c29o] at y29
  have cy28 : cl (S 28 o) = n + 2 := by rw [y28]; exact nI_clamp (by omega)
  have cy27 : cl (S 27 o) = n := by rw [y27]; exact nI_clamp (by omega)
  have ho1S : mO S - 1 = o := by omega
  rw [m_end, if_neg (Int32.not_le.mpr x4), if_neg (by omega), ho1S, y29, if_pos rfl, y27]
  by_cases c2 : n' = 200
  · have z := endq_f (m := m) x5 (by rw [hmS]; exact c2)
    rw [m_end_f z]
    obtain ⟨f', rfl⟩ : ∃ q, f' = q + 1 := ⟨f' - 1, by omega⟩
    refine rd_flt (hF ?_) ((hfr.tr hfS).tr (frm_endQ S (nI m)).x) z
    have h200 : n_set 7 C2 (nI (n + 2)) (nI m) 3 5 = nI 200 := by rw [set_lt x15 (by omega), am_up_ne (by decide), x15.1, c2]
    rw [(add_200 h200).2, if_pos rfl]
  · obtain ⟨w1, w2, w3, w4⟩ := endq_st (m := m) (o := o) (x := n + 2) x15 x16 (by omega) ho1S cy28 (by omega)
    obtain ⟨v1, v2, v3, v4, v5, v6, v7⟩ := endq_c (m := m) (o := o) ho1S (by omega)
    have hSI : SIr true (mN S) (mD S) (o + 1) (S 21) (S 22) (S 24) (S 25) (S 27) (S 28) (S 29) := by
      have := x6
      unfold SI at this
      rw [k1] at this
      exact this
    have hlm : cl (S 28 o) < m := by
      have := x11.2.2 (by omega)
      rw [ho1S] at this
      exact this
    obtain ⟨t1, t2, t3, t4, t5, t6⟩ := E_4 hSI x7 k1 (by omega) y29 hlm hmn
    have hfN := (x6.2.1.all (k := o) (by omega)).2
    have hdkE := ((dk_set (c := 7) (by decide) C2 (nI (n + 2)) (nI m)).tr (dk_radd _ 5)).tr (dk_set (c := 8) (by decide) _ (nI (n + 2)) (r_add (n_set 7 C2 (nI (n + 2)) (nI m)) 5).1)
    rw [w1] at hdkE hC
    rw [w2, if_neg (nI_ne (by omega))] at hC
    have hfE := frm_endQ S (nI m)
    obtain ⟨r1, r2, r3, r4, r5⟩ := frm_mt hfE x8 x9 x10
    have hcu : am_up (n_newM (am_up C2 7 (n + 2) (nI m)) n' 5) 8 (n + 2) (nI n') 11 3 = nI i' := by
      rw [am_up_ne (by decide), (newM_c _ _ _).1 11 (by decide) (by decide) (by decide) (by decide) (by decide) (by decide), am_up_ne (by decide)]
      exact x2
    generalize m_endQ S (nI m) = T at w3 w4 v1 v2 v3 v4 v5 v6 v7 t1 t2 t3 t4 t5 t6 hfE r1 r2 r3 r4 r5 ⊢
    refine hC T f' i' (n' + 1) lc' n rfl ⟨x1.of hdkE, hcu, x3, by rw [v6]; exact x4, by rw [v7]; exact x5, t1, t2, r1, r2, r3, ⟨by omega, fun z => ?_, fun z => ?_⟩, by rw [hfE.2 1 (Or.inl rfl)]; exact x12, by rw [hfE.1 20 (Or.inr (Or.inl rfl))]; exact x13, by rw [hfE.2 2 (Or.inr (Or.inl rfl))]; exact x14, w3, w4, x17⟩ (DK_tkx hBx ⟨by omega, by rw [v5, k2, c11], by rw [v4, k3, c26], fun q hq => ?_⟩) ((hfr.tr hfS).tr hfE.x) (by omega) (by rw [← etl1]; exact hf')
    · have := hfN.2.2.2.2.1 (by omega)
      omega
    · have := hfN.2.2.2.2.2 (by omega)
      rw [t3, t6]
      omega
    · have hqo : q < o := by omega
      obtain ⟨z1, z2, z3⟩ := k4 q (by omega)
      rw [c27, upd_lt _ _ hqo] at z1
      rw [c28, upd_lt _ _ hqo] at z2
      rw [c29, upd_lt _ _ hqo] at z3
      rw [v1, v2, v3]
      exact ⟨z1, z2, z3⟩
