/-! WHAT HOLDS BETWEEN CALLS, as far as safety and the text's length go -/
def I2 (M : aM) : Prop := (tx_ok M ∧ wt_ok M) ∧ (mt_ok M ∧ tb_ok M) ∧ M 1 1 = M 19 1 ∧ (mc_ok M ∧ md_ok M ∧ tr_ok M ∧ mw_ok M)
theorem mb_of {M : aM} (hc : mc_ok M) (h : tr_ok M) : mb_ok M := fun x hx => by
  unfold m_isT at hx
  simp only [Bool.and_eq_true, Bool.or_eq_true, decide_eq_true_eq] at hx
  have q := m_hasD hc hx.1
  obtain ⟨v, hv, e⟩ := (h (cl x) q.2.1).2.1 hx.2
  rw [e, show cl (nI v) = v from nI_clamp (by omega)]
  exact ⟨rfl, hv⟩
theorem I2.wq {M N : aM} (h : I2 M) (hr : wq_rel M N) : I2 N := by
  obtain ⟨⟨a1, a2⟩, ⟨b1, b2⟩, c, d1, d2, d3, d4⟩ := h
  have e1 := hr.1 1 (by decide) (by decide) (by decide) (by decide)
  have e16 := hr.1 16 (by decide) (by decide) (by decide) (by decide)
  have e20 := hr.1 20 (by decide) (by decide) (by decide) (by decide)
  have f1 := hr.2.1 1 (by decide)
  have f11 := hr.2.1 11 (by decide)
  refine ⟨⟨?_, ?_⟩, ⟨?_, ?_⟩, by rw [e1, f1]; exact c, hr.mc d1, ?_, hr.tree d3, hr.2.2⟩
  · unfold tx_ok tl; rw [e1]; exact a1
  · unfold wt_ok wf ww; rw [e16]; exact a2
  · unfold mt_ok m_tl; rw [f1]; exact b1
  · unfold tb_ok m_tl; rw [f1, e20]; exact b2
  · unfold md_ok mD; rw [f11]; exact d2
theorem I2.f9 {M N : aM} (h : I2 M) (hr : fr9 M N) (hw : wt_ok N) : I2 N := by
  obtain ⟨⟨a1, a2⟩, ⟨b1, b2⟩, c, d1, d2, d3, d4⟩ := h
  have e1 := hr 1 (by decide) (by decide)
  have e19 := hr 19 (by decide) (by decide)
  have e20 := hr 20 (by decide) (by decide)
  refine ⟨⟨?_, hw⟩, ⟨?_, ?_⟩, by rw [e1, e19]; exact c, ?_, ?_, ?_, ?_⟩
  · unfold tx_ok tl; rw [e1]; exact a1
  · unfold mt_ok m_tl; rw [e19]; exact b1
  · unfold tb_ok m_tl; rw [e19, e20]; exact b2
  · unfold mc_ok mN; rw [e19]; exact d1
  · unfold md_ok mD; rw [e19]; exact d2
  · unfold tr_ok mN; rw [e19, hr 21 (by decide) (by decide), hr 22 (by decide) (by decide), hr 24 (by decide) (by decide), hr 25 (by decide) (by decide)]; exact d3
  · unfold mw_ok mW; rw [e19]; exact d4
theorem putOk_D {M : aM} {n : Int32} (ht : tx_ok M) (h : d_putOk M n = true) : tl M + cl n ≤ 400 := by
  unfold d_putOk at h
  simp only [Bool.and_eq_true, Bool.not_eq_true', decide_eq_false_iff_not] at h
  have h1 : ¬ n < 0 := fun q => h.1.1 (Int32.lt_trans q (by decide))
  obtain ⟨j, hj, rfl⟩ := nI_of h1
  rw [show cl (nI j) = j from nI_clamp hj]
  have h8 : j ≤ 8 := Nat.le_of_not_lt (fun q => h.1.2 (nI_lt (a := 8) q hj))
  apply Nat.le_of_not_lt
  intro q
  apply h.2
  rw [ht.1, nI_add]
  exact nI_lt (a := 400) q (by have := ht.2; omega)
theorem putOk_M {M : aM} {n : Int32} (ht : mt_ok M) (h : m_putOk M n = true) : m_tl M + cl n ≤ 400 := by
  unfold m_putOk at h
  simp only [Bool.and_eq_true, Bool.not_eq_true', decide_eq_false_iff_not] at h
  have h1 : ¬ n < 0 := fun q => h.1.1 (Int32.lt_trans q (by decide))
  obtain ⟨j, hj, rfl⟩ := nI_of h1
  rw [show cl (nI j) = j from nI_clamp hj]
  have h8 : j ≤ 8 := Nat.le_of_not_lt (fun q => h.1.2 (nI_lt (a := 8) q hj))
  apply Nat.le_of_not_lt
  intro q
  apply h.2
  rw [ht.1, nI_add]
  exact nI_lt (a := 400) q (by have := ht.2; omega)
/-- the two memories of put -/
def p1M (M : aM) (v : Int64) (n : Int32) : aM := if d_putOk M n = true then d_putL v (cl n) M else M
def p2M (M : aM) (v : Int64) (n : Int32) : aM := if m_putOk M n = true then m_putL v (cl n) M else M
theorem p1_fr (M : aM) (v : Int64) (n : Int32) : ∀ i, 3 ≤ i → p1M M v n i = M i := fun i hi => by
  unfold p1M
  split
  · exact (fr_put v _ M).1 i hi
  · rfl
theorem p1_mt {M : aM} {v : Int64} {n : Int32} (h : I2 M) : mt_ok (p1M M v n) := by
  unfold mt_ok m_tl
  rw [p1_fr M v n 19 (by decide)]
  exact h.2.1.1
theorem p_eq {M : aM} {v : Int64} {n : Int32} (h : I2 M) : b2 (d_putOk M n) = b2 (m_putOk (p1M M v n) n) := by
  unfold d_putOk m_putOk
  rw [p1_fr M v n 19 (by decide), h.2.2.1]
theorem p_I2 {M : aM} {v : Int64} {n : Int32} (h : I2 M) : I2 (p2M (p1M M v n) v n) := by
  obtain ⟨⟨a1, a2⟩, ⟨b1, b2⟩, c, d1, d2, d3, d4⟩ := h
  have hfr := p1_fr M v n
  have hb : m_putOk (p1M M v n) n = d_putOk M n := by
    unfold d_putOk m_putOk
    rw [hfr 19 (by decide), c]
  have mt1 : mt_ok (p1M M v n) := by unfold mt_ok m_tl; rw [hfr 19 (by decide)]; exact b1
  have tb1 : tb_ok (p1M M v n) := by unfold tb_ok m_tl; rw [hfr 19 (by decide), hfr 20 (by decide)]; exact b2
  have key : tx_ok (p1M M v n) ∧ (mt_ok (p2M (p1M M v n) v n) ∧ tb_ok (p2M (p1M M v n) v n)) ∧ p1M M v n 1 1 = p2M (p1M M v n) v n 19 1 := by
    cases hq : d_putOk M n
    · have e2 : p2M (p1M M v n) v n = p1M M v n := by unfold p2M; rw [hb, hq]; rfl
      have e1 : p1M M v n = M := by unfold p1M; rw [hq]; rfl
      rw [e2, e1]
      exact ⟨a1, ⟨b1, b2⟩, c⟩
    · have e2 : p2M (p1M M v n) v n = m_putL v (cl n) (p1M M v n) := by unfold p2M; rw [hb, hq]; rfl
      have e1 : p1M M v n = d_putL v (cl n) M := by unfold p1M; rw [hq]; rfl
      have l1 := putOk_D a1 hq
      have l2 := putOk_M mt1 (by rw [hb]; exact hq)
      have g1 := (fr_put v (cl n) M).2 l1 a1
      have g2 := (fm_put v (cl n) (p1M M v n)).2.2 l2 mt1 tb1
      rw [e2]
      refine ⟨by rw [e1]; exact g1.1, ⟨g2.1, g2.2.1⟩, ?_⟩
      rw [g2.1.1, g2.2.2, show p1M M v n 1 1 = d_putL v (cl n) M 1 1 by rw [e1], g1.1.1, g1.2]
      have : tl M = m_tl (p1M M v n) := by
        unfold tl m_tl
        rw [hfr 19 (by decide), c]
      rw [this]
  have hq2 : (∀ i, ¬ i = 19 → ¬ i = 20 → p2M (p1M M v n) v n i = p1M M v n i) ∧ (∀ j, ¬ j = 1 → p2M (p1M M v n) v n 19 j = p1M M v n 19 j) := by
    unfold p2M
    split
    · exact ⟨(fm_put v _ _).1, (fm_put v _ _).2.1⟩
    · exact ⟨fun _ _ _ => rfl, fun _ _ => rfl⟩
  obtain ⟨k1, ⟨k2, k3⟩, k4⟩ := key
  generalize p2M (p1M M v n) v n = N at hq2 k2 k3 k4 ⊢
  have f1 := hq2.1 1 (by decide) (by decide)
  have f16 : N 16 = M 16 := (hq2.1 16 (by decide) (by decide)).trans (hfr 16 (by decide))
  have f5 : N 19 5 = M 19 5 := by rw [hq2.2 5 (by decide), hfr 19 (by decide)]
  have f11 : N 19 11 = M 19 11 := by rw [hq2.2 11 (by decide), hfr 19 (by decide)]
  have f18 : N 19 18 = M 19 18 := by rw [hq2.2 18 (by decide), hfr 19 (by decide)]
  have fo : ∀ i, 21 ≤ i → N i = M i := fun i hi => (hq2.1 i (by omega) (by omega)).trans (hfr i (by omega))
  refine ⟨⟨?_, ?_⟩, ⟨k2, k3⟩, by rw [f1]; exact k4, ?_, ?_, ?_, ?_⟩
  · unfold tx_ok tl; rw [f1]; exact k1
  · unfold wt_ok wf ww; rw [f16]; exact a2
  · unfold mc_ok mN; rw [f5]; exact d1
  · unfold md_ok mD; rw [f11]; exact d2
  · unfold tr_ok mN; rw [f5, fo 21 (by decide), fo 22 (by decide), fo 24 (by decide), fo 25 (by decide)]; exact d3
  · unfold mw_ok mW; rw [f18]; exact d4
theorem SIr_0 (kd vl hd tl fi la st : Nat → Int32) : SIr false 0 0 0 kd vl hd tl fi la st := ⟨fun x hx => by omega, fun k hk => by omega, by omega, by omega⟩
theorem r_I2 {M : aM} (h : I2 M) {K : aR} (hK : ∀ (r : Int32) (N : aM), I2 N → K (some (.int r)) N) : m_rd (fun N => K (some (.int (m_ans N))) (m_fin N)) 402 (m_r0 (am_up (rdT M) 1 1 0)) := by
  obtain ⟨⟨a1, a2⟩, ⟨b1, b2⟩, c, d1, d2, d3, d4⟩ := h
  have hfr := fr_read M
  have h11 : am_up (rdT M) 1 1 0 1 1 = 0 := by simp only [am_up_ap, ↓reduceIte]
  generalize am_up (rdT M) 1 1 0 = M1 at hfr h11 ⊢
  have z : (∀ i, ¬ i = 19 → m_r0 M1 i = M1 i) ∧ (∀ j, ¬ j = 4 → ¬ j = 2 → ¬ j = 5 → ¬ j = 11 → ¬ j = 13 → m_r0 M1 19 j = M1 19 j) ∧ m_r0 M1 19 4 = -1 ∧ m_r0 M1 19 2 = 0 ∧ m_r0 M1 19 5 = 0 ∧ m_r0 M1 19 11 = 0 ∧ m_r0 M1 19 13 = 0 := by
    unfold m_r0
    refine ⟨fun i hi => by rw [am_up_ne hi, am_up_ne hi, am_up_ne hi, am_up_ne hi, am_up_ne hi], fun j g1 g2 g3 g4 g5 => ?_, ?_, ?_, ?_, ?_, ?_⟩
    · simp only [am_up_ap, g1, g2, g3, g4, g5, ↓reduceIte]
    · simp only [am_up_ap, ↓reduceIte, Nat.reduceEqDiff]
    · simp only [am_up_ap, ↓reduceIte, Nat.reduceEqDiff]
    · simp only [am_up_ap, ↓reduceIte, Nat.reduceEqDiff]
    · simp only [am_up_ap, ↓reduceIte, Nat.reduceEqDiff]
    · simp only [am_up_ap, ↓reduceIte]
  generalize m_r0 M1 = R at z ⊢
  obtain ⟨z1, z2, z3, z4, z5, z6, z7⟩ := z
  have e1 : R 19 1 = M 19 1 := by rw [z2 1 (by decide) (by decide) (by decide) (by decide) (by decide), hfr 19 (by decide)]
  have e20 : R 20 = M 20 := by rw [z1 20 (by decide), hfr 20 (by decide)]
  have mtR : mt_ok R := by unfold mt_ok m_tl; rw [e1]; exact b1
  have tbR : tb_ok R := by unfold tb_ok m_tl; rw [e1, e20]; exact b2
  have nR : mN R = 0 := by unfold mN; rw [z5]; rfl
  have dR : mD R = 0 := by unfold mD; rw [z6]; rfl
  have oR : mO R = 0 := by unfold mO; rw [z7]; rfl
  have aR : cl (R 19 2) = 0 := by rw [z4]; rfl
  have hSI : SI false R := by unfold SI; rw [nR, dR, oR]; exact SIr_0 _ _ _ _ _ _ _
  have hbs : bs_ok R := ⟨⟨by rw [nR, z5]; rfl, by rw [nR]; omega⟩, ⟨by rw [dR, z6]; rfl, by rw [dR]; omega⟩, ⟨by rw [oR, z7]; rfl, by rw [oR]; omega⟩⟩
  refine rd_all 402 R (by rw [aR]; have := mtR.2; omega) (Or.inr ⟨hSI, hbs, mtR, tbR, ⟨by rw [aR, z4]; rfl, by rw [aR]; omega⟩⟩) ?_
  intro N hN hp
  apply hK
  have y : (∀ i, ¬ i = 19 → m_fin N i = N i) ∧ m_fin N 19 1 = 0 ∧ m_fin N 19 5 = (if 0 ≤ N 19 4 then 0 else N 19 5) ∧ m_fin N 19 11 = (if 0 ≤ N 19 4 then 0 else N 19 11) ∧ m_fin N 19 18 = N 19 18 := by
    unfold m_fin
    refine ⟨fun i hi => by rw [am_up_ne hi, am_up_ne hi, am_up_ne hi], ?_, ?_, ?_, ?_⟩
    · simp only [am_up_ap, ↓reduceIte, Nat.reduceEqDiff]
    · simp only [am_up_ap, ↓reduceIte, Nat.reduceEqDiff]
    · simp only [am_up_ap, ↓reduceIte]
    · simp only [am_up_ap, ↓reduceIte, Nat.reduceEqDiff]
  generalize m_fin N = F at y ⊢
  obtain ⟨y1, y2, y3, y4, y5⟩ := y
  have f1 : F 1 = M1 1 := by rw [y1 1 (by decide), hN.1 1 (by omega), z1 1 (by decide)]
  have f16 : F 16 = M 16 := by rw [y1 16 (by decide), hN.1 16 (by omega), z1 16 (by decide), hfr 16 (by decide)]
  have f18 : F 19 18 = M 19 18 := by rw [y5, hN.2.2, z2 18 (by decide) (by decide) (by decide) (by decide) (by decide), hfr 19 (by decide)]
  have m0 : m_tl F = 0 := by unfold m_tl; rw [y2]; rfl
  have t0 : tl F = 0 := by unfold tl; rw [f1, h11]; rfl
  have keyF : mc_ok F ∧ md_ok F ∧ tr_ok F := by
    by_cases cf : 0 ≤ N 19 4
    · rw [if_pos cf] at y3 y4
      have nF : mN F = 0 := by unfold mN; rw [y3]; rfl
      have dF : mD F = 0 := by unfold mD; rw [y4]; rfl
      exact ⟨⟨by rw [nF, y3]; rfl, by rw [nF]; omega⟩, ⟨by rw [dF, y4]; rfl, by rw [dF]; omega⟩, fun x hx => by omega⟩
    · rw [if_neg cf] at y3 y4
      obtain ⟨s1, s2, s3⟩ := hp.resolve_left cf
      have nF : mN F = mN N := by unfold mN; rw [y3]
      have dF : mD F = mD N := by unfold mD; rw [y4]
      refine ⟨⟨by rw [nF, y3]; exact s2.1.1, by rw [nF]; exact s2.1.2⟩, ⟨by rw [dF, y4]; exact s2.2.1.1, by rw [dF]; exact s2.2.1.2⟩, ?_⟩
      unfold SI at s1
      rw [s3] at s1
      have q := S_tree s1
      intro x hx
      rw [nF] at hx ⊢
      rw [y1 21 (by decide), y1 22 (by decide), y1 24 (by decide), y1 25 (by decide)]
      obtain ⟨q1, q2, q3⟩ := q x hx
      refine ⟨q1, q2, fun w => ?_⟩
      obtain ⟨⟨hh, u1, u2, u3⟩, ⟨tt, w1, w2, w3⟩⟩ := q3 w
      exact ⟨hh, tt, u1, w1, u2, u3, w2, w3⟩
  refine ⟨⟨⟨by rw [t0, f1, h11]; rfl, by rw [t0]; omega⟩, ?_⟩, ⟨⟨by rw [m0, y2]; rfl, by rw [m0]; omega⟩, fun i hi => by omega⟩, by rw [f1, h11, y2], keyF.1, keyF.2.1, keyF.2.2, ?_⟩
  · unfold wt_ok wf ww; rw [f16]; exact a2
  · unfold mw_ok mW; rw [f18]; exact d4
