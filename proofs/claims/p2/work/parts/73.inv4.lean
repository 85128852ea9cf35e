/-! READING KEEPS ITS STATE: closing, data, the loop -/
theorem new_c (A : aM) (k : Int32) : (∀ i, ¬ i = 19 → ¬ i = 21 → ¬ i = 22 → ¬ i = 24 → ¬ i = 25 → m_new A k i = A i) ∧ (∀ j, ¬ j = 5 → m_new A k 19 j = A 19 j) ∧ m_new A k 19 5 = nI (mN A + 1) ∧ m_new A k 21 = upd (A 21) (mN A) k ∧ m_new A k 22 = upd (A 22) (mN A) 0 ∧ m_new A k 24 = upd (A 24) (mN A) (-1) ∧ m_new A k 25 = upd (A 25) (mN A) (-1) := by
  refine ⟨fun i a b c d e => ?_, fun j h => ?_, ?_, ?_, ?_, ?_, ?_⟩
  · unfold m_new
    rw [am_up_ne a, am_up_ne e, am_up_ne d, am_up_ne c, am_up_ne b]
  · unfold m_new
    simp only [am_up_ap, h, ↓reduceIte, Nat.reduceEqDiff]
  · unfold m_new; simp only [am_up_ap, ↓reduceIte]
  · unfold m_new; simp only [am_up_i, ↓reduceIte, Nat.reduceEqDiff]
  · unfold m_new; simp only [am_up_i, ↓reduceIte, Nat.reduceEqDiff]
  · unfold m_new; simp only [am_up_i, ↓reduceIte, Nat.reduceEqDiff]
  · unfold m_new; simp only [am_up_i, ↓reduceIte, Nat.reduceEqDiff]
/-- the state behind a bracket's end, before the datum ends -/
def cl_st (M : aM) (p : Int32 × aM) (o : Nat) : Prop := SI true (am_up p.2 19 13 (nI o)) ∧ bs_ok (am_up p.2 19 13 (nI o)) ∧ mO (am_up p.2 19 13 (nI o)) = o ∧ ∃ m, p.1 = nI m ∧ dt_ok (am_up p.2 19 13 (nI o)) m
theorem cl_mk {M N : aM} {n' o : Nat} {w : Int32} {m : Nat} (hb : bs_ok M) (ho : mO M = o + 1) (hn : n' ≤ 200) (e5 : N 19 5 = nI n') (e11 : N 19 11 = M 19 11) (e28 : N 28 = M 28) (hw : w = nI m) (hS : SIr true n' (mD M) o (N 21) (N 22) (N 24) (N 25) (N 27) (M 28) (N 29)) (hm : m < n') (h0 : o = 0 → mD M ≤ m) (h1 : 0 < o → cl (M 28 (o - 1)) < m) : cl_st M (w, N) o := by
  have h15 := hb.2.2.2
  have f13 : am_up N 19 13 (nI o) 19 13 = nI o := by simp only [am_up_ap, ↓reduceIte]
  have f5 : am_up N 19 13 (nI o) 19 5 = nI n' := by simp only [am_up_ap, ↓reduceIte, Nat.reduceEqDiff]; exact e5
  have f11 : am_up N 19 13 (nI o) 19 11 = M 19 11 := by simp only [am_up_ap, ↓reduceIte, Nat.reduceEqDiff]; exact e11
  have fo : ∀ i, ¬ i = 19 → am_up N 19 13 (nI o) i = N i := fun i h => by rw [am_up_ne h]
  unfold cl_st
  show SI true (am_up N 19 13 (nI o)) ∧ bs_ok (am_up N 19 13 (nI o)) ∧ mO (am_up N 19 13 (nI o)) = o ∧ ∃ m, w = nI m ∧ dt_ok (am_up N 19 13 (nI o)) m
  generalize am_up N 19 13 (nI o) = P at f13 f5 f11 fo ⊢
  have eN : mN P = n' := by unfold mN; rw [f5]; exact nI_clamp (by omega)
  have eD : mD P = mD M := by unfold mD; rw [f11]
  have eO : mO P = o := by unfold mO; rw [f13]; exact nI_clamp (by omega)
  refine ⟨?_, ⟨⟨by rw [eN, f5], by rw [eN]; exact hn⟩, ⟨by rw [eD, f11]; exact hb.2.1.1, by rw [eD]; exact hb.2.1.2⟩, ⟨by rw [eO, f13], by rw [eO]; omega⟩⟩, eO, m, hw, ?_⟩
  · unfold SI
    rw [eN, eD, eO, fo 21 (by decide), fo 22 (by decide), fo 24 (by decide), fo 25 (by decide), fo 27 (by decide), fo 28 (by decide), fo 29 (by decide), e28]
    exact hS
  · refine ⟨by rw [eN]; exact hm, fun z => ?_, fun z => ?_⟩
    · rw [eD]; exact h0 (by omega)
    · rw [eO, fo 28 (by decide), e28]; exact h1 (by omega)
theorem C_cl {M : aM} {o : Nat} (h : SI false M) (hb : bs_ok M) (hp : ¬ M 19 3 < 0) (ho : mO M = o + 1) (hno : cl_no M = false) (hcf : (m_clN M).2 19 4 < 0) : cl_st M (m_clN M) o := by
  have ho1 : mO M - 1 = o := by omega
  have h200 := hb.1.2
  have n4 : ¬ M 29 o = 4 ∧ ¬ M 29 o = 2 := by
    unfold cl_no at hno
    rw [ho1] at hno
    simp only [Bool.or_eq_false_iff, decide_eq_false_iff_not] at hno
    exact ⟨hno.1.2, hno.2⟩
  unfold SI at h
  rw [ho] at h
  have hl : 0 < o → cl (M 28 (o - 1)) < mN M := fun z => (h.2.1.low (k := o - 1) (by omega)).2.2.2.2.1
  unfold m_clN at hcf ⊢
  rw [ho1] at hcf ⊢
  rcases h.2.1 o (by omega) with ⟨a, -, -⟩ | ⟨a, hN⟩
  · have lt : M 29 o < 2 := by rw [a]; decide
    rw [if_pos lt, if_pos a] at hcf ⊢
    obtain ⟨hn, -⟩ := nd_4 hp hcf
    have q := S_cl0 h a (by omega)
    rw [nd_s hn]
    obtain ⟨n1, n2, n3, n4, n5, n6, n7⟩ := new_c M 5
    refine cl_mk (n' := mN M + 1) (m := mN M) hb ho (by omega) n3 (n2 11 (by decide)) (n1 28 (by decide) (by decide) (by decide) (by decide) (by decide)) rfl ?_ (by omega) (fun _ => h.2.2.1) hl
    rw [n4, n5, n6, n7, n1 27 (by decide) (by decide) (by decide) (by decide) (by decide), n1 29 (by decide) (by decide) (by decide) (by decide) (by decide)]
    exact q
  · obtain ⟨f1, f2, f3, f4, f5, f6⟩ := hN
    rcases a with a | a | a | ⟨a, -, -⟩
    · have lt : M 29 o < 2 := by rw [a]; decide
      have ne : ¬ M 29 o = 0 := by rw [a]; decide
      rw [if_pos lt, if_neg ne] at hcf ⊢
      have hcf2 : (m_nd M 5).2 19 4 < 0 := by
        have e : am_up (m_nd M 5).2 25 (cl (M 28 o)) (m_nd M 5).1 19 4 = (m_nd M 5).2 19 4 := by rw [am_up_ne (by decide)]
        rw [← e]
        exact hcf
      obtain ⟨hn, -⟩ := nd_4 hp hcf2
      have q := S_cl1 h a (by omega)
      rw [nd_s hn]
      obtain ⟨n1, n2, n3, n4, n5, n6, n7⟩ := new_c M 5
      have g : ∀ i, ¬ i = 25 → am_up (m_new M 5) 25 (cl (M 28 o)) (nI (mN M)) i = m_new M 5 i := fun i hi => by rw [am_up_ne hi]
      have g25 : am_up (m_new M 5) 25 (cl (M 28 o)) (nI (mN M)) 25 = upd (m_new M 5 25) (cl (M 28 o)) (nI (mN M)) := by simp only [am_up_i, ↓reduceIte]
      refine cl_mk (n' := mN M + 1) (m := cl (M 27 o)) hb ho (by omega) (by rw [g 19 (by decide)]; exact n3) (by rw [g 19 (by decide)]; exact n2 11 (by decide)) (by rw [g 28 (by decide)]; exact n1 28 (by decide) (by decide) (by decide) (by decide) (by decide)) f1 ?_ (by omega) f5 f6
      rw [g 21 (by decide), g 22 (by decide), g 24 (by decide), g 27 (by decide), g 29 (by decide), g25, n4, n5, n6, n7, n1 27 (by decide) (by decide) (by decide) (by decide) (by decide), n1 29 (by decide) (by decide) (by decide) (by decide) (by decide)]
      exact q
    · exact absurd a n4.2
    · exact absurd a n4.1
    · have lt : ¬ M 29 o < 2 := by rw [a]; decide
      rw [if_neg lt]
      exact cl_mk (n' := mN M) (m := cl (M 27 o)) hb ho (by omega) hb.1.1 rfl rfl f1 (S_cl3 h a) (by omega) f5 f6
theorem T_closeP {M : aM} (h : SI false M) (hb : bs_ok M) (hp : ¬ M 19 3 < 0) : cl_no M = false → (m_clN M).2 19 4 < 0 → en_ok (am_up (m_clN M).2 19 13 (nI (mO M - 1))) := by
  intro h1 h2
  have c0 : ¬ mO M = 0 := fun c => by
    unfold cl_no at h1
    rw [decide_eq_true c] at h1
    simp at h1
  obtain ⟨o, ho⟩ : ∃ o, mO M = o + 1 := ⟨mO M - 1, by omega⟩
  obtain ⟨a, b, -, m, -, d⟩ := C_cl h hb hp ho h1 h2
  rw [show mO M - 1 = o by omega]
  exact T_en a b d
theorem T_close {M : aM} (h : SI false M) (hb : bs_ok M) (hp : ¬ M 19 3 < 0) : 0 ≤ m_close M 19 4 ∨ (SI false (m_close M) ∧ bs_ok (m_close M)) := by
  unfold m_close
  by_cases c : cl_no M = true
  · rw [if_pos c]
    exact Or.inl (Int32.not_lt.mp (failM_ge hp))
  rw [if_neg c]
  have h1 : cl_no M = false := Bool.eq_false_iff.mpr c
  by_cases cf : (m_clN M).2 19 4 < 0
  · rw [if_pos cf]
    have c0 : ¬ mO M = 0 := fun c => by
      unfold cl_no at h1
      rw [decide_eq_true c] at h1
      simp at h1
    obtain ⟨o, ho⟩ : ∃ o, mO M = o + 1 := ⟨mO M - 1, by omega⟩
    obtain ⟨a, b, e, m, w, d⟩ := C_cl h hb hp ho h1 cf
    have f4 : am_up (m_clN M).2 19 13 (nI o) 19 4 = (m_clN M).2 19 4 := by simp only [am_up_ap, ↓reduceIte, Nat.reduceEqDiff]
    have f3 : am_up (m_clN M).2 19 13 (nI o) 19 3 = M 19 3 := by
      simp only [am_up_ap, ↓reduceIte, Nat.reduceEqDiff]
      exact (frm_clN M).2 3 (Or.inr (Or.inr (Or.inl rfl)))
    rw [show mO M - 1 = o by omega, w]
    exact T_end (mO M) _ m (by omega) a b (by rw [f4]; exact cf) (by rw [f3]; exact hp) d
  · rw [if_neg cf]
    exact Or.inl (Int32.not_lt.mp cf)
theorem m_end_f {M : aM} {f : Nat} {n : Int32} (h : 0 ≤ M 19 4) : m_end (f + 1) n M = M := by
  rw [m_end, if_pos h]
theorem T_dat {M : aM} {k : Int32} (h : SI false M) (hb : bs_ok M) (ht : mt_ok M) (hpl : pl_ok M) (hk : at_kd M k) (h4 : M 19 4 < 0) : d_pre M k ∧ (0 ≤ m_dat M k 19 4 ∨ (SI false (m_dat M k) ∧ bs_ok (m_dat M k))) := by
  obtain ⟨p1, p2, p3, p4⟩ := hpl
  have h400 := ht.2
  have hp : ¬ M 19 3 < 0 := by rw [p1]; exact nI_pos (by omega)
  have hB := frm_beg M
  unfold d_pre m_dat
  by_cases cf : m_beg M 19 4 < 0
  · obtain ⟨g1, g2, g3, g4, -⟩ := T_beg h hb hp cf
    rw [if_pos cf]
    generalize m_beg M = B at cf g1 g2 g3 g4 hB ⊢
    have b1 := hB.2 1 (Or.inl rfl)
    have b2 := hB.2 2 (Or.inr (Or.inl rfl))
    have b3 := hB.2 3 (Or.inr (Or.inr (Or.inl rfl)))
    have b20 := hB.1 20 (Or.inr (Or.inl rfl))
    have eT : m_tl B = m_tl M := by unfold m_tl; rw [b1]
    have eP : m_pl B = m_pl M := by unfold m_pl; rw [b3]
    have eE : m_e B = m_e M := by unfold m_e; rw [b2]
    have htB : mt_ok B := ⟨by rw [eT, b1]; exact ht.1, by rw [eT]; exact ht.2⟩
    have hplB : pl_ok B := ⟨by rw [eP, b3]; exact p1, by rw [eE, b2]; exact p2, by rw [eP, eE]; exact p3, by rw [eE, eT]; exact p4⟩
    have hkB : at_kd B k := by
      unfold at_kd
      rw [eE, eP, eT, b20]
      exact hk
    have hpB : ¬ B 19 3 < 0 := by rw [b3]; exact hp
    by_cases c2 : mN B = 200
    · have ea : m_atom B k = (0, failM B (B 19 3)) := by unfold m_atom; rw [if_pos c2]
      rw [ea]
      have z : 0 ≤ failM B (B 19 3) 19 4 := Int32.not_lt.mp (failM_ge hpB)
      have eO : mO (failM B (B 19 3)) = mO B := by
        unfold mO failM
        simp only [am_up_ap, ↓reduceIte, Nat.reduceEqDiff]
      refine ⟨fun _ => ⟨⟨g2.1, htB, hplB, hkB⟩, Or.inl z, by rw [eO]; exact g3⟩, ?_⟩
      left
      rw [m_end_f z]
      exact z
    · have ea : m_atom B k = (nI (mN B), m_atmM B k) := by unfold m_atom; rw [if_neg c2]
      rw [ea]
      obtain ⟨t1, t2, t3, t4, t5, t6, t7⟩ := T_atom g1 g2 c2 hkB (by rw [eE]; omega)
      have t8 : m_atmM B k 19 3 = B 19 3 := by
        have := (frm_atom B k).2 3 (Or.inr (Or.inr (Or.inl rfl)))
        rw [ea] at this
        exact this
      have hla : 0 < mO B → cl (B 28 (mO B - 1)) < mN B := fun z => (g1.2.1.all (k := mO B - 1) (by omega)).2.2.2.2.1
      have hdn := g1.2.2.1
      generalize m_atmM B k = N at t1 t2 t3 t4 t5 t6 t7 t8 ⊢
      have hdt : dt_ok N (mN B) := ⟨by omega, fun _ => by rw [t5]; exact hdn, fun z => by rw [t4] at z ⊢; rw [t6]; exact hla z⟩
      refine ⟨fun _ => ⟨⟨g2.1, htB, hplB, hkB⟩, Or.inr (T_en t1 t2 hdt), by show mO N = mO M; omega⟩, ?_⟩
      exact T_end (mO M + 1) N (mN B) (by omega) t1 t2 (by rw [t7]; exact cf) (by rw [t8]; exact hpB) hdt
  · rw [if_neg cf]
    exact ⟨fun z => absurd z cf, Or.inl (Int32.not_lt.mp cf)⟩
