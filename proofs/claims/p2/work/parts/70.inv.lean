/-! READING KEEPS ITS STATE -/
def SI (bg : Bool) (M : aM) : Prop := SIr bg (mN M) (mD M) (mO M) (M 21) (M 22) (M 24) (M 25) (M 27) (M 28) (M 29)
def bs_ok (M : aM) : Prop := mc_ok M ∧ md_ok M ∧ op_ok M
def frm (M N : aM) : Prop := (∀ i, i < 19 ∨ i = 20 ∨ 30 ≤ i → N i = M i) ∧ (∀ j, j = 1 ∨ j = 2 ∨ j = 3 ∨ j = 18 → N 19 j = M 19 j)
theorem frm.rf (M : aM) : frm M M := ⟨fun _ _ => rfl, fun _ _ => rfl⟩
theorem frm.tr {M N P : aM} (h1 : frm M N) (h2 : frm N P) : frm M P := ⟨fun i hi => (h2.1 i hi).trans (h1.1 i hi), fun j hj => (h2.2 j hj).trans (h1.2 j hj)⟩
theorem frm.up {M N : aM} (h : frm M N) {c j : Nat} {x : Int32} (hc : 21 ≤ c ∧ c ≤ 29) : frm M (am_up N c j x) := by
  refine ⟨fun i hi => ?_, fun k hk => ?_⟩
  · rw [am_up_ne (by omega)]; exact h.1 i hi
  · rw [am_up_ne (by omega)]; exact h.2 k hk
theorem frm.u9 {M N : aM} (h : frm M N) {j : Nat} {x : Int32} (hj : j = 4 ∨ j = 5 ∨ j = 11 ∨ j = 13) : frm M (am_up N 19 j x) := by
  refine ⟨fun i hi => ?_, fun k hk => ?_⟩
  · rw [am_up_ne (by omega)]; exact h.1 i hi
  · rw [am_up_ap, if_pos rfl, if_neg (by omega)]; exact h.2 k hk
theorem frm_fail (M : aM) (w : Int32) : frm M (failM M w) := (frm.rf M).u9 (Or.inl rfl)
theorem frm_new (M : aM) (k : Int32) : frm M (m_new M k) := (((((frm.rf M).up (by decide)).up (by decide)).up (by decide)).up (by decide)).u9 (Or.inr (Or.inl rfl))
theorem frm_nd (M : aM) (k : Int32) : frm M (m_nd M k).2 := by
  unfold m_nd
  split
  · exact frm_fail M _
  · exact frm_new M k
theorem frm_beg (M : aM) : frm M (m_beg M) := by
  unfold m_beg
  split
  · exact frm.rf M
  split
  · exact frm_fail M _
  split
  · have h := frm_nd M 4
    unfold m_begP
    split
    · exact ((h.up (by decide)).up (by decide)).up (by decide)
    · exact ((h.up (by decide)).up (by decide)).up (by decide)
  · exact frm.rf M
theorem frm_let (M : aM) (x : Nat) (c : Int32) : frm M (m_let M x c) := ((frm.rf M).up (by decide)).up (by decide)
theorem frm_A2 (t : Nat → Int32) (x : Nat) : ∀ (f k : Nat) (M : aM), frm M (mA2 t x f k M)
  | 0, _, M => frm.rf M
  | f + 1, k, M => (frm_let M x _).tr (frm_A2 t x f _ _)
theorem frm_A3 (t : Nat → Int32) (N x : Nat) : ∀ (c i : Nat) (M : aM), frm M (mA3 t N x c i M)
  | 0, _, M => frm.rf M
  | c + 1, i, M => by
    unfold mA3
    split
    · exact frm.rf M
    split
    · exact (frm_let M x _).tr (frm_A3 t N x c _ _)
    · exact (frm_let M x _).tr (frm_A3 t N x c _ _)
theorem frm_atom (M : aM) (k : Int32) : frm M (m_atom M k).2 := by
  unfold m_atom
  split
  · exact frm_fail M _
  · show frm M (m_atmM M k)
    unfold m_atmM
    split
    · exact (frm_new M k).up (by decide)
    split
    · exact (frm_new M k).tr (frm_A2 _ _ _ _ _)
    · exact (frm_new M k).tr (frm_A3 _ _ _ _ _ _)
theorem frm_endQ (M : aM) (n : Int32) : frm M (m_endQ M n) := (((((frm.rf M).up (by decide)).tr (frm_nd _ 5)).up (by decide)).u9 (Or.inr (Or.inr (Or.inr rfl))))
theorem frm_end : ∀ (f : Nat) (n : Int32) (M : aM), frm M (m_end f n M)
  | 0, _, M => frm.rf M
  | f + 1, n, M => by
    unfold m_end
    split
    · exact frm.rf M
    split
    · exact ((frm.rf M).up (by decide)).u9 (Or.inr (Or.inr (Or.inl rfl)))
    split
    · exact (frm_endQ M n).tr (frm_end f _ _)
    split
    · exact ((frm.rf M).up (by decide)).up (by decide)
    · exact (frm.rf M).up (by decide)
theorem frm_qL (x : Nat) : ∀ (f k : Nat) (M : aM), frm M (mqL x f k M)
  | 0, _, M => frm.rf M
  | f + 1, k, M => (frm_let M x _).tr (frm_qL x f _ _)
theorem frm_q3 (M : aM) : frm M (m_q3 M) := ((frm_nd M 4).tr (frm_nd _ 2)).tr (frm_nd _ 4)
theorem frm_opA (M : aM) : frm M (m_opA M) := by
  unfold m_opA
  split
  · exact (frm_beg M).tr (frm_fail _ _)
  · exact frm_beg M
theorem frm_opP (q : Bool) (o : Nat) (M : aM) : frm M (m_opP q o M) := ((frm.rf M).up (by decide)).u9 (Or.inr (Or.inr (Or.inr rfl)))
theorem frm_opL (x o : Nat) (M : aM) : frm M (m_opL x o M) := ((((frm.rf M).up (by decide)).up (by decide)).up (by decide)).up (by decide)
theorem frm_open (q : Bool) (M : aM) : frm M (m_open q M) := by
  have hA := frm_opA M
  unfold m_open
  generalize m_opA M = A at hA ⊢
  split
  · split
    · refine (hA.tr (frm_opP true (mO M) A)).tr ?_
      generalize m_opP true (mO M) A = B
      unfold m_opQ
      split
      · exact ((frm_q3 B).tr (frm_qL _ _ _ _)).tr (frm_opL _ _ _)
      · exact frm_q3 B
    · exact hA.tr (frm_opP _ _ _)
  · exact hA
theorem frm_clN (M : aM) : frm M (m_clN M).2 := by
  unfold m_clN
  split
  · split
    · exact frm_nd M 5
    · exact (frm_nd M 5).up (by decide)
  · exact frm.rf M
theorem frm_close (M : aM) : frm M (m_close M) := by
  have h := frm_clN M
  unfold m_close
  generalize m_clN M = p at h ⊢
  split
  · exact frm_fail M _
  split
  · exact (h.u9 (Or.inr (Or.inr (Or.inr rfl)))).tr (frm_end _ _ _)
  · exact h
theorem frm_dat (M : aM) (k : Int32) : frm M (m_dat M k) := by
  have h := frm_beg M
  unfold m_dat
  generalize m_beg M = B at h ⊢
  split
  · exact (h.tr (frm_atom B k)).tr (frm_end _ _ _)
  · exact h
theorem frm_pt (M : aM) : frm M (m_pt M) := by
  unfold m_pt
  split
  · exact frm_fail M _
  split
  · exact (frm.rf M).up (by decide)
  · exact frm_fail M _
theorem frm_act (M : aM) (k : Int32) : frm M (m_act M k) := by
  unfold m_act
  split
  · exact frm_open false M
  split
  · exact frm_open true M
  split
  · exact frm_close M
  split
  · exact frm_pt M
  · exact frm_dat M k
theorem failM_ge {M : aM} {w : Int32} (hw : ¬ w < 0) : ¬ failM M w 19 4 < 0 := by
  unfold failM
  simp only [am_up_ap, ↓reduceIte]
  by_cases c : 0 ≤ M 19 4
  · rw [if_pos c]; exact Int32.not_lt.mpr c
  · rw [if_neg c]; exact hw
theorem bs_new {M : aM} {k : Int32} (h : bs_ok M) (hn : ¬ mN M = 200) : bs_ok (m_new M k) := by
  have := mc_nd (k := k) h.1
  rw [nd_s hn] at this
  exact ⟨this, h.2.1, h.2.2⟩
theorem T_beg {M : aM} (h : SI false M) (hb : bs_ok M) (hp : ¬ M 19 3 < 0) (hf : m_beg M 19 4 < 0) : SI true (m_beg M) ∧ bs_ok (m_beg M) ∧ mO (m_beg M) = mO M ∧ mD (m_beg M) = mD M ∧ M 19 4 < 0 := by
  unfold m_beg at hf ⊢
  by_cases c0 : mO M = 0
  · rw [if_pos c0] at hf ⊢
    refine ⟨?_, hb, rfl, rfl, hf⟩
    unfold SI at h ⊢
    rw [c0] at h ⊢
    exact S_beg00 h
  rw [if_neg c0] at hf ⊢
  obtain ⟨o, ho⟩ : ∃ o, mO M = o + 1 := ⟨mO M - 1, by omega⟩
  have ho1 : mO M - 1 = o := by omega
  rw [ho1] at hf ⊢
  unfold SI at h
  rw [ho] at h
  by_cases c3 : M 29 o = 3
  · rw [if_pos c3] at hf
    exact absurd hf (failM_ge hp)
  rw [if_neg c3] at hf ⊢
  have hst : M 29 o = 0 ∨ M 29 o = 1 ∨ M 29 o = 2 ∨ M 29 o = 4 := by
    rcases h.2.1 o (by omega) with ⟨a, -, -⟩ | ⟨a, -⟩
    · exact Or.inl a
    · rcases a with a | a | a | ⟨a, -, -⟩
      · exact Or.inr (Or.inl a)
      · exact Or.inr (Or.inr (Or.inl a))
      · exact Or.inr (Or.inr (Or.inr a))
      · exact absurd a c3
  by_cases c2 : M 29 o < 2
  · rw [if_pos c2] at hf ⊢
    have hnf : (m_nd M 4).2 19 4 < 0 := by
      unfold m_begP at hf
      split at hf
      · exact hf
      · exact hf
    obtain ⟨hn, hM4⟩ := nd_4 hp hnf
    have hn2 : mN M < 200 := by have := hb.1.2; omega
    rw [nd_s hn]
    have eN := mN_new (k := 4) hb.1
    unfold m_begP
    have hbn := bs_new (k := 4) hb hn
    by_cases c5 : M 29 o = 0
    · rw [if_pos c5]
      refine ⟨?_, hbn, rfl, rfl, hM4⟩
      have q := S_beg0 h c5 hn2
      show SIr true (mN (m_new M 4)) (mD M) (mO M) _ _ _ _ _ _ _
      rw [eN, ho]
      exact q
    · rw [if_neg c5]
      have c6 : M 29 o = 1 := by
        rcases hst with q | q | q | q
        · exact absurd q c5
        · exact q
        · rw [q] at c2; exact absurd c2 (by decide)
        · rw [q] at c2; exact absurd c2 (by decide)
      refine ⟨?_, hbn, rfl, rfl, hM4⟩
      have q := S_beg1 h c6 hn2
      show SIr true (mN (m_new M 4)) (mD M) (mO M) _ _ _ _ _ _ _
      rw [eN, ho]
      exact q
  · rw [if_neg c2] at hf ⊢
    refine ⟨?_, hb, rfl, rfl, hf⟩
    unfold SI
    rw [ho]
    refine S_begK h ?_
    rcases hst with q | q | q | q
    · rw [q] at c2; exact absurd (by decide) c2
    · rw [q] at c2; exact absurd (by decide) c2
    · exact Or.inl q
    · exact Or.inr q
