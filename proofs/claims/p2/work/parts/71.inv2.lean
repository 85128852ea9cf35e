/-! READING KEEPS ITS STATE: data, ends, brackets -/
theorem A2_22 (t : Nat → Int32) (x : Nat) : ∀ (f k v : Nat) (M : aM), M 22 x = nI v → v + f ≤ 20 → (∀ i, ¬ i = 22 → ¬ i = 23 → mA2 t x f k M i = M i) ∧ (∀ y, ¬ y = x → mA2 t x f k M 22 y = M 22 y) ∧ mA2 t x f k M 22 x = nI (v + f)
  | 0, _, v, M, hv, _ => ⟨fun _ _ _ => rfl, fun _ _ => rfl, hv⟩
  | f + 1, k, v, M, hv, hf => by
    have hv2 : m_let M x (t k) 22 x = nI (v + 1) := by rw [m_let_22, hv, show cl (nI v) = v from nI_clamp (by omega)]
    obtain ⟨a, b, c⟩ := A2_22 t x f (k + 1) (v + 1) (m_let M x (t k)) hv2 (by omega)
    unfold mA2
    refine ⟨fun i h1 h2 => ?_, fun y hy => ?_, ?_⟩
    · rw [a i h1 h2]
      unfold m_let
      rw [am_up_ne h1, am_up_ne h2]
    · rw [b y hy]
      unfold m_let
      simp only [am_up_ap, ↓reduceIte, hy, Nat.reduceEqDiff]
    · rw [c]
      congr 1
      omega
theorem A3_22 (t : Nat → Int32) (N x : Nat) : ∀ (c i v : Nat) (M : aM), M 22 x = nI v → v + c ≤ 21 → (∀ a, ¬ a = 22 → ¬ a = 23 → mA3 t N x c i M a = M a) ∧ (∀ y, ¬ y = x → mA3 t N x c i M 22 y = M 22 y) ∧ ∃ w, w ≤ v + c ∧ mA3 t N x c i M 22 x = nI w
  | 0, _, v, M, hv, _ => ⟨fun _ _ _ => rfl, fun _ _ => rfl, v, by omega, hv⟩
  | c + 1, i, v, M, hv, hc => by
    have hv2 : ∀ z, m_let M x z 22 x = nI (v + 1) := fun z => by rw [m_let_22, hv, show cl (nI v) = v from nI_clamp (by omega)]
    have hl1 : ∀ z a, ¬ a = 22 → ¬ a = 23 → m_let M x z a = M a := fun z a h1 h2 => by unfold m_let; rw [am_up_ne h1, am_up_ne h2]
    have hl2 : ∀ z y, ¬ y = x → m_let M x z 22 y = M 22 y := fun z y hy => by
      unfold m_let
      simp only [am_up_ap, ↓reduceIte, hy, Nat.reduceEqDiff]
    unfold mA3
    split
    · exact ⟨fun _ _ _ => rfl, fun _ _ => rfl, v, by omega, hv⟩
    split
    · obtain ⟨p, q, w, r, s⟩ := A3_22 t N x c (i + 2) (v + 1) (m_let M x (t (i + 1))) (hv2 _) (by omega)
      exact ⟨fun a h1 h2 => (p a h1 h2).trans (hl1 _ a h1 h2), fun y hy => (q y hy).trans (hl2 _ y hy), w, by omega, s⟩
    · obtain ⟨p, q, w, r, s⟩ := A3_22 t N x c (i + 1) (v + 1) (m_let M x (t i)) (hv2 _) (by omega)
      exact ⟨fun a h1 h2 => (p a h1 h2).trans (hl1 _ a h1 h2), fun y hy => (q y hy).trans (hl2 _ y hy), w, by omega, s⟩
theorem A3_20 (t : Nat → Int32) (N x e : Nat) (he : e < 2 ^ 31) : ∀ (c i v : Nat) (M : aM), M 22 x = nI v → v + c = 20 → stE t N (c + 1) i = nI e → ∃ w, w ≤ 20 ∧ mA3 t N x (c + 1) i M 22 x = nI w := by
  have hne : ¬ (-1 : Int32) = nI e := fun q => nI_ne he q.symm
  intro c
  induction c with
  | zero =>
    intro i v M hv hc h
    by_cases c1 : bt t N i = 34
    · rw [mA3, if_pos c1]
      exact ⟨v, by omega, hv⟩
    · exfalso
      rw [stE, if_neg c1] at h
      (repeat' split at h) <;> exact hne h
  | succ c ih =>
    intro i v M hv hc h
    have hv2 : ∀ z, m_let M x z 22 x = nI (v + 1) := fun z => by rw [m_let_22, hv, show cl (nI v) = v from nI_clamp (by omega)]
    rw [stE] at h
    by_cases c1 : bt t N i = 34
    · rw [mA3, if_pos c1]
      exact ⟨v, by omega, hv⟩
    rw [if_neg c1] at h
    rw [mA3, if_neg c1]
    by_cases c2 : bt t N i = 92
    · rw [if_pos c2] at h ⊢
      have h2 : stE t N (c + 1) (i + 2) = nI e := by
        by_cases c3 : bt t N (i + 1) = 34
        · rw [if_pos c3] at h; exact h
        rw [if_neg c3] at h
        by_cases c4 : bt t N (i + 1) = 92
        · rw [if_pos c4] at h; exact h
        · rw [if_neg c4] at h; exact absurd h hne
      exact ih (i + 2) (v + 1) _ (hv2 _) (by omega) h2
    · rw [if_neg c2] at h ⊢
      have h2 : stE t N (c + 1) (i + 1) = nI e := by
        by_cases c5 : bt t N i < 32
        · rw [if_pos c5] at h; exact absurd h hne
        rw [if_neg c5] at h
        by_cases c6 : 126 < bt t N i
        · rw [if_pos c6] at h; exact absurd h hne
        · rw [if_neg c6] at h; exact h
      exact ih (i + 1) (v + 1) _ (hv2 _) (by omega) h2
theorem T_atom {M : aM} {k : Int32} (h : SI true M) (hb : bs_ok M) (hn : ¬ mN M = 200) (hk : at_kd M k) (h400 : m_e M ≤ 400) : SI true (m_atmM M k) ∧ bs_ok (m_atmM M k) ∧ mN (m_atmM M k) = mN M + 1 ∧ mO (m_atmM M k) = mO M ∧ mD (m_atmM M k) = mD M ∧ m_atmM M k 28 = M 28 ∧ m_atmM M k 19 4 = M 19 4 := by
  have hn2 : mN M < 200 := by have := hb.1.2; omega
  have eN := mN_new (k := k) hb.1
  have hbn := bs_new (k := k) hb hn
  have n22 : m_new M k 22 (mN M) = nI 0 := by
    unfold m_new
    simp only [am_up_ap, ↓reduceIte, Nat.reduceEqDiff]
    rfl
  have nvl : ∀ y, ¬ y = mN M → m_new M k 22 y = M 22 y := fun y hy => by
    unfold m_new
    simp only [am_up_ap, ↓reduceIte, Nat.reduceEqDiff, hy]
  -- any memory that differs from the new one in 22 at the node, and in 23
  have key : ∀ N : aM, (∀ i, ¬ i = 22 → ¬ i = 23 → N i = m_new M k i) → (∀ y, ¬ y = mN M → N 22 y = m_new M k 22 y) → (k = 2 ∨ k = 3 → ∃ v, v ≤ 20 ∧ N 22 (mN M) = nI v) → K5 k → ¬ k = 4 → SI true N ∧ bs_ok N ∧ mN N = mN M + 1 ∧ mO N = mO M ∧ mD N = mD M ∧ N 28 = M 28 ∧ N 19 4 = M 19 4 := by
    intro N h1 h2 h3 h4 h5
    have e19 : N 19 = m_new M k 19 := h1 19 (by decide) (by decide)
    have eN2 : mN N = mN M + 1 := by unfold mN; rw [e19]; exact eN
    have eO : mO N = mO M := by unfold mO; rw [e19]; rfl
    have eD : mD N = mD M := by unfold mD; rw [e19]; rfl
    refine ⟨?_, ?_, eN2, eO, eD, by rw [h1 28 (by decide) (by decide)]; rfl, by rw [e19]; rfl⟩
    · unfold SI at h ⊢
      rw [eN2, eO, eD, h1 21 (by decide) (by decide), h1 24 (by decide) (by decide), h1 25 (by decide) (by decide), h1 27 (by decide) (by decide), h1 28 (by decide) (by decide), h1 29 (by decide) (by decide)]
      exact S_new h h4 h5 h3 (fun x hx => by rw [h2 x (by omega), nvl x (by omega)]) hn2
    · unfold bs_ok mc_ok md_ok op_ok mN mD mO at hbn ⊢
      rw [e19]
      exact hbn
  unfold m_atmM
  rcases hk with hk | ⟨hk, hk2⟩ | ⟨hk, hk2⟩
  · subst hk
    rw [if_pos rfl]
    refine key _ (fun i h1 h2 => by rw [am_up_ne h1]) (fun y hy => by simp only [am_up_ap, hy, ↓reduceIte]) (fun z => by rcases z with z | z <;> exact absurd z (by decide)) (Or.inl rfl) (by decide)
  · subst hk
    rw [if_neg (by decide), if_pos rfl]
    obtain ⟨a, b, c⟩ := A2_22 (M 20) (mN M) (m_e M - m_pl M) (m_pl M) 0 (m_new M 2) n22 (by omega)
    exact key _ a b (fun _ => ⟨_, by omega, c⟩) (Or.inr (Or.inl rfl)) (by decide)
  · subst hk
    rw [if_neg (by decide), if_neg (by decide)]
    obtain ⟨a, b, -⟩ := A3_22 (M 20) (m_tl M) (mN M) 21 (m_pl M + 1) 0 (m_new M 3) n22 (by omega)
    exact key _ a b (fun _ => A3_20 (M 20) (m_tl M) (mN M) (m_e M) (by omega) 20 (m_pl M + 1) 0 (m_new M 3) n22 rfl hk2) (Or.inr (Or.inr (Or.inl rfl))) (by decide)
/-- a datum that may end -/
def dt_ok (M : aM) (m : Nat) : Prop := m < mN M ∧ (mO M = 0 → mD M ≤ m) ∧ (0 < mO M → cl (M 28 (mO M - 1)) < m)
theorem T_en {M : aM} {m : Nat} (h : SI true M) (hb : bs_ok M) (hm : dt_ok M m) : en_ok M := by
  have h200 := hb.1.2
  refine ⟨hb.1, hb.2.2, fun o ho => ?_, hb.2.1, ?_⟩
  · have := (h.2.1.all ho).2
    rw [this.2.1]
    exact vp_in_nI (by have := this.2.2.2.1; omega) (by decide)
  · by_cases c : mO M = 0
    · have := hm.2.1 c
      have := hm.1
      omega
    · have q := (h.2.1.all (k := 0) (by omega)).2
      have a1 := q.2.2.2.2.1 rfl
      have a2 := q.2.2.1
      have a3 := q.2.2.2.1
      omega
theorem E_0 {M : aM} {m : Nat} (h : SI true M) (hb : bs_ok M) (hd2 : mD M < 200) (c1 : mO M = 0) (hq : mD M ≤ m) (hq2 : m < mN M) : SI false (am_up (am_up M 26 (mD M) (nI m)) 19 11 (nI (mD M + 1))) ∧ bs_ok (am_up (am_up M 26 (mD M) (nI m)) 19 11 (nI (mD M + 1))) := by
  have e11 : am_up (am_up M 26 (mD M) (nI m)) 19 11 (nI (mD M + 1)) 19 11 = nI (mD M + 1) := by simp only [am_up_ap, ↓reduceIte]
  have e5 : am_up (am_up M 26 (mD M) (nI m)) 19 11 (nI (mD M + 1)) 19 5 = M 19 5 := by simp only [am_up_ap, ↓reduceIte, Nat.reduceEqDiff]
  have e13 : am_up (am_up M 26 (mD M) (nI m)) 19 11 (nI (mD M + 1)) 19 13 = M 19 13 := by simp only [am_up_ap, ↓reduceIte, Nat.reduceEqDiff]
  have eo : ∀ i, ¬ i = 19 → ¬ i = 26 → am_up (am_up M 26 (mD M) (nI m)) 19 11 (nI (mD M + 1)) i = M i := fun i h1 h2 => by rw [am_up_ne h1, am_up_ne h2]
  generalize am_up (am_up M 26 (mD M) (nI m)) 19 11 (nI (mD M + 1)) = N at e11 e5 e13 eo ⊢
  have eD : mD N = mD M + 1 := by unfold mD; rw [e11]; exact nI_clamp (by have : mD M = cl (M 19 11) := rfl; omega)
  have eN : mN N = mN M := by unfold mN; rw [e5]
  have eO : mO N = mO M := by unfold mO; rw [e13]
  refine ⟨?_, ⟨by rw [eN, e5]; exact hb.1.1, by rw [eN]; exact hb.1.2⟩, ⟨by rw [eD, e11], by rw [eD]; omega⟩, ⟨by rw [eO, e13]; exact hb.2.2.1, by rw [eO]; exact hb.2.2.2⟩⟩
  unfold SI at h ⊢
  rw [eN, eD, eO, eo 21 (by decide) (by decide), eo 22 (by decide) (by decide), eo 24 (by decide) (by decide), eo 25 (by decide) (by decide), eo 27 (by decide) (by decide), eo 28 (by decide) (by decide), eo 29 (by decide) (by decide), c1]
  rw [c1] at h
  exact S_data h (by omega)
theorem endQ_eq {M : aM} {m o : Nat} (ho1 : mO M - 1 = o) (hn : ¬ mN M = 200) : m_endQ M (nI m) = am_up (am_up (m_new (am_up M 24 (cl (M 28 o)) (nI m)) 5) 25 (cl (M 28 o)) (nI (mN M))) 19 13 (nI o) := by
  have e : mN (am_up M 24 (cl (M 28 o)) (nI m)) = mN M := by unfold mN; rw [am_up_ne (by decide)]
  unfold m_endQ
  rw [ho1, nd_s (by rw [e]; exact hn), e]
theorem E_4 {M : aM} {m o : Nat} (h : SIr true (mN M) (mD M) (o + 1) (M 21) (M 22) (M 24) (M 25) (M 27) (M 28) (M 29)) (hb : bs_ok M) (ho : mO M = o + 1) (hn : ¬ mN M = 200) (c4 : M 29 o = 4) (hml : cl (M 28 o) < m) (hmn : m < mN M) : SI true (m_endQ M (nI m)) ∧ bs_ok (m_endQ M (nI m)) ∧ mO (m_endQ M (nI m)) = o ∧ mN (m_endQ M (nI m)) = mN M + 1 ∧ mD (m_endQ M (nI m)) = mD M ∧ m_endQ M (nI m) 28 = M 28 := by
  have h200 := hb.1.2
  have h15 := hb.2.2.2
  have q := S_end4 h c4 hml hmn (by omega)
  have e := endQ_eq (M := M) (m := m) (o := o) (by omega) hn
  have eM : mN (am_up M 24 (cl (M 28 o)) (nI m)) = mN M := by unfold mN; rw [am_up_ne (by decide)]
  have e5 : m_endQ M (nI m) 19 5 = nI (mN M + 1) := by rw [e]; unfold m_new; simp only [am_up_ap, ↓reduceIte, Nat.reduceEqDiff]; rw [eM]
  have e13 : m_endQ M (nI m) 19 13 = nI o := by rw [e]; simp only [am_up_ap, ↓reduceIte]
  have e11 : m_endQ M (nI m) 19 11 = M 19 11 := by rw [e]; unfold m_new; simp only [am_up_ap, ↓reduceIte, Nat.reduceEqDiff]
  have ei : ∀ (A : aM) (i j : Nat) (x : Int32) (a : Nat), am_up A i j x a = if a = i then upd (A i) j x else A a := fun A i j x a => by rfl
  have c21 : m_endQ M (nI m) 21 = upd (M 21) (mN M) 5 := by rw [e]; unfold m_new; simp only [ei, ↓reduceIte, Nat.reduceEqDiff]; rw [eM]
  have c22 : m_endQ M (nI m) 22 = upd (M 22) (mN M) 0 := by rw [e]; unfold m_new; simp only [ei, ↓reduceIte, Nat.reduceEqDiff]; rw [eM]
  have c24 : m_endQ M (nI m) 24 = upd (upd (M 24) (cl (M 28 o)) (nI m)) (mN M) (-1) := by rw [e]; unfold m_new; simp only [ei, ↓reduceIte, Nat.reduceEqDiff]; rw [eM]
  have c25 : m_endQ M (nI m) 25 = upd (upd (M 25) (mN M) (-1)) (cl (M 28 o)) (nI (mN M)) := by rw [e]; unfold m_new; simp only [ei, ↓reduceIte, Nat.reduceEqDiff]; rw [eM]
  have c27 : m_endQ M (nI m) 27 = M 27 := by rw [e]; unfold m_new; simp only [ei, ↓reduceIte, Nat.reduceEqDiff]
  have c28 : m_endQ M (nI m) 28 = M 28 := by rw [e]; unfold m_new; simp only [ei, ↓reduceIte, Nat.reduceEqDiff]
  have c29 : m_endQ M (nI m) 29 = M 29 := by rw [e]; unfold m_new; simp only [ei, ↓reduceIte, Nat.reduceEqDiff]
  generalize m_endQ M (nI m) = N at e5 e13 e11 c21 c22 c24 c25 c27 c28 c29 ⊢
  have eN : mN N = mN M + 1 := by unfold mN; rw [e5]; exact nI_clamp (by have : mN M = cl (M 19 5) := rfl; omega)
  have eO : mO N = o := by unfold mO; rw [e13]; exact nI_clamp (by omega)
  have eD : mD N = mD M := by unfold mD; rw [e11]
  refine ⟨?_, ⟨⟨by rw [eN, e5], by rw [eN]; omega⟩, ⟨by rw [eD, e11]; exact hb.2.1.1, by rw [eD]; exact hb.2.1.2⟩, ⟨by rw [eO, e13], by rw [eO]; omega⟩⟩, eO, eN, eD, c28⟩
  unfold SI
  rw [eN, eO, eD, c21, c22, c24, c25, c27, c28, c29]
  exact q
theorem E_2 {M : aM} {m o : Nat} (h : SIr true (mN M) (mD M) (o + 1) (M 21) (M 22) (M 24) (M 25) (M 27) (M 28) (M 29)) (hb : bs_ok M) (ho : mO M = o + 1) (c2 : M 29 o = 2) (hml : cl (M 28 o) < m) (hmn : m < mN M) : SI false (am_up (am_up M 25 (cl (M 28 o)) (nI m)) 29 o 3) ∧ bs_ok (am_up (am_up M 25 (cl (M 28 o)) (nI m)) 29 o 3) := by
  have q := S_end2 h c2 hml hmn
  refine ⟨?_, hb⟩
  rw [← ho] at q
  exact q
theorem E_1 {M : aM} {m o : Nat} (h : SIr true (mN M) (mD M) (o + 1) (M 21) (M 22) (M 24) (M 25) (M 27) (M 28) (M 29)) (hb : bs_ok M) (ho : mO M = o + 1) (c2 : M 29 o = 1) (hml : cl (M 28 o) < m) (hmn : m < mN M) : SI false (am_up M 24 (cl (M 28 o)) (nI m)) ∧ bs_ok (am_up M 24 (cl (M 28 o)) (nI m)) := by
  have q := S_end1 h c2 hml hmn
  refine ⟨?_, hb⟩
  rw [← ho] at q
  exact q
theorem endQ_3 (M : aM) (n : Int32) : m_endQ M n 19 3 = M 19 3 := (frm_endQ M n).2 3 (Or.inr (Or.inr (Or.inl rfl)))
theorem endQ_4 {M : aM} {m : Nat} (hp : ¬ M 19 3 < 0) (cf : m_endQ M (nI m) 19 4 < 0) : ¬ mN M = 200 := by
  have e : m_endQ M (nI m) 19 4 = (m_nd (am_up M 24 (cl (M 28 (mO M - 1))) (nI m)) 5).2 19 4 := by
    unfold m_endQ
    simp only [am_up_ap, ↓reduceIte, Nat.reduceEqDiff]
  rw [e] at cf
  have q := (nd_4 (M := am_up M 24 (cl (M 28 (mO M - 1))) (nI m)) (by rw [am_up_ne (by decide)]; exact hp) cf).1
  have eM : mN (am_up M 24 (cl (M 28 (mO M - 1))) (nI m)) = mN M := by unfold mN; rw [am_up_ne (by decide)]
  rw [eM] at q
  exact q
theorem T_end : ∀ (f : Nat) (M : aM) (m : Nat), mO M < f → SI true M → bs_ok M → M 19 4 < 0 → ¬ M 19 3 < 0 → dt_ok M m → 0 ≤ m_end f (nI m) M 19 4 ∨ (SI false (m_end f (nI m) M) ∧ bs_ok (m_end f (nI m) M)) := by
  intro f
  induction f with
  | zero =>
    intro M m h
    omega
  | succ f ih =>
    intro M m hf h hb h4 hp hm
    have hen := T_en h hb hm
    have c0 : ¬ 0 ≤ M 19 4 := Int32.not_le.mpr h4
    rw [m_end, if_neg c0]
    by_cases c1 : mO M = 0
    · rw [if_pos c1]
      exact Or.inr (E_0 h hb hen.2.2.2.2 c1 (hm.2.1 c1) hm.1)
    rw [if_neg c1]
    obtain ⟨o, ho⟩ : ∃ o, mO M = o + 1 := ⟨mO M - 1, by omega⟩
    have ho1 : mO M - 1 = o := by omega
    have hml := hm.2.2 (by omega)
    have hmn := hm.1
    rw [ho1] at hml ⊢
    unfold SI at h
    rw [ho] at h
    have hal := h.2.1.all (k := o) (by omega)
    have hs : ¬ M 29 o = 0 := by rcases hal.1 with q | q | q <;> rw [q] <;> decide
    obtain ⟨l1, l2, l3, l4, l5, l6⟩ := top_l h.2.1 hs
    by_cases c4 : M 29 o = 4
    · rw [if_pos c4]
      by_cases cf : m_endQ M (nI m) 19 4 < 0
      · have hn := endQ_4 hp cf
        obtain ⟨g1, g2, g3, g4, g5, g6⟩ := E_4 h hb ho hn c4 hml hmn
        have g7 := endQ_3 M (nI m)
        generalize m_endQ M (nI m) = N at cf g1 g2 g3 g4 g5 g6 g7 ⊢
        rw [l3]
        refine ih N (cl (M 27 o)) (by omega) g1 g2 cf (by rw [g7]; exact hp) ⟨by omega, fun z => ?_, fun z => ?_⟩
        · rw [g3] at z
          rw [g5]
          exact l5 z
        · rw [g3] at z ⊢
          rw [g6]
          exact l6 z
      · left
        have cg : 0 ≤ m_endQ M (nI m) 19 4 := Int32.not_lt.mp cf
        cases f with
        | zero => exact cg
        | succ f => rw [m_end, if_pos cg]; exact cg
    rw [if_neg c4]
    by_cases c2 : M 29 o = 2
    · rw [if_pos c2]
      exact Or.inr (E_2 h hb ho c2 hml hmn)
    · rw [if_neg c2]
      have c9 : M 29 o = 1 := by
        rcases hal.1 with q | q | q
        · exact q
        · exact absurd q c2
        · exact absurd q c4
      exact Or.inr (E_1 h hb ho c9 hml hmn)
