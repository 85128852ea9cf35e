/-! READING KEEPS ITS STATE: brackets, quotes, every token -/
theorem am_up_i (A : aM) (i j : Nat) (x : Int32) (a : Nat) : am_up A i j x a = if a = i then upd (A i) j x else A a := by rfl
theorem qL_22 (x : Nat) : ∀ (f k v : Nat) (M : aM), M 22 x = nI v → v + f ≤ 20 → (∀ i, ¬ i = 22 → ¬ i = 23 → mqL x f k M i = M i) ∧ (∀ y, ¬ y = x → mqL x f k M 22 y = M 22 y) ∧ mqL x f k M 22 x = nI (v + f)
  | 0, _, v, M, hv, _ => ⟨fun _ _ _ => rfl, fun _ _ => rfl, hv⟩
  | f + 1, k, v, M, hv, hf => by
    have hv2 : m_let M x (QF k) 22 x = nI (v + 1) := by rw [m_let_22, hv, show cl (nI v) = v from nI_clamp (by omega)]
    obtain ⟨a, b, c⟩ := qL_22 x f (k + 1) (v + 1) (m_let M x (QF k)) hv2 (by omega)
    unfold mqL
    refine ⟨fun i h1 h2 => ?_, fun y hy => ?_, ?_⟩
    · rw [a i h1 h2]
      unfold m_let
      rw [am_up_ne h1, am_up_ne h2]
    · rw [b y hy]
      unfold m_let
      simp only [am_up_ap, ↓reduceIte, hy, Nat.reduceEqDiff]
    · rw [c]
      congr 1
      omega
/-- three new nodes -/
theorem new3 {B : aM} (hb : mc_ok B) (hn : mN B + 3 ≤ 200) : (∀ i, ¬ i = 19 → ¬ i = 21 → ¬ i = 22 → ¬ i = 24 → ¬ i = 25 → m_new (m_new (m_new B 4) 2) 4 i = B i) ∧ (∀ j, ¬ j = 5 → m_new (m_new (m_new B 4) 2) 4 19 j = B 19 j) ∧ m_new (m_new (m_new B 4) 2) 4 19 5 = nI (mN B + 3) ∧ m_new (m_new (m_new B 4) 2) 4 21 = upd (upd (upd (B 21) (mN B) 4) (mN B + 1) 2) (mN B + 2) 4 ∧ m_new (m_new (m_new B 4) 2) 4 22 = upd (upd (upd (B 22) (mN B) 0) (mN B + 1) 0) (mN B + 2) 0 ∧ m_new (m_new (m_new B 4) 2) 4 24 = upd (upd (upd (B 24) (mN B) (-1)) (mN B + 1) (-1)) (mN B + 2) (-1) ∧ m_new (m_new (m_new B 4) 2) 4 25 = upd (upd (upd (B 25) (mN B) (-1)) (mN B + 1) (-1)) (mN B + 2) (-1) := by
  have n1 := mN_new (k := 4) hb
  have hb1 : mc_ok (m_new B 4) := by have := mc_nd (k := 4) hb; rw [nd_s (by omega)] at this; exact this
  have n2 := mN_new (k := 2) hb1
  rw [n1] at n2
  have eC : ∀ (A : aM) (k : Int32) (i : Nat), ¬ i = 19 → ¬ i = 21 → ¬ i = 22 → ¬ i = 24 → ¬ i = 25 → m_new A k i = A i := fun A k i a b c d e => by
    unfold m_new
    rw [am_up_ne a, am_up_ne e, am_up_ne d, am_up_ne c, am_up_ne b]
  have e9 : ∀ (A : aM) (k : Int32) (j : Nat), ¬ j = 5 → m_new A k 19 j = A 19 j := fun A k j h => by
    unfold m_new
    simp only [am_up_ap, h, ↓reduceIte, Nat.reduceEqDiff]
  have e5 : ∀ (A : aM) (k : Int32), m_new A k 19 5 = nI (mN A + 1) := fun A k => by unfold m_new; simp only [am_up_ap, ↓reduceIte]
  have e21 : ∀ (A : aM) (k : Int32), m_new A k 21 = upd (A 21) (mN A) k := fun A k => by unfold m_new; simp only [am_up_i, ↓reduceIte, Nat.reduceEqDiff]
  have e22 : ∀ (A : aM) (k : Int32), m_new A k 22 = upd (A 22) (mN A) 0 := fun A k => by unfold m_new; simp only [am_up_i, ↓reduceIte, Nat.reduceEqDiff]
  have e24 : ∀ (A : aM) (k : Int32), m_new A k 24 = upd (A 24) (mN A) (-1) := fun A k => by unfold m_new; simp only [am_up_i, ↓reduceIte, Nat.reduceEqDiff]
  have e25 : ∀ (A : aM) (k : Int32), m_new A k 25 = upd (A 25) (mN A) (-1) := fun A k => by unfold m_new; simp only [am_up_i, ↓reduceIte, Nat.reduceEqDiff]
  refine ⟨fun i a b c d e => ?_, fun j h => ?_, ?_, ?_, ?_, ?_, ?_⟩
  · rw [eC _ _ _ a b c d e, eC _ _ _ a b c d e, eC _ _ _ a b c d e]
  · rw [e9 _ _ _ h, e9 _ _ _ h, e9 _ _ _ h]
  · rw [e5, n2]
  · rw [e21, e21, e21, n1, n2]
  · rw [e22, e22, e22, n1, n2]
  · rw [e24, e24, e24, n1, n2]
  · rw [e25, e25, e25, n1, n2]
theorem O_p {A : aM} {o : Nat} {s : Bool} (h : SI true A) (hb : bs_ok A) (ho : mO A = o) (h15 : o < 15) (hs : s = false) : SI false (m_opP s o A) ∧ bs_ok (m_opP s o A) := by
  subst hs
  have e13 : m_opP false o A 19 13 = nI (o + 1) := by unfold m_opP; simp only [am_up_ap, ↓reduceIte]
  have e5 : m_opP false o A 19 5 = A 19 5 := by unfold m_opP; simp only [am_up_ap, ↓reduceIte, Nat.reduceEqDiff]
  have e11 : m_opP false o A 19 11 = A 19 11 := by unfold m_opP; simp only [am_up_ap, ↓reduceIte, Nat.reduceEqDiff]
  have eo : ∀ i, ¬ i = 19 → ¬ i = 29 → m_opP false o A i = A i := fun i h1 h2 => by unfold m_opP; rw [am_up_ne h1, am_up_ne h2]
  have e29 : m_opP false o A 29 = upd (A 29) o 0 := by unfold m_opP; simp only [am_up_i, ↓reduceIte, Nat.reduceEqDiff, Bool.false_eq_true]
  generalize m_opP false o A = N at e13 e5 e11 eo e29 ⊢
  have eN : mN N = mN A := by unfold mN; rw [e5]
  have eD : mD N = mD A := by unfold mD; rw [e11]
  have eO : mO N = o + 1 := by unfold mO; rw [e13]; exact nI_clamp (by omega)
  refine ⟨?_, ⟨by rw [eN, e5]; exact hb.1.1, by rw [eN]; exact hb.1.2⟩, ⟨by rw [eD, e11]; exact hb.2.1.1, by rw [eD]; exact hb.2.1.2⟩, ⟨by rw [eO, e13], by rw [eO]; omega⟩⟩
  unfold SI at h ⊢
  rw [eN, eD, eO, eo 21 (by decide) (by decide), eo 22 (by decide) (by decide), eo 24 (by decide) (by decide), eo 25 (by decide) (by decide), eo 27 (by decide) (by decide), eo 28 (by decide) (by decide), e29]
  rw [ho] at h
  exact S_push h
theorem O_q {A : aM} {o : Nat} (h : SI true A) (hb : bs_ok A) (ho : mO A = o) (h15 : o < 15) (hp : ¬ A 19 3 < 0) (hf : m_q3 (m_opP true o A) 19 4 < 0) : SI false (m_opQ o (m_opP true o A)) ∧ bs_ok (m_opQ o (m_opP true o A)) := by
  have e13 : m_opP true o A 19 13 = nI (o + 1) := by unfold m_opP; simp only [am_up_ap, ↓reduceIte]
  have e5 : m_opP true o A 19 5 = A 19 5 := by unfold m_opP; simp only [am_up_ap, ↓reduceIte, Nat.reduceEqDiff]
  have e3 : m_opP true o A 19 3 = A 19 3 := by unfold m_opP; simp only [am_up_ap, ↓reduceIte, Nat.reduceEqDiff]
  have e11 : m_opP true o A 19 11 = A 19 11 := by unfold m_opP; simp only [am_up_ap, ↓reduceIte, Nat.reduceEqDiff]
  have eo : ∀ i, ¬ i = 19 → ¬ i = 29 → m_opP true o A i = A i := fun i h1 h2 => by unfold m_opP; rw [am_up_ne h1, am_up_ne h2]
  have e29 : m_opP true o A 29 = upd (A 29) o 4 := by unfold m_opP; simp only [am_up_i, ↓reduceIte, Nat.reduceEqDiff]
  unfold m_opQ
  rw [if_pos hf]
  generalize m_opP true o A = B at e13 e5 e3 e11 eo e29 hf ⊢
  have eN : mN B = mN A := by unfold mN; rw [e5]
  have hcB : mc_ok B := ⟨by rw [eN, e5]; exact hb.1.1, by rw [eN]; exact hb.1.2⟩
  obtain ⟨x1, -, -, -, x5⟩ := nd_3 hcB (by rw [e3]; exact hp) hf
  obtain ⟨n1, n2, n3, n4, n5, n6, n7⟩ := new3 hcB x1
  rw [x5]
  generalize m_new (m_new (m_new B 4) 2) 4 = C at n1 n2 n3 n4 n5 n6 n7 ⊢
  rw [eN] at x1 n3 n4 n5 n6 n7 ⊢
  have v0 : C 22 (mN A + 1) = nI 0 := by
    rw [n5, upd_lt _ _ (by omega), upd_eq]
    rfl
  obtain ⟨q1, q2, q3⟩ := qL_22 (mN A + 1) 5 0 0 C v0 (by omega)
  generalize mqL (mN A + 1) 5 0 C = D at q1 q2 q3 ⊢
  have f13 : m_opL (mN A) o D 19 = C 19 := by unfold m_opL; rw [am_up_ne (by decide), am_up_ne (by decide), am_up_ne (by decide), am_up_ne (by decide), q1 19 (by decide) (by decide)]
  have f21 : m_opL (mN A) o D 21 = C 21 := by unfold m_opL; rw [am_up_ne (by decide), am_up_ne (by decide), am_up_ne (by decide), am_up_ne (by decide), q1 21 (by decide) (by decide)]
  have f22 : m_opL (mN A) o D 22 = D 22 := by unfold m_opL; rw [am_up_ne (by decide), am_up_ne (by decide), am_up_ne (by decide), am_up_ne (by decide)]
  have f24 : m_opL (mN A) o D 24 = upd (C 24) (mN A) (nI (mN A + 1)) := by
    unfold m_opL
    simp only [am_up_i, ↓reduceIte, Nat.reduceEqDiff]
    rw [q1 24 (by decide) (by decide)]
  have f25 : m_opL (mN A) o D 25 = upd (C 25) (mN A) (nI (mN A + 2)) := by
    unfold m_opL
    simp only [am_up_i, ↓reduceIte, Nat.reduceEqDiff]
    rw [q1 25 (by decide) (by decide)]
  have f27 : m_opL (mN A) o D 27 = upd (A 27) o (nI (mN A)) := by
    unfold m_opL
    simp only [am_up_i, ↓reduceIte, Nat.reduceEqDiff]
    rw [q1 27 (by decide) (by decide), n1 27 (by decide) (by decide) (by decide) (by decide) (by decide), eo 27 (by decide) (by decide)]
  have f28 : m_opL (mN A) o D 28 = upd (A 28) o (nI (mN A + 2)) := by
    unfold m_opL
    simp only [am_up_i, ↓reduceIte, Nat.reduceEqDiff]
    rw [q1 28 (by decide) (by decide), n1 28 (by decide) (by decide) (by decide) (by decide) (by decide), eo 28 (by decide) (by decide)]
  have f29 : m_opL (mN A) o D 29 = upd (A 29) o 4 := by
    unfold m_opL
    rw [am_up_ne (by decide), am_up_ne (by decide), am_up_ne (by decide), am_up_ne (by decide), q1 29 (by decide) (by decide), n1 29 (by decide) (by decide) (by decide) (by decide) (by decide), e29]
  generalize m_opL (mN A) o D = N at f13 f21 f22 f24 f25 f27 f28 f29 ⊢
  have g13 : N 19 13 = nI (o + 1) := by rw [f13, n2 13 (by decide), e13]
  have g5 : N 19 5 = nI (mN A + 3) := by rw [f13, n3]
  have g11 : N 19 11 = A 19 11 := by rw [f13, n2 11 (by decide), e11]
  have eN2 : mN N = mN A + 3 := by unfold mN; rw [g5]; exact nI_clamp (by have : mN A = cl (A 19 5) := rfl; omega)
  have eD : mD N = mD A := by unfold mD; rw [g11]
  have eO : mO N = o + 1 := by unfold mO; rw [g13]; exact nI_clamp (by omega)
  refine ⟨?_, ⟨by rw [eN2, g5], by rw [eN2]; omega⟩, ⟨by rw [eD, g11]; exact hb.2.1.1, by rw [eD]; exact hb.2.1.2⟩, ⟨by rw [eO, g13], by rw [eO]; omega⟩⟩
  unfold SI at h ⊢
  rw [eN2, eD, eO, f21, f22, f24, f25, f27, f28, f29, n4, n6, n7, eo 21 (by decide) (by decide), eo 24 (by decide) (by decide), eo 25 (by decide) (by decide)]
  rw [ho] at h
  refine S_pushQ h x1 (fun x hx => ?_) q3
  rw [q2 x (by omega), n5, upd_lt _ _ (by omega), upd_lt _ _ (by omega), upd_lt _ _ hx, eo 22 (by decide) (by decide)]
theorem T_open {M : aM} (q : Bool) (h : SI false M) (hb : bs_ok M) (hp : ¬ M 19 3 < 0) : 0 ≤ m_open q M 19 4 ∨ (SI false (m_open q M) ∧ bs_ok (m_open q M)) := by
  have h15 := hb.2.2.2
  unfold m_open
  by_cases cf : m_opA M 19 4 < 0
  · rw [if_pos cf]
    have c15 : ¬ mO M = 15 := fun c => by
      unfold m_opA at cf
      rw [if_pos c] at cf
      exact failM_ge (by rw [beg_19 M 3 (by decide) (by decide)]; exact hp) cf
    have eA : m_opA M = m_beg M := by unfold m_opA; rw [if_neg c15]
    rw [eA] at cf ⊢
    obtain ⟨g1, g2, g3, g4, g5⟩ := T_beg h hb hp cf
    have g6 : m_beg M 19 3 = M 19 3 := beg_19 M 3 (by decide) (by decide)
    generalize m_beg M = A at cf g1 g2 g3 g4 g6 ⊢
    cases q
    · rw [if_neg (by decide)]
      exact Or.inr (O_p g1 g2 g3 (by omega) rfl)
    · rw [if_pos rfl]
      by_cases cg : m_q3 (m_opP true (mO M) A) 19 4 < 0
      · exact Or.inr (O_q g1 g2 g3 (by omega) (by rw [g6]; exact hp) cg)
      · left
        unfold m_opQ
        rw [if_neg cg]
        exact Int32.not_lt.mp cg
  · rw [if_neg cf]
    exact Or.inl (Int32.not_lt.mp cf)
theorem T_pt {M : aM} (h : SI false M) (hb : bs_ok M) (hp : ¬ M 19 3 < 0) : 0 ≤ m_pt M 19 4 ∨ (SI false (m_pt M) ∧ bs_ok (m_pt M)) := by
  unfold m_pt
  by_cases c : mO M = 0
  · rw [if_pos c]
    exact Or.inl (Int32.not_lt.mp (failM_ge hp))
  rw [if_neg c]
  obtain ⟨o, ho⟩ : ∃ o, mO M = o + 1 := ⟨mO M - 1, by omega⟩
  have ho1 : mO M - 1 = o := by omega
  rw [ho1]
  by_cases c1 : M 29 o = 1
  · rw [if_pos c1]
    right
    refine ⟨?_, hb⟩
    unfold SI at h
    rw [ho] at h
    have q := S_pt h c1
    rw [← ho] at q
    exact q
  · rw [if_neg c1]
    exact Or.inl (Int32.not_lt.mp (failM_ge hp))
