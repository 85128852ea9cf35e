section
/-! THE TEXT OF A NODE, as a function of the nodes; the desk's is that -/
def m_bts (M : aM) (x : Nat) : Nat → Nat → List Int32
  | 0, _ => []
  | r + 1, k => M 23 (20 * x + k) :: m_bts M x r (k + 1)
def m_stb (M : aM) (x : Nat) : Nat → Nat → List Int32
  | 0, _ => [34]
  | r + 1, k => if M 23 (20 * x + k) = 34 then 92 :: M 23 (20 * x + k) :: m_stb M x r (k + 1) else if M 23 (20 * x + k) = 92 then 92 :: M 23 (20 * x + k) :: m_stb M x r (k + 1) else M 23 (20 * x + k) :: m_stb M x r (k + 1)
def m_ltx (M : aM) (x : Nat) : List Int32 := if M 21 x = 3 then 34 :: m_stb M x (cl (M 22 x)) 0 else m_bts M x (cl (M 22 x)) 0
def mqE (M : aM) (h : Nat) : Nat → Nat → Bool
  | 0, _ => true
  | r + 1, k => decide (M 23 (20 * h + k) = QF k) && mqE M h r (k + 1)
def m_isQ (M : aM) (x : Nat) : Bool := decide (M 21 (cl (M 24 x)) = 2) && (decide (M 22 (cl (M 24 x)) = 5) && (decide (M 21 (cl (M 25 x)) = 4) && (decide (M 21 (cl (M 25 (cl (M 25 x)))) = 5) && mqE M (cl (M 24 x)) 5 0)))
def outF (M : aM) : Nat → Bool → Nat → List Int32
  | 0, _, _ => []
  | f + 1, false, x => if M 21 x = 4 then (if m_isQ M x = true then 39 :: outF M f false (cl (M 24 (cl (M 25 x)))) else 40 :: (outF M f false (cl (M 24 x)) ++ outF M f true (cl (M 25 x)))) else if M 21 x = 5 then [40, 41] else if M 21 x = 1 then m_num (M 22 x) else m_ltx M x
  | f + 1, true, x => if M 21 x = 5 then [41] else if M 21 x = 4 then 32 :: (outF M f false (cl (M 24 x)) ++ outF M f true (cl (M 25 x))) else 32 :: 46 :: 32 :: (outF M f false x ++ [41])
def ndF (b : Bool) (x : Nat) : Nat := 2 * (200 - x) + (if b = true then 1 else 0)
def out (M : aM) (b : Bool) (x : Nat) : List Int32 := outF M 401 b x
theorem isQ_t {M : aM} {x : Nat} (h : m_isQ M x = true) : M 21 (cl (M 25 x)) = 4 := by
  unfold m_isQ at h
  simp only [Bool.and_eq_true, decide_eq_true_eq] at h
  exact h.2.2.1
theorem outF_irr {M : aM} (ht : tr_ok M) (hn : mN M ≤ 200) : ∀ (f g : Nat) (b : Bool) (x : Nat), x < mN M → ndF b x ≤ f → ndF b x ≤ g → outF M f b x = outF M g b x := by
  intro f
  induction f with
  | zero =>
    intro g b x hx h1 h2
    unfold ndF at h1
    omega
  | succ f ih =>
    intro g b x hx h1 h2
    obtain ⟨g, rfl⟩ : ∃ q, g = q + 1 := ⟨g - 1, by unfold ndF at h2; omega⟩
    have hF : ∀ y, ndF false y = 2 * (200 - y) := fun y => by unfold ndF; simp
    have hT : ∀ y, ndF true y = 2 * (200 - y) + 1 := fun y => by unfold ndF; simp
    cases b
    · rw [hF] at h1 h2
      rw [outF, outF]
      by_cases c4 : M 21 x = 4
      · rw [if_pos c4, if_pos c4]
        obtain ⟨h1', t1, eh, et, a1, a2, a3, a4⟩ := (ht x hx).2.2 c4
        cases cq : m_isQ M x
        · rw [if_neg (by decide), if_neg (by decide), eh, et, show cl (nI h1') = h1' from nI_clamp (by omega), show cl (nI t1) = t1 from nI_clamp (by omega)]
          rw [ih g false h1' a2 (by rw [hF]; omega) (by rw [hF]; omega), ih g true t1 a4 (by rw [hT]; omega) (by rw [hT]; omega)]
        · rw [if_pos rfl, if_pos rfl]
          have ht4 := isQ_t cq
          rw [et, show cl (nI t1) = t1 from nI_clamp (by omega)] at ht4 ⊢
          obtain ⟨h2', t2, eh2, et2, d1, d2, d3, d4⟩ := (ht t1 a4).2.2 ht4
          rw [eh2, show cl (nI h2') = h2' from nI_clamp (by omega)]
          rw [ih g false h2' d2 (by rw [hF]; omega) (by rw [hF]; omega)]
      · rw [if_neg c4, if_neg c4]
    · rw [hT] at h1 h2
      rw [outF, outF]
      by_cases c5 : M 21 x = 5
      · rw [if_pos c5, if_pos c5]
      rw [if_neg c5, if_neg c5]
      by_cases c4 : M 21 x = 4
      · rw [if_pos c4, if_pos c4]
        obtain ⟨h1', t1, eh, et, a1, a2, a3, a4⟩ := (ht x hx).2.2 c4
        rw [eh, et, show cl (nI h1') = h1' from nI_clamp (by omega), show cl (nI t1) = t1 from nI_clamp (by omega)]
        rw [ih g false h1' a2 (by rw [hF]; omega) (by rw [hF]; omega), ih g true t1 a4 (by rw [hT]; omega) (by rw [hT]; omega)]
      · rw [if_neg c4, if_neg c4, ih g false x hx (by rw [hF]; omega) (by rw [hF]; omega)]
theorem out_f {M : aM} (ht : tr_ok M) (hn : mN M ≤ 200) {x : Nat} (hx : x < mN M) : out M false x = if M 21 x = 4 then (if m_isQ M x = true then 39 :: out M false (cl (M 24 (cl (M 25 x)))) else 40 :: (out M false (cl (M 24 x)) ++ out M true (cl (M 25 x)))) else if M 21 x = 5 then [40, 41] else if M 21 x = 1 then m_num (M 22 x) else m_ltx M x := by
  unfold out
  rw [outF_irr ht hn 401 402 false x hx (by unfold ndF; simp; omega) (by unfold ndF; simp; omega), outF]
theorem out_t {M : aM} (ht : tr_ok M) (hn : mN M ≤ 200) {x : Nat} (hx : x < mN M) : out M true x = if M 21 x = 5 then [41] else if M 21 x = 4 then 32 :: (out M false (cl (M 24 x)) ++ out M true (cl (M 25 x))) else 32 :: 46 :: 32 :: (out M false x ++ [41]) := by
  unfold out
  rw [outF_irr ht hn 401 402 true x hx (by unfold ndF; simp; omega) (by unfold ndF; simp; omega)]
  conv => lhs; rw [outF]
/-- the desk's letters are the reference's -/
theorem byt_nI {M : aM} (h : I3 M) {z k a n : Nat} (h1 : StN M M n) (hz : z < n) (hk : M 4 z = 2 ∨ M 4 z = 3) (ha : M 5 z = nI a) (ha2 : a ≤ 20) (hka : k < a) : n_byte M (nI z) (nI k) = M 23 (20 * z + k) := by
  have h200 := h1.2.2.1
  obtain ⟨p1, p2, -, -⟩ := h1.2.2.2 z hz
  rw [byt_eq h]
  unfold m_byte m_isT
  rw [← (has_eq h1 (nI z)).1, StN_has h1 hz, show cl (nI z) = z from nI_clamp (by omega), ← p1, ← p2, ha]
  have hc : (true && (decide (M 4 z = 2) || decide (M 4 z = 3))) = true := by
    rcases hk with w | w <;> simp [w]
  rw [if_pos hc, if_neg (nI_pos (by omega)), if_pos (nI_lt hka (by omega)), show cl (nI k) = k from nI_clamp (by omega)]
theorem w_out {M : aM} (h : I3 M) (hX : RX M) : ∀ (x : Nat), x < mN M → w_node M 16 (nI x) = out M false x := by
  obtain ⟨n, lc, d, h1, h2, -⟩ := h.2.2
  obtain ⟨-, -, -, hc, -, ht, -⟩ := h.1
  have hm := StN_mN h1
  have h200 := h1.2.2.1
  obtain ⟨n', D, e35, hn', hR⟩ := hX
  have hnn : n' = n := (nI_eq (by omega) (by omega)).mp (by rw [← e35, h1.1])
  subst hnn
  rw [hm]
  have hm200 : mN M ≤ 200 := by omega
  have hC : ∀ z, z < n' → cl (nI z) = z := fun z hz => nI_clamp (by omega)
  have hN : ∀ z, z < n' → ∀ k : Int32, isN M (nI z) k = decide (M 4 z = k) := fun z hz k => by
    unfold isN
    rw [StN_has h1 hz, Bool.true_and, hC z hz]
  have hK : ∀ z, z < n' → n_kind M (nI z) = M 4 z := fun z hz => by
    unfold n_kind
    rw [if_pos (StN_has h1 hz), hC z hz]
  have hA : ∀ z, z < n' → n_amt M (nI z) = M 5 z := fun z hz => by
    unfold n_amt
    rw [if_pos (StN_has h1 hz), hC z hz]
  have hHd : ∀ z, z < n' → M 4 z = 4 → n_head M (nI z) = M 7 z := fun z hz z4 => by
    unfold n_head
    rw [hN z hz, if_pos (by simp [z4]), hC z hz]
  have hTl : ∀ z, z < n' → M 4 z = 4 → n_tail M (nI z) = M 8 z := fun z hz z4 => by
    unfold n_tail
    rw [hN z hz, if_pos (by simp [z4]), hC z hz]
  have hTl0 : ∀ z, z < n' → ¬ M 4 z = 4 → n_tail M (nI z) = -1 := fun z hz z4 => by
    unfold n_tail
    rw [hN z hz, if_neg (by simp [z4])]
  have hm1 : ∀ k : Int32, isN M (-1) k = false := fun k => by
    unfold isN hasN
    have : decide ((-1 : Int32) < 0) = true := by decide
    simp [this]
  -- what the stores say of a pair
  have hP : ∀ z, z < n' → M 4 z = 4 → ∃ p t, M 7 z = nI p ∧ M 8 z = nI t ∧ p < n' ∧ t < n' ∧ z < p ∧ z < t ∧ D p < D z ∧ D t ≤ D z := by
    intro z hz z4
    obtain ⟨-, r1⟩ := hR z (by omega) hz
    obtain ⟨p, t, eh, et, -, b2, -, b4, b5, b6⟩ := r1 z4 (fun q => q)
    obtain ⟨p1, p2, p3, p4⟩ := h1.2.2.2 z hz
    obtain ⟨w1, w2, w3, w4, w5, w6, w7, w8⟩ := (ht z (by rw [hm]; exact hz)).2.2 (by rw [← p1]; exact z4)
    have e1 : p = w1 := (nI_eq (by omega) (by omega)).mp (by rw [← eh, p3, w3])
    have e2 : t = w2 := (nI_eq (by omega) (by omega)).mp (by rw [← et, p4, w4])
    exact ⟨p, t, eh, et, b2, b4, by omega, by omega, b5, b6⟩
  -- letters
  have hL : ∀ z, z < n' → M 4 z = 2 ∨ M 4 z = 3 → ∃ a, M 5 z = nI a ∧ a ≤ 20 ∧ ∀ k, k < a → n_byte M (nI z) (nI k) = M 23 (20 * z + k) := by
    intro z hz hk
    obtain ⟨s, a, x1, x2, x3, x4, x5⟩ := h2.2.2.2.2 z hz hk
    exact ⟨a, x2, x3, fun k hk2 => byt_nI h h1 hz hk x2 x3 hk2⟩
  have hbts : ∀ z a, (∀ k, k < a → n_byte M (nI z) (nI k) = M 23 (20 * z + k)) → ∀ r k, k + r = a → w_bts M (nI z) r k = m_bts M z r k := by
    intro z a hb r
    induction r with
    | zero => intro k _; rfl
    | succ r ihr =>
      intro k hk
      rw [w_bts, m_bts, hb k (by omega), ihr (k + 1) (by omega)]
  have hstb : ∀ z a, (∀ k, k < a → n_byte M (nI z) (nI k) = M 23 (20 * z + k)) → ∀ r k, k + r = a → w_stb M (nI z) r k = m_stb M z r k := by
    intro z a hb r
    induction r with
    | zero => intro k _; rfl
    | succ r ihr =>
      intro k hk
      rw [w_stb, m_stb, hb k (by omega), ihr (k + 1) (by omega)]
  -- quotes
  have hQ : ∀ z p t, z < n' → M 4 z = 4 → M 7 z = nI p → M 8 z = nI t → p < n' → t < n' → (m_isQ M z = true → M 4 t = 4 ∧ n_quo M (nI z) = M 7 t) ∧ (m_isQ M z = false → n_quo M (nI z) = -1) := by
    intro z p t hz z4 eh et hp htn
    obtain ⟨-, -, z3, z5⟩ := h1.2.2.2 z hz
    obtain ⟨p1, p2, -, -⟩ := h1.2.2.2 p hp
    obtain ⟨t1, -, -, t4⟩ := h1.2.2.2 t htn
    have eQ : isQ M (nI p) = (decide (M 4 p = 2) && decide (M 5 p = 5) && mqE M p 5 0) := by
      unfold isQ
      rw [hN p hp, hC p hp]
      by_cases c2 : M 4 p = 2
      · by_cases c5 : M 5 p = 5
        · obtain ⟨a, e1, e2, e3⟩ := hL p hp (Or.inl c2)
          have ea : a = 5 := (nI_eq (b := 5) (by omega) (by decide)).mp (by rw [← e1]; exact c5)
          subst ea
          have : ∀ r k, k + r = 5 → qL M (nI p) r k = mqE M p r k := by
            intro r
            induction r with
            | zero => intro k _; rfl
            | succ r ihr =>
              intro k hk
              rw [qL, mqE, e3 k (by omega), ihr (k + 1) (by omega)]
          rw [this 5 0 rfl]
        · simp [c5]
      · simp [c2]
    have eM : m_isQ M z = (decide (M 4 p = 2) && (decide (M 5 p = 5) && (decide (M 4 t = 4) && (decide (M 21 (cl (M 8 t)) = 5) && mqE M p 5 0)))) := by
      unfold m_isQ
      rw [← z3, ← z5, eh, et, hC p hp, hC t htn, ← p1, ← p2, ← t1, ← t4]
    have hqt : n_quo M (nI z) = if isQ M (nI p) = true then (if isN M (n_tail M (nI t)) 5 = true then n_head M (nI t) else -1) else -1 := by
      unfold n_quo
      rw [hHd z hz z4, hTl z hz z4, eh, et]
    rw [eM, hqt, eQ]
    by_cases c4 : M 4 t = 4
    · obtain ⟨h2', t2, eh2, et2, b1, b2, -, -, -, -⟩ := hP t htn c4
      obtain ⟨u1, -, -, -⟩ := h1.2.2.2 t2 b2
      rw [hTl t htn c4, et2, hN t2 b2, hHd t htn c4, hC t2 b2, ← u1]
      cases decide (M 4 p = 2) <;> cases decide (M 5 p = 5) <;> cases mqE M p 5 0 <;> cases decide (M 4 t2 = 5) <;> simp [c4]
    · rw [hTl0 t htn c4, hm1]
      simp [c4]
  -- a datum that is no pair
  have base : ∀ (f : Int32 → List Int32) (x : Nat), x < n' → ¬ M 4 x = 4 → (if n_kind M (nI x) = 1 then w_num (n_amt M (nI x)) else if n_kind M (nI x) = 2 then w_name M (nI x) else if n_kind M (nI x) = 3 then w_str M (nI x) else if n_kind M (nI x) = 4 then w_pair M f (nI x) else if n_kind M (nI x) = 5 then [40, 41] else []) = out M false x := by
    intro f x hx c4
    obtain ⟨p1, p2, -, -⟩ := h1.2.2.2 x hx
    have hk5 := (ht x (by rw [hm]; exact hx)).1
    rw [out_f ht hm200 (by rw [hm]; exact hx), hK x hx, hA x hx]
    rw [← p1] at hk5 ⊢
    rw [if_neg c4, if_neg c4]
    rcases hk5 with k1 | k2 | k3 | k4 | k5'
    · have hNB : NB (M 5 x) := (hR x (by omega) hx).1.2.2 k1
      rw [k1, if_pos rfl, if_neg (by decide), if_pos rfl, ← p2]
      exact num_eq2 hNB
    · obtain ⟨a, e1, e2, e3⟩ := hL x hx (Or.inl k2)
      rw [k2, if_neg (by decide), if_pos rfl, if_neg (by decide), if_neg (by decide)]
      unfold m_ltx w_name
      rw [hA x hx, ← p1, ← p2, k2, if_neg (by decide), e1, show cl (nI a) = a from nI_clamp (by omega)]
      exact hbts x a e3 a 0 (by omega)
    · obtain ⟨a, e1, e2, e3⟩ := hL x hx (Or.inr k3)
      rw [k3, if_neg (by decide), if_neg (by decide), if_pos rfl, if_neg (by decide), if_neg (by decide)]
      unfold m_ltx w_str
      rw [hA x hx, ← p1, ← p2, k3, if_pos rfl, e1, show cl (nI a) = a from nI_clamp (by omega), hstb x a e3 a 0 (by omega)]
    · exact absurd k4 c4
    · rw [k5', if_neg (by decide), if_neg (by decide), if_neg (by decide), if_pos rfl, if_pos rfl]
  -- the rest of a list
  have rest : ∀ (j : Nat), 0 < j → (∀ x, x < n' → (M 4 x = 4 → D x < j) → w_node M j (nI x) = out M false x) → ∀ (r y : Nat), y < n' → D y ≤ j → 200 - y ≤ r → w_rest M (w_node M j) r (nI y) = out M true y := by
    intro j hj hf r
    induction r with
    | zero =>
      intro y hy _ hr
      omega
    | succ r ihr =>
      intro y hy hD hr
      obtain ⟨p1, -, p3, p4⟩ := h1.2.2.2 y hy
      rw [w_rest, hK y hy, out_t ht hm200 (by rw [hm]; exact hy), ← p1]
      by_cases c4 : M 4 y = 4
      · obtain ⟨p, t, eh, et, b1, b2, b3, b4, b5, b6⟩ := hP y hy c4
        rw [if_pos c4, if_neg (by rw [c4]; decide), if_pos c4, hHd y hy c4, hTl y hy c4, eh, et, ← p3, ← p4, eh, et, hC p b1, hC t b2, hf p b1 (fun _ => by omega), ihr t b2 (by omega) (by omega)]
      · rw [if_neg c4, if_neg c4]
        unfold w_tail
        rw [hK y hy]
        by_cases c5 : M 4 y = 5
        · rw [if_pos c5, if_pos c5]
        · rw [if_neg c5, if_neg c5, hf y hy (fun q => absurd q c4)]
  have all : ∀ (j x : Nat), x < n' → (M 4 x = 4 → D x < j) → 0 < j → w_node M j (nI x) = out M false x := by
    intro j
    induction j with
    | zero =>
      intro x _ _ hj
      omega
    | succ j ih =>
      intro x hx hD _
      rw [w_node]
      by_cases c4 : M 4 x = 4
      · obtain ⟨p1, -, p3, p4⟩ := h1.2.2.2 x hx
        obtain ⟨p, t, eh, et, b1, b2, b3, b4, b5, b6⟩ := hP x hx c4
        have hDx := hD c4
        have hj : 0 < j := by omega
        have ih' : ∀ y, y < n' → (M 4 y = 4 → D y < j) → w_node M j (nI y) = out M false y := fun y hy hq => ih y hy hq hj
        obtain ⟨q1, q2⟩ := hQ x p t hx c4 eh et b1 b2
        rw [hK x hx, c4, if_neg (by decide), if_neg (by decide), if_neg (by decide), if_pos rfl, out_f ht hm200 (by rw [hm]; exact hx), if_pos (by rw [← p1]; exact c4), ← p3, ← p4, eh, et, hC p b1, hC t b2]
        unfold w_pair
        cases cq : m_isQ M x
        · rw [q2 cq, if_pos rfl, if_neg (by decide), hHd x hx c4, hTl x hx c4, eh, et, ih' p b1 (fun _ => by omega), rest j hj ih' 200 t b2 (by omega) (by omega)]
        · obtain ⟨ct, eq⟩ := q1 cq
          obtain ⟨h2', t2, eh2, et2, d1, d2, d3, d4, d5, d6⟩ := hP t b2 ct
          obtain ⟨-, -, u3, -⟩ := h1.2.2.2 t b2
          rw [eq, ← u3, eh2, if_neg (nI_ne (by omega)), if_pos rfl, ih' h2' d1 (fun _ => by omega), hC h2' d1]
      · exact base (w_node M j) x hx c4
  intro x hx
  have := (hR x (by omega) hx).1.1
  exact all 16 x hx (fun _ => by omega) (by omega)
end
section
/-! THE REFERENCE'S WRITING, with what it writes -/
def m_says (M : aM) (bs : List Int32) : aM := bs.foldl m_say M
theorem m_says_app (M : aM) (a b : List Int32) : m_says M (a ++ b) = m_says (m_says M a) b := by unfold m_says; rw [List.foldl_append]
theorem m_says_cons (M : aM) (b : Int32) (bs : List Int32) : m_says M (b :: bs) = m_says (m_say M b) bs := rfl
theorem m_says_nil (M : aM) : m_says M [] = M := rfl
theorem m_says_rel : ∀ (bs : List Int32) {M : aM}, mw_ok M → wr_rel M (m_says M bs)
  | [], _, h => wr_rel.rf h
  | b :: bs, M, h => by
    rw [m_says_cons]
    exact (m_say_rel h).tr (m_says_rel bs (m_say_rel h).2.2)
def sp_Model_number1 : aS := fun as M K => match as with
  | [.ref a, .int v] => a = 19 ∧ mw_ok M ∧ K none (m_says M (m_num v))
  | _ => False
set_option maxRecDepth 100000 in
set_option maxHeartbeats 4000000 in
theorem lp_Model_number2' {G : aG} (hG : am_ok G) {K : aR} {v l : Int32} : ∀ (k : Nat) (M : aM), k ≤ 9 → mw_ok M → K none (m_says M (m_dgs l k)) → am_X G Y_Model_number 1 K 39 [some (.ref 19), some (.int v), some (.int l), some (.int (tn k))] [] M := by
  have Z : ∀ M : aM, K none M → am_X G Y_Model_number 1 K 39 [some (.ref 19), some (.int v), some (.int l), some (.int 0)] [] M := by
    intro M hM
    have z0 : (0 : Int32) ≤ 0 := by decide
    refine am_from (tb_Model_number (ok_Model_say hG) (by decide)) k_Model_number 400 ?_
    simp only [q_Model_number_23, q_Model_number_39, r_Model_number_0, r_Model_number_1, r_Model_number_4, r_Model_number_5, r_Model_number_7, r_Model_number_10, r_Model_number_11, r_Model_number_14, r_Model_number_15, r_Model_number_16, r_Model_number_19, r_Model_number_20, r_Model_number_21, r_Model_number_22, r_Model_number_23, r_Model_number_24, r_Model_number_25, r_Model_number_26, r_Model_number_28, r_Model_number_31, r_Model_number_32, r_Model_number_34, r_Model_number_35, r_Model_number_36, r_Model_number_39, r_Model_number_40, r_Model_number_43, r_Model_number_44, r_Model_number_46, r_Model_number_47, r_Model_number_48, r_Model_number_49, r_Model_number_51, r_Model_number_52, r_Model_number_53, r_Model_number_56, r_Model_number_57, r_Model_number_59, r_Model_number_60, r_Model_number_61, r_Model_number_64, ai_iload, ai_ifge, ai_aload, ai_const, ai_callv2, am_push, am_few, ai_ineg, ai_goto, ai_istore, am_cut_0, am_cut_s, am_c1, ai_idiv, ai_cmple, ai_imul, ai_bin, ai_ifle, ai_irem, ai_iadd, ai_vret, kd_0, fd_0_0, fd_0_1, fd_0_2, fd_0_3, fd_0_4, kd_1, fd_1_0, fd_1_1, ln_2, kd_3, fd_3_0, fd_3_1, fd_3_2, fd_3_3, fd_3_4, fd_3_5, fd_3_6, fd_3_7, fd_3_8, fd_3_9, ln_4, ln_5, ln_6, ln_7, ln_8, ln_9, ln_10, kd_11, fd_11_0, fd_11_1, fd_11_2, fd_11_3, fd_11_4, kd_12, fd_12_0, fd_12_1, fd_12_2, fd_12_3, ln_13, ln_14, ln_15, kd_16, fd_16_0, fd_16_1, fd_16_2, ln_17, kd_18, fd_18_0, fd_18_1, kd_19, fd_19_0, fd_19_1, fd_19_2, fd_19_3, fd_19_4, fd_19_5, fd_19_6, fd_19_7, fd_19_8, fd_19_9, fd_19_10, fd_19_11, fd_19_12, fd_19_13, fd_19_14, fd_19_15, fd_19_16, fd_19_17, fd_19_18, fd_19_19, fd_19_20, ln_20, ln_21, ln_22, ln_23, ln_24, ln_25, ln_26, ln_27, ln_28, ln_29, ln_30, ln_31, ln_32, List.getElem?_cons_zero, List.getElem?_cons_succ, List.set_cons_zero, List.set_cons_succ, true_and, and_true, ↓reduceIte, Int32.reduceLT, Int32.reduceLE, li_10, or_true, true_or, z0]
    exact hM
  have l10 : ((10 : Int32) = 0) = False := eq_false (by decide)
  intro k
  induction k with
  | zero =>
    intro M hk hw hM
    have t0 : ¬ tn 0 ≤ 0 := by decide
    have t1 : ¬ tn 0 = 0 := by decide
    have t2 : tn 0 / 10 = 0 := by decide
    refine am_from (tb_Model_number (ok_Model_say hG) (by decide)) k_Model_number 400 ?_
    simp only [q_Model_number_23, q_Model_number_39, r_Model_number_0, r_Model_number_1, r_Model_number_4, r_Model_number_5, r_Model_number_7, r_Model_number_10, r_Model_number_11, r_Model_number_14, r_Model_number_15, r_Model_number_16, r_Model_number_19, r_Model_number_20, r_Model_number_21, r_Model_number_22, r_Model_number_23, r_Model_number_24, r_Model_number_25, r_Model_number_26, r_Model_number_28, r_Model_number_31, r_Model_number_32, r_Model_number_34, r_Model_number_35, r_Model_number_36, r_Model_number_39, r_Model_number_40, r_Model_number_43, r_Model_number_44, r_Model_number_46, r_Model_number_47, r_Model_number_48, r_Model_number_49, r_Model_number_51, r_Model_number_52, r_Model_number_53, r_Model_number_56, r_Model_number_57, r_Model_number_59, r_Model_number_60, r_Model_number_61, r_Model_number_64, ai_iload, ai_ifge, ai_aload, ai_const, ai_callv2, am_push, am_few, ai_ineg, ai_goto, ai_istore, am_cut_0, am_cut_s, am_c1, ai_idiv, ai_cmple, ai_imul, ai_bin, ai_ifle, ai_irem, ai_iadd, ai_vret, kd_0, fd_0_0, fd_0_1, fd_0_2, fd_0_3, fd_0_4, kd_1, fd_1_0, fd_1_1, ln_2, kd_3, fd_3_0, fd_3_1, fd_3_2, fd_3_3, fd_3_4, fd_3_5, fd_3_6, fd_3_7, fd_3_8, fd_3_9, ln_4, ln_5, ln_6, ln_7, ln_8, ln_9, ln_10, kd_11, fd_11_0, fd_11_1, fd_11_2, fd_11_3, fd_11_4, kd_12, fd_12_0, fd_12_1, fd_12_2, fd_12_3, ln_13, ln_14, ln_15, kd_16, fd_16_0, fd_16_1, fd_16_2, ln_17, kd_18, fd_18_0, fd_18_1, kd_19, fd_19_0, fd_19_1, fd_19_2, fd_19_3, fd_19_4, fd_19_5, fd_19_6, fd_19_7, fd_19_8, fd_19_9, fd_19_10, fd_19_11, fd_19_12, fd_19_13, fd_19_14, fd_19_15, fd_19_16, fd_19_17, fd_19_18, fd_19_19, fd_19_20, ln_20, ln_21, ln_22, ln_23, ln_24, ln_25, ln_26, ln_27, ln_28, ln_29, ln_30, ln_31, ln_32, List.getElem?_cons_zero, List.getElem?_cons_succ, List.set_cons_zero, List.set_cons_succ, true_and, and_true, ↓reduceIte, Int32.reduceLT, Int32.reduceLE, li_10, or_true, true_or, ↓sp_Model_say, t0, t1, t2, hw, l10, not_false_eq_true]
    exact Z _ hM
  | succ k ih =>
    intro M hk hw hM
    have t0 : ¬ tn (k + 1) ≤ 0 := nI_nle (Nat.pow_pos (by decide)) (Nat.lt_of_le_of_lt (Nat.pow_le_pow_right (by decide) hk) (by decide))
    have t1 : ¬ tn (k + 1) = 0 := nI_ne0 (Nat.pow_pos (by decide)) (Nat.lt_of_le_of_lt (Nat.pow_le_pow_right (by decide) hk) (by decide))
    have t2 : tn (k + 1) / 10 = tn k := by
      rcases (show k = 0 ∨ k = 1 ∨ k = 2 ∨ k = 3 ∨ k = 4 ∨ k = 5 ∨ k = 6 ∨ k = 7 ∨ k = 8 by omega) with rfl | rfl | rfl | rfl | rfl | rfl | rfl | rfl | rfl <;> decide
    refine am_from (tb_Model_number (ok_Model_say hG) (by decide)) k_Model_number 400 ?_
    simp only [q_Model_number_23, q_Model_number_39, r_Model_number_0, r_Model_number_1, r_Model_number_4, r_Model_number_5, r_Model_number_7, r_Model_number_10, r_Model_number_11, r_Model_number_14, r_Model_number_15, r_Model_number_16, r_Model_number_19, r_Model_number_20, r_Model_number_21, r_Model_number_22, r_Model_number_23, r_Model_number_24, r_Model_number_25, r_Model_number_26, r_Model_number_28, r_Model_number_31, r_Model_number_32, r_Model_number_34, r_Model_number_35, r_Model_number_36, r_Model_number_39, r_Model_number_40, r_Model_number_43, r_Model_number_44, r_Model_number_46, r_Model_number_47, r_Model_number_48, r_Model_number_49, r_Model_number_51, r_Model_number_52, r_Model_number_53, r_Model_number_56, r_Model_number_57, r_Model_number_59, r_Model_number_60, r_Model_number_61, r_Model_number_64, ai_iload, ai_ifge, ai_aload, ai_const, ai_callv2, am_push, am_few, ai_ineg, ai_goto, ai_istore, am_cut_0, am_cut_s, am_c1, ai_idiv, ai_cmple, ai_imul, ai_bin, ai_ifle, ai_irem, ai_iadd, ai_vret, kd_0, fd_0_0, fd_0_1, fd_0_2, fd_0_3, fd_0_4, kd_1, fd_1_0, fd_1_1, ln_2, kd_3, fd_3_0, fd_3_1, fd_3_2, fd_3_3, fd_3_4, fd_3_5, fd_3_6, fd_3_7, fd_3_8, fd_3_9, ln_4, ln_5, ln_6, ln_7, ln_8, ln_9, ln_10, kd_11, fd_11_0, fd_11_1, fd_11_2, fd_11_3, fd_11_4, kd_12, fd_12_0, fd_12_1, fd_12_2, fd_12_3, ln_13, ln_14, ln_15, kd_16, fd_16_0, fd_16_1, fd_16_2, ln_17, kd_18, fd_18_0, fd_18_1, kd_19, fd_19_0, fd_19_1, fd_19_2, fd_19_3, fd_19_4, fd_19_5, fd_19_6, fd_19_7, fd_19_8, fd_19_9, fd_19_10, fd_19_11, fd_19_12, fd_19_13, fd_19_14, fd_19_15, fd_19_16, fd_19_17, fd_19_18, fd_19_19, fd_19_20, ln_20, ln_21, ln_22, ln_23, ln_24, ln_25, ln_26, ln_27, ln_28, ln_29, ln_30, ln_31, ln_32, List.getElem?_cons_zero, List.getElem?_cons_succ, List.set_cons_zero, List.set_cons_succ, true_and, and_true, ↓reduceIte, Int32.reduceLT, Int32.reduceLE, li_10, or_true, true_or, ↓sp_Model_say, t0, t1, t2, hw, l10, not_false_eq_true]
    exact ih _ (by omega) (m_say_rel hw).2.2 hM
set_option maxRecDepth 100000 in
set_option maxHeartbeats 4000000 in
theorem lp_Model_number1' {G : aG} (hG : am_ok G) {K : aR} {v l : Int32} {M : aM} (hw : mw_ok M) : ∀ (r k : Nat), k + r = 9 → K none (m_says M (m_dgs l (m_kf l r k))) → am_X G Y_Model_number 1 K 23 [some (.ref 19), some (.int v), some (.int l), some (.int (tn k))] [] M := by
  intro r
  induction r with
  | zero =>
    intro k hk hK
    have e : k = 9 := by omega
    subst e
    have d9 := div9 l
    have t1 : ¬ tn 9 = 0 := by decide
    refine am_from (tb_Model_number (ok_Model_say hG) (by decide)) k_Model_number 400 ?_
    simp only [q_Model_number_23, q_Model_number_39, r_Model_number_0, r_Model_number_1, r_Model_number_4, r_Model_number_5, r_Model_number_7, r_Model_number_10, r_Model_number_11, r_Model_number_14, r_Model_number_15, r_Model_number_16, r_Model_number_19, r_Model_number_20, r_Model_number_21, r_Model_number_22, r_Model_number_23, r_Model_number_24, r_Model_number_25, r_Model_number_26, r_Model_number_28, r_Model_number_31, r_Model_number_32, r_Model_number_34, r_Model_number_35, r_Model_number_36, r_Model_number_39, r_Model_number_40, r_Model_number_43, r_Model_number_44, r_Model_number_46, r_Model_number_47, r_Model_number_48, r_Model_number_49, r_Model_number_51, r_Model_number_52, r_Model_number_53, r_Model_number_56, r_Model_number_57, r_Model_number_59, r_Model_number_60, r_Model_number_61, r_Model_number_64, ai_iload, ai_ifge, ai_aload, ai_const, ai_callv2, am_push, am_few, ai_ineg, ai_goto, ai_istore, am_cut_0, am_cut_s, am_c1, ai_idiv, ai_cmple, ai_imul, ai_bin, ai_ifle, ai_irem, ai_iadd, ai_vret, kd_0, fd_0_0, fd_0_1, fd_0_2, fd_0_3, fd_0_4, kd_1, fd_1_0, fd_1_1, ln_2, kd_3, fd_3_0, fd_3_1, fd_3_2, fd_3_3, fd_3_4, fd_3_5, fd_3_6, fd_3_7, fd_3_8, fd_3_9, ln_4, ln_5, ln_6, ln_7, ln_8, ln_9, ln_10, kd_11, fd_11_0, fd_11_1, fd_11_2, fd_11_3, fd_11_4, kd_12, fd_12_0, fd_12_1, fd_12_2, fd_12_3, ln_13, ln_14, ln_15, kd_16, fd_16_0, fd_16_1, fd_16_2, ln_17, kd_18, fd_18_0, fd_18_1, kd_19, fd_19_0, fd_19_1, fd_19_2, fd_19_3, fd_19_4, fd_19_5, fd_19_6, fd_19_7, fd_19_8, fd_19_9, fd_19_10, fd_19_11, fd_19_12, fd_19_13, fd_19_14, fd_19_15, fd_19_16, fd_19_17, fd_19_18, fd_19_19, fd_19_20, ln_20, ln_21, ln_22, ln_23, ln_24, ln_25, ln_26, ln_27, ln_28, ln_29, ln_30, ln_31, ln_32, List.getElem?_cons_zero, List.getElem?_cons_succ, List.set_cons_zero, List.set_cons_succ, true_and, and_true, ↓reduceIte, Int32.reduceLT, Int32.reduceLE, li_10, or_true, true_or, d9, t1, not_false_eq_true]
    exact lp_Model_number2' hG 9 M (by omega) hw hK
  | succ r ih =>
    intro k hk hK
    have t1 : ¬ tn k = 0 := nI_ne0 (Nat.pow_pos (by decide)) (Nat.lt_of_le_of_lt (Nat.pow_le_pow_right (by decide) (show k ≤ 9 by omega)) (by decide))
    have t3 : tn k * 10 = tn (k + 1) := by
      rcases (show k = 0 ∨ k = 1 ∨ k = 2 ∨ k = 3 ∨ k = 4 ∨ k = 5 ∨ k = 6 ∨ k = 7 ∨ k = 8 by omega) with rfl | rfl | rfl | rfl | rfl | rfl | rfl | rfl | rfl <;> decide
    rw [m_kf] at hK
    by_cases c : 9 < l / tn k
    · rw [if_pos c] at hK
      refine am_from (tb_Model_number (ok_Model_say hG) (by decide)) k_Model_number 400 ?_
      simp only [q_Model_number_23, q_Model_number_39, r_Model_number_0, r_Model_number_1, r_Model_number_4, r_Model_number_5, r_Model_number_7, r_Model_number_10, r_Model_number_11, r_Model_number_14, r_Model_number_15, r_Model_number_16, r_Model_number_19, r_Model_number_20, r_Model_number_21, r_Model_number_22, r_Model_number_23, r_Model_number_24, r_Model_number_25, r_Model_number_26, r_Model_number_28, r_Model_number_31, r_Model_number_32, r_Model_number_34, r_Model_number_35, r_Model_number_36, r_Model_number_39, r_Model_number_40, r_Model_number_43, r_Model_number_44, r_Model_number_46, r_Model_number_47, r_Model_number_48, r_Model_number_49, r_Model_number_51, r_Model_number_52, r_Model_number_53, r_Model_number_56, r_Model_number_57, r_Model_number_59, r_Model_number_60, r_Model_number_61, r_Model_number_64, ai_iload, ai_ifge, ai_aload, ai_const, ai_callv2, am_push, am_few, ai_ineg, ai_goto, ai_istore, am_cut_0, am_cut_s, am_c1, ai_idiv, ai_cmple, ai_imul, ai_bin, ai_ifle, ai_irem, ai_iadd, ai_vret, kd_0, fd_0_0, fd_0_1, fd_0_2, fd_0_3, fd_0_4, kd_1, fd_1_0, fd_1_1, ln_2, kd_3, fd_3_0, fd_3_1, fd_3_2, fd_3_3, fd_3_4, fd_3_5, fd_3_6, fd_3_7, fd_3_8, fd_3_9, ln_4, ln_5, ln_6, ln_7, ln_8, ln_9, ln_10, kd_11, fd_11_0, fd_11_1, fd_11_2, fd_11_3, fd_11_4, kd_12, fd_12_0, fd_12_1, fd_12_2, fd_12_3, ln_13, ln_14, ln_15, kd_16, fd_16_0, fd_16_1, fd_16_2, ln_17, kd_18, fd_18_0, fd_18_1, kd_19, fd_19_0, fd_19_1, fd_19_2, fd_19_3, fd_19_4, fd_19_5, fd_19_6, fd_19_7, fd_19_8, fd_19_9, fd_19_10, fd_19_11, fd_19_12, fd_19_13, fd_19_14, fd_19_15, fd_19_16, fd_19_17, fd_19_18, fd_19_19, fd_19_20, ln_20, ln_21, ln_22, ln_23, ln_24, ln_25, ln_26, ln_27, ln_28, ln_29, ln_30, ln_31, ln_32, List.getElem?_cons_zero, List.getElem?_cons_succ, List.set_cons_zero, List.set_cons_succ, true_and, and_true, ↓reduceIte, Int32.reduceLT, Int32.reduceLE, li_10, or_true, true_or, c, t1, t3, not_false_eq_true]
      exact ih (k + 1) (by omega) hK
    · rw [if_neg c] at hK
      refine am_from (tb_Model_number (ok_Model_say hG) (by decide)) k_Model_number 400 ?_
      simp only [q_Model_number_23, q_Model_number_39, r_Model_number_0, r_Model_number_1, r_Model_number_4, r_Model_number_5, r_Model_number_7, r_Model_number_10, r_Model_number_11, r_Model_number_14, r_Model_number_15, r_Model_number_16, r_Model_number_19, r_Model_number_20, r_Model_number_21, r_Model_number_22, r_Model_number_23, r_Model_number_24, r_Model_number_25, r_Model_number_26, r_Model_number_28, r_Model_number_31, r_Model_number_32, r_Model_number_34, r_Model_number_35, r_Model_number_36, r_Model_number_39, r_Model_number_40, r_Model_number_43, r_Model_number_44, r_Model_number_46, r_Model_number_47, r_Model_number_48, r_Model_number_49, r_Model_number_51, r_Model_number_52, r_Model_number_53, r_Model_number_56, r_Model_number_57, r_Model_number_59, r_Model_number_60, r_Model_number_61, r_Model_number_64, ai_iload, ai_ifge, ai_aload, ai_const, ai_callv2, am_push, am_few, ai_ineg, ai_goto, ai_istore, am_cut_0, am_cut_s, am_c1, ai_idiv, ai_cmple, ai_imul, ai_bin, ai_ifle, ai_irem, ai_iadd, ai_vret, kd_0, fd_0_0, fd_0_1, fd_0_2, fd_0_3, fd_0_4, kd_1, fd_1_0, fd_1_1, ln_2, kd_3, fd_3_0, fd_3_1, fd_3_2, fd_3_3, fd_3_4, fd_3_5, fd_3_6, fd_3_7, fd_3_8, fd_3_9, ln_4, ln_5, ln_6, ln_7, ln_8, ln_9, ln_10, kd_11, fd_11_0, fd_11_1, fd_11_2, fd_11_3, fd_11_4, kd_12, fd_12_0, fd_12_1, fd_12_2, fd_12_3, ln_13, ln_14, ln_15, kd_16, fd_16_0, fd_16_1, fd_16_2, ln_17, kd_18, fd_18_0, fd_18_1, kd_19, fd_19_0, fd_19_1, fd_19_2, fd_19_3, fd_19_4, fd_19_5, fd_19_6, fd_19_7, fd_19_8, fd_19_9, fd_19_10, fd_19_11, fd_19_12, fd_19_13, fd_19_14, fd_19_15, fd_19_16, fd_19_17, fd_19_18, fd_19_19, fd_19_20, ln_20, ln_21, ln_22, ln_23, ln_24, ln_25, ln_26, ln_27, ln_28, ln_29, ln_30, ln_31, ln_32, List.getElem?_cons_zero, List.getElem?_cons_succ, List.set_cons_zero, List.set_cons_succ, true_and, and_true, ↓reduceIte, Int32.reduceLT, Int32.reduceLE, li_10, or_true, true_or, c, t1, not_false_eq_true]
      exact lp_Model_number2' hG k M (by omega) hw hK
set_option maxRecDepth 100000 in
set_option maxHeartbeats 4000000 in
theorem ok_Model_number1 {G : aG} (hG : am_ok G) : am_Sp G Y_Model_number 1 sp_Model_number1 := by
  intro as M K h
  unfold sp_Model_number1 at h
  split at h
  · next a v =>
    obtain ⟨rfl, hw, h⟩ := h
    unfold m_num at h
    by_cases c : 0 ≤ v
    · rw [if_pos c] at h
      refine am_entry hG (by decide +kernel) (Nat.le_of_ble_eq_true rfl) ?_
      refine am_go (cuts := k_Model_number) (tb_Model_number (ok_Model_say hG) (by decide)) 400 _ _ _ _ ?_
      change am_run _ _ _ _ _ _ [some (.ref 19), some (.int v), none, none] [] _
      simp only [q_Model_number_23, q_Model_number_39, r_Model_number_0, r_Model_number_1, r_Model_number_4, r_Model_number_5, r_Model_number_7, r_Model_number_10, r_Model_number_11, r_Model_number_14, r_Model_number_15, r_Model_number_16, r_Model_number_19, r_Model_number_20, r_Model_number_21, r_Model_number_22, r_Model_number_23, r_Model_number_24, r_Model_number_25, r_Model_number_26, r_Model_number_28, r_Model_number_31, r_Model_number_32, r_Model_number_34, r_Model_number_35, r_Model_number_36, r_Model_number_39, r_Model_number_40, r_Model_number_43, r_Model_number_44, r_Model_number_46, r_Model_number_47, r_Model_number_48, r_Model_number_49, r_Model_number_51, r_Model_number_52, r_Model_number_53, r_Model_number_56, r_Model_number_57, r_Model_number_59, r_Model_number_60, r_Model_number_61, r_Model_number_64, ai_iload, ai_ifge, ai_aload, ai_const, ai_callv2, am_push, am_few, ai_ineg, ai_goto, ai_istore, am_cut_0, am_cut_s, am_c1, ai_idiv, ai_cmple, ai_imul, ai_bin, ai_ifle, ai_irem, ai_iadd, ai_vret, kd_0, fd_0_0, fd_0_1, fd_0_2, fd_0_3, fd_0_4, kd_1, fd_1_0, fd_1_1, ln_2, kd_3, fd_3_0, fd_3_1, fd_3_2, fd_3_3, fd_3_4, fd_3_5, fd_3_6, fd_3_7, fd_3_8, fd_3_9, ln_4, ln_5, ln_6, ln_7, ln_8, ln_9, ln_10, kd_11, fd_11_0, fd_11_1, fd_11_2, fd_11_3, fd_11_4, kd_12, fd_12_0, fd_12_1, fd_12_2, fd_12_3, ln_13, ln_14, ln_15, kd_16, fd_16_0, fd_16_1, fd_16_2, ln_17, kd_18, fd_18_0, fd_18_1, kd_19, fd_19_0, fd_19_1, fd_19_2, fd_19_3, fd_19_4, fd_19_5, fd_19_6, fd_19_7, fd_19_8, fd_19_9, fd_19_10, fd_19_11, fd_19_12, fd_19_13, fd_19_14, fd_19_15, fd_19_16, fd_19_17, fd_19_18, fd_19_19, fd_19_20, ln_20, ln_21, ln_22, ln_23, ln_24, ln_25, ln_26, ln_27, ln_28, ln_29, ln_30, ln_31, ln_32, List.getElem?_cons_zero, List.getElem?_cons_succ, List.set_cons_zero, List.set_cons_succ, true_and, and_true, ↓reduceIte, Int32.reduceLT, Int32.reduceLE, li_10, or_true, true_or, c]
      exact lp_Model_number1' hG hw 9 0 rfl h
    · rw [if_neg c, m_says_cons] at h
      refine am_entry hG (by decide +kernel) (Nat.le_of_ble_eq_true rfl) ?_
      refine am_go (cuts := k_Model_number) (tb_Model_number (ok_Model_say hG) (by decide)) 400 _ _ _ _ ?_
      change am_run _ _ _ _ _ _ [some (.ref 19), some (.int v), none, none] [] _
      simp only [q_Model_number_23, q_Model_number_39, r_Model_number_0, r_Model_number_1, r_Model_number_4, r_Model_number_5, r_Model_number_7, r_Model_number_10, r_Model_number_11, r_Model_number_14, r_Model_number_15, r_Model_number_16, r_Model_number_19, r_Model_number_20, r_Model_number_21, r_Model_number_22, r_Model_number_23, r_Model_number_24, r_Model_number_25, r_Model_number_26, r_Model_number_28, r_Model_number_31, r_Model_number_32, r_Model_number_34, r_Model_number_35, r_Model_number_36, r_Model_number_39, r_Model_number_40, r_Model_number_43, r_Model_number_44, r_Model_number_46, r_Model_number_47, r_Model_number_48, r_Model_number_49, r_Model_number_51, r_Model_number_52, r_Model_number_53, r_Model_number_56, r_Model_number_57, r_Model_number_59, r_Model_number_60, r_Model_number_61, r_Model_number_64, ai_iload, ai_ifge, ai_aload, ai_const, ai_callv2, am_push, am_few, ai_ineg, ai_goto, ai_istore, am_cut_0, am_cut_s, am_c1, ai_idiv, ai_cmple, ai_imul, ai_bin, ai_ifle, ai_irem, ai_iadd, ai_vret, kd_0, fd_0_0, fd_0_1, fd_0_2, fd_0_3, fd_0_4, kd_1, fd_1_0, fd_1_1, ln_2, kd_3, fd_3_0, fd_3_1, fd_3_2, fd_3_3, fd_3_4, fd_3_5, fd_3_6, fd_3_7, fd_3_8, fd_3_9, ln_4, ln_5, ln_6, ln_7, ln_8, ln_9, ln_10, kd_11, fd_11_0, fd_11_1, fd_11_2, fd_11_3, fd_11_4, kd_12, fd_12_0, fd_12_1, fd_12_2, fd_12_3, ln_13, ln_14, ln_15, kd_16, fd_16_0, fd_16_1, fd_16_2, ln_17, kd_18, fd_18_0, fd_18_1, kd_19, fd_19_0, fd_19_1, fd_19_2, fd_19_3, fd_19_4, fd_19_5, fd_19_6, fd_19_7, fd_19_8, fd_19_9, fd_19_10, fd_19_11, fd_19_12, fd_19_13, fd_19_14, fd_19_15, fd_19_16, fd_19_17, fd_19_18, fd_19_19, fd_19_20, ln_20, ln_21, ln_22, ln_23, ln_24, ln_25, ln_26, ln_27, ln_28, ln_29, ln_30, ln_31, ln_32, List.getElem?_cons_zero, List.getElem?_cons_succ, List.set_cons_zero, List.set_cons_succ, true_and, and_true, ↓reduceIte, Int32.reduceLT, Int32.reduceLE, li_10, or_true, true_or, ↓sp_Model_say, hw, c]
      exact lp_Model_number1' hG (m_say_rel hw).2.2 9 0 rfl h
  · cases h
def sp_Model_letters1 : aS := fun as M K => match as with
  | [.ref a, .int n] => a = 19 ∧ (mw_ok M ∧ ∃ x v, x < 200 ∧ n = nI x ∧ v ≤ 20 ∧ M 22 x = nI v) ∧ K none (m_says M (m_ltx M (cl n)))
  | _ => False
set_option maxRecDepth 100000 in
set_option maxHeartbeats 4000000 in
theorem lp_Model_letters1 {G : aG} (hG : am_ok G) {K : aR} {M0 : aM} {x v : Nat} (hx : x < 200) (hv : v ≤ 20) (h22 : M0 22 x = nI v) : ∀ (r k : Nat) (M : aM) (o4 : Option Value), k + r = v → wr_rel M0 M → K none (m_says M (m_stb M0 x r k)) → am_X G Y_Model_letters 1 K 28 [some (.ref 19), some (.int (nI x)), some (.int 1), some (.int (nI k)), o4] [] M := by
  intro r
  have vx : vp_in (nI x) 200 := vp_in_nI hx (by decide)
  have cx : (nI x).toNatClampNeg = x := nI_clamp (by omega)
  induction r with
  | zero =>
    intro k M o4 hk hM hK
    have e22 : M 22 x = nI v := by rw [hM.1 22 (by decide) (by decide)]; exact h22
    have e1 : ¬ nI k < nI v := nI_nlt (by omega) (by omega)
    have hw := hM.2.2
    refine am_from (tb_Model_letters (ok_Model_say hG) (by decide)) k_Model_letters 400 ?_
    simp only [q_Model_letters_28, r_Model_letters_0, r_Model_letters_1, r_Model_letters_4, r_Model_letters_5, r_Model_letters_6, r_Model_letters_7, r_Model_letters_10, r_Model_letters_11, r_Model_letters_14, r_Model_letters_15, r_Model_letters_16, r_Model_letters_17, r_Model_letters_20, r_Model_letters_21, r_Model_letters_23, r_Model_letters_26, r_Model_letters_27, r_Model_letters_28, r_Model_letters_29, r_Model_letters_30, r_Model_letters_33, r_Model_letters_34, r_Model_letters_35, r_Model_letters_38, r_Model_letters_39, r_Model_letters_42, r_Model_letters_44, r_Model_letters_45, r_Model_letters_46, r_Model_letters_47, r_Model_letters_48, r_Model_letters_49, r_Model_letters_51, r_Model_letters_52, r_Model_letters_55, r_Model_letters_57, r_Model_letters_59, r_Model_letters_62, r_Model_letters_64, r_Model_letters_66, r_Model_letters_69, r_Model_letters_70, r_Model_letters_72, r_Model_letters_75, r_Model_letters_76, r_Model_letters_78, r_Model_letters_81, r_Model_letters_84, r_Model_letters_87, r_Model_letters_88, r_Model_letters_91, r_Model_letters_92, r_Model_letters_94, r_Model_letters_97, ai_aload, ai_getf, ai_iload, ai_iald, ai_const, ai_cmpne, ai_goto, ai_istore, am_cut_0, am_cut_s, am_c1, ai_ifeq, ai_callv2, am_push, am_few, ai_cmpge, ai_imul, ai_bin, ai_iadd, ai_cmpeq, ai_iinc, ai_vret, kd_0, fd_0_0, fd_0_1, fd_0_2, fd_0_3, fd_0_4, kd_1, fd_1_0, fd_1_1, ln_2, kd_3, fd_3_0, fd_3_1, fd_3_2, fd_3_3, fd_3_4, fd_3_5, fd_3_6, fd_3_7, fd_3_8, fd_3_9, ln_4, ln_5, ln_6, ln_7, ln_8, ln_9, ln_10, kd_11, fd_11_0, fd_11_1, fd_11_2, fd_11_3, fd_11_4, kd_12, fd_12_0, fd_12_1, fd_12_2, fd_12_3, ln_13, ln_14, ln_15, kd_16, fd_16_0, fd_16_1, fd_16_2, ln_17, kd_18, fd_18_0, fd_18_1, kd_19, fd_19_0, fd_19_1, fd_19_2, fd_19_3, fd_19_4, fd_19_5, fd_19_6, fd_19_7, fd_19_8, fd_19_9, fd_19_10, fd_19_11, fd_19_12, fd_19_13, fd_19_14, fd_19_15, fd_19_16, fd_19_17, fd_19_18, fd_19_19, fd_19_20, ln_20, ln_21, ln_22, ln_23, ln_24, ln_25, ln_26, ln_27, ln_28, ln_29, ln_30, ln_31, ln_32, List.getElem?_cons_zero, List.getElem?_cons_succ, List.set_cons_zero, List.set_cons_succ, true_and, and_true, ↓reduceIte, Int32.reduceLT, Int32.reduceLE, li_10, or_true, true_or, ↓sp_Model_say, vx, cx, e22, e1, hw]
    exact hK
  | succ r ih =>
    intro k M o4 hk hM hK
    have e22 : M 22 x = nI v := by rw [hM.1 22 (by decide) (by decide)]; exact h22
    have e23 : M 23 = M0 23 := hM.1 23 (by decide) (by decide)
    have e1 : nI k < nI v := nI_lt (by omega) (by omega)
    have hw := hM.2.2
    have ei := ix20 (x := x) (k := k) hx (by omega)
    have vi : vp_in (20 * nI x + nI k) 4000 := by rw [ei]; exact vp_in_nI (by omega) (by decide)
    have ci : (20 * nI x + nI k).toNatClampNeg = 20 * x + k := by rw [ei]; exact nI_clamp (by omega)
    have hM1 := hM.tr (m_say_rel (b := 92) hw)
    have hw1 := hM1.2.2
    have s23 : m_say M 92 23 = M 23 := (m_say_rel (b := 92) hw).1 23 (by decide) (by decide)
    rw [m_stb, ← e23] at hK
    by_cases c1 : M 23 (20 * x + k) = 34
    · have c1' : (M 23 (20 * x + k) = 34) = True := eq_true c1
      rw [if_pos c1] at hK
      refine am_from (tb_Model_letters (ok_Model_say hG) (by decide)) k_Model_letters 400 ?_
      simp only [q_Model_letters_28, r_Model_letters_0, r_Model_letters_1, r_Model_letters_4, r_Model_letters_5, r_Model_letters_6, r_Model_letters_7, r_Model_letters_10, r_Model_letters_11, r_Model_letters_14, r_Model_letters_15, r_Model_letters_16, r_Model_letters_17, r_Model_letters_20, r_Model_letters_21, r_Model_letters_23, r_Model_letters_26, r_Model_letters_27, r_Model_letters_28, r_Model_letters_29, r_Model_letters_30, r_Model_letters_33, r_Model_letters_34, r_Model_letters_35, r_Model_letters_38, r_Model_letters_39, r_Model_letters_42, r_Model_letters_44, r_Model_letters_45, r_Model_letters_46, r_Model_letters_47, r_Model_letters_48, r_Model_letters_49, r_Model_letters_51, r_Model_letters_52, r_Model_letters_55, r_Model_letters_57, r_Model_letters_59, r_Model_letters_62, r_Model_letters_64, r_Model_letters_66, r_Model_letters_69, r_Model_letters_70, r_Model_letters_72, r_Model_letters_75, r_Model_letters_76, r_Model_letters_78, r_Model_letters_81, r_Model_letters_84, r_Model_letters_87, r_Model_letters_88, r_Model_letters_91, r_Model_letters_92, r_Model_letters_94, r_Model_letters_97, ai_aload, ai_getf, ai_iload, ai_iald, ai_const, ai_cmpne, ai_goto, ai_istore, am_cut_0, am_cut_s, am_c1, ai_ifeq, ai_callv2, am_push, am_few, ai_cmpge, ai_imul, ai_bin, ai_iadd, ai_cmpeq, ai_iinc, ai_vret, kd_0, fd_0_0, fd_0_1, fd_0_2, fd_0_3, fd_0_4, kd_1, fd_1_0, fd_1_1, ln_2, kd_3, fd_3_0, fd_3_1, fd_3_2, fd_3_3, fd_3_4, fd_3_5, fd_3_6, fd_3_7, fd_3_8, fd_3_9, ln_4, ln_5, ln_6, ln_7, ln_8, ln_9, ln_10, kd_11, fd_11_0, fd_11_1, fd_11_2, fd_11_3, fd_11_4, kd_12, fd_12_0, fd_12_1, fd_12_2, fd_12_3, ln_13, ln_14, ln_15, kd_16, fd_16_0, fd_16_1, fd_16_2, ln_17, kd_18, fd_18_0, fd_18_1, kd_19, fd_19_0, fd_19_1, fd_19_2, fd_19_3, fd_19_4, fd_19_5, fd_19_6, fd_19_7, fd_19_8, fd_19_9, fd_19_10, fd_19_11, fd_19_12, fd_19_13, fd_19_14, fd_19_15, fd_19_16, fd_19_17, fd_19_18, fd_19_19, fd_19_20, ln_20, ln_21, ln_22, ln_23, ln_24, ln_25, ln_26, ln_27, ln_28, ln_29, ln_30, ln_31, ln_32, List.getElem?_cons_zero, List.getElem?_cons_succ, List.set_cons_zero, List.set_cons_succ, true_and, and_true, ↓reduceIte, Int32.reduceLT, Int32.reduceLE, li_10, or_true, true_or, ↓sp_Model_say, vx, cx, e22, e1, vi, ci, hw, hw1, c1', nI_1]
      exact ih (k + 1) _ _ (by omega) (hM1.tr (m_say_rel hw1)) hK
    rw [if_neg c1] at hK
    by_cases c2 : M 23 (20 * x + k) = 92
    · have c2' : (M 23 (20 * x + k) = 92) = True := eq_true c2
      rw [if_pos c2] at hK
      refine am_from (tb_Model_letters (ok_Model_say hG) (by decide)) k_Model_letters 400 ?_
      simp only [q_Model_letters_28, r_Model_letters_0, r_Model_letters_1, r_Model_letters_4, r_Model_letters_5, r_Model_letters_6, r_Model_letters_7, r_Model_letters_10, r_Model_letters_11, r_Model_letters_14, r_Model_letters_15, r_Model_letters_16, r_Model_letters_17, r_Model_letters_20, r_Model_letters_21, r_Model_letters_23, r_Model_letters_26, r_Model_letters_27, r_Model_letters_28, r_Model_letters_29, r_Model_letters_30, r_Model_letters_33, r_Model_letters_34, r_Model_letters_35, r_Model_letters_38, r_Model_letters_39, r_Model_letters_42, r_Model_letters_44, r_Model_letters_45, r_Model_letters_46, r_Model_letters_47, r_Model_letters_48, r_Model_letters_49, r_Model_letters_51, r_Model_letters_52, r_Model_letters_55, r_Model_letters_57, r_Model_letters_59, r_Model_letters_62, r_Model_letters_64, r_Model_letters_66, r_Model_letters_69, r_Model_letters_70, r_Model_letters_72, r_Model_letters_75, r_Model_letters_76, r_Model_letters_78, r_Model_letters_81, r_Model_letters_84, r_Model_letters_87, r_Model_letters_88, r_Model_letters_91, r_Model_letters_92, r_Model_letters_94, r_Model_letters_97, ai_aload, ai_getf, ai_iload, ai_iald, ai_const, ai_cmpne, ai_goto, ai_istore, am_cut_0, am_cut_s, am_c1, ai_ifeq, ai_callv2, am_push, am_few, ai_cmpge, ai_imul, ai_bin, ai_iadd, ai_cmpeq, ai_iinc, ai_vret, kd_0, fd_0_0, fd_0_1, fd_0_2, fd_0_3, fd_0_4, kd_1, fd_1_0, fd_1_1, ln_2, kd_3, fd_3_0, fd_3_1, fd_3_2, fd_3_3, fd_3_4, fd_3_5, fd_3_6, fd_3_7, fd_3_8, fd_3_9, ln_4, ln_5, ln_6, ln_7, ln_8, ln_9, ln_10, kd_11, fd_11_0, fd_11_1, fd_11_2, fd_11_3, fd_11_4, kd_12, fd_12_0, fd_12_1, fd_12_2, fd_12_3, ln_13, ln_14, ln_15, kd_16, fd_16_0, fd_16_1, fd_16_2, ln_17, kd_18, fd_18_0, fd_18_1, kd_19, fd_19_0, fd_19_1, fd_19_2, fd_19_3, fd_19_4, fd_19_5, fd_19_6, fd_19_7, fd_19_8, fd_19_9, fd_19_10, fd_19_11, fd_19_12, fd_19_13, fd_19_14, fd_19_15, fd_19_16, fd_19_17, fd_19_18, fd_19_19, fd_19_20, ln_20, ln_21, ln_22, ln_23, ln_24, ln_25, ln_26, ln_27, ln_28, ln_29, ln_30, ln_31, ln_32, List.getElem?_cons_zero, List.getElem?_cons_succ, List.set_cons_zero, List.set_cons_succ, true_and, and_true, ↓reduceIte, Int32.reduceLT, Int32.reduceLE, li_10, or_true, true_or, ↓sp_Model_say, vx, cx, e22, e1, vi, ci, hw, hw1, c1, c2', nI_1]
      exact ih (k + 1) _ _ (by omega) (hM1.tr (m_say_rel hw1)) hK
    · rw [if_neg c2] at hK
      refine am_from (tb_Model_letters (ok_Model_say hG) (by decide)) k_Model_letters 400 ?_
      simp only [q_Model_letters_28, r_Model_letters_0, r_Model_letters_1, r_Model_letters_4, r_Model_letters_5, r_Model_letters_6, r_Model_letters_7, r_Model_letters_10, r_Model_letters_11, r_Model_letters_14, r_Model_letters_15, r_Model_letters_16, r_Model_letters_17, r_Model_letters_20, r_Model_letters_21, r_Model_letters_23, r_Model_letters_26, r_Model_letters_27, r_Model_letters_28, r_Model_letters_29, r_Model_letters_30, r_Model_letters_33, r_Model_letters_34, r_Model_letters_35, r_Model_letters_38, r_Model_letters_39, r_Model_letters_42, r_Model_letters_44, r_Model_letters_45, r_Model_letters_46, r_Model_letters_47, r_Model_letters_48, r_Model_letters_49, r_Model_letters_51, r_Model_letters_52, r_Model_letters_55, r_Model_letters_57, r_Model_letters_59, r_Model_letters_62, r_Model_letters_64, r_Model_letters_66, r_Model_letters_69, r_Model_letters_70, r_Model_letters_72, r_Model_letters_75, r_Model_letters_76, r_Model_letters_78, r_Model_letters_81, r_Model_letters_84, r_Model_letters_87, r_Model_letters_88, r_Model_letters_91, r_Model_letters_92, r_Model_letters_94, r_Model_letters_97, ai_aload, ai_getf, ai_iload, ai_iald, ai_const, ai_cmpne, ai_goto, ai_istore, am_cut_0, am_cut_s, am_c1, ai_ifeq, ai_callv2, am_push, am_few, ai_cmpge, ai_imul, ai_bin, ai_iadd, ai_cmpeq, ai_iinc, ai_vret, kd_0, fd_0_0, fd_0_1, fd_0_2, fd_0_3, fd_0_4, kd_1, fd_1_0, fd_1_1, ln_2, kd_3, fd_3_0, fd_3_1, fd_3_2, fd_3_3, fd_3_4, fd_3_5, fd_3_6, fd_3_7, fd_3_8, fd_3_9, ln_4, ln_5, ln_6, ln_7, ln_8, ln_9, ln_10, kd_11, fd_11_0, fd_11_1, fd_11_2, fd_11_3, fd_11_4, kd_12, fd_12_0, fd_12_1, fd_12_2, fd_12_3, ln_13, ln_14, ln_15, kd_16, fd_16_0, fd_16_1, fd_16_2, ln_17, kd_18, fd_18_0, fd_18_1, kd_19, fd_19_0, fd_19_1, fd_19_2, fd_19_3, fd_19_4, fd_19_5, fd_19_6, fd_19_7, fd_19_8, fd_19_9, fd_19_10, fd_19_11, fd_19_12, fd_19_13, fd_19_14, fd_19_15, fd_19_16, fd_19_17, fd_19_18, fd_19_19, fd_19_20, ln_20, ln_21, ln_22, ln_23, ln_24, ln_25, ln_26, ln_27, ln_28, ln_29, ln_30, ln_31, ln_32, List.getElem?_cons_zero, List.getElem?_cons_succ, List.set_cons_zero, List.set_cons_succ, true_and, and_true, ↓reduceIte, Int32.reduceLT, Int32.reduceLE, li_10, or_true, true_or, ↓sp_Model_say, vx, cx, e22, e1, vi, ci, hw, c1, c2, nI_1]
      exact ih (k + 1) _ _ (by omega) (hM.tr (m_say_rel hw)) hK
set_option maxRecDepth 100000 in
set_option maxHeartbeats 4000000 in
theorem lp_Model_letters0' {G : aG} (hG : am_ok G) {K : aR} {M0 : aM} {x v : Nat} (hx : x < 200) (hv : v ≤ 20) (h22 : M0 22 x = nI v) : ∀ (r k : Nat) (M : aM) (o4 : Option Value), k + r = v → wr_rel M0 M → K none (m_says M (m_bts M0 x r k)) → am_X G Y_Model_letters 1 K 28 [some (.ref 19), some (.int (nI x)), some (.int 0), some (.int (nI k)), o4] [] M := by
  intro r
  have vx : vp_in (nI x) 200 := vp_in_nI hx (by decide)
  have cx : (nI x).toNatClampNeg = x := nI_clamp (by omega)
  induction r with
  | zero =>
    intro k M o4 hk hM hK
    have e22 : M 22 x = nI v := by rw [hM.1 22 (by decide) (by decide)]; exact h22
    have e1 : ¬ nI k < nI v := nI_nlt (by omega) (by omega)
    refine am_from (tb_Model_letters (ok_Model_say hG) (by decide)) k_Model_letters 400 ?_
    simp only [q_Model_letters_28, r_Model_letters_0, r_Model_letters_1, r_Model_letters_4, r_Model_letters_5, r_Model_letters_6, r_Model_letters_7, r_Model_letters_10, r_Model_letters_11, r_Model_letters_14, r_Model_letters_15, r_Model_letters_16, r_Model_letters_17, r_Model_letters_20, r_Model_letters_21, r_Model_letters_23, r_Model_letters_26, r_Model_letters_27, r_Model_letters_28, r_Model_letters_29, r_Model_letters_30, r_Model_letters_33, r_Model_letters_34, r_Model_letters_35, r_Model_letters_38, r_Model_letters_39, r_Model_letters_42, r_Model_letters_44, r_Model_letters_45, r_Model_letters_46, r_Model_letters_47, r_Model_letters_48, r_Model_letters_49, r_Model_letters_51, r_Model_letters_52, r_Model_letters_55, r_Model_letters_57, r_Model_letters_59, r_Model_letters_62, r_Model_letters_64, r_Model_letters_66, r_Model_letters_69, r_Model_letters_70, r_Model_letters_72, r_Model_letters_75, r_Model_letters_76, r_Model_letters_78, r_Model_letters_81, r_Model_letters_84, r_Model_letters_87, r_Model_letters_88, r_Model_letters_91, r_Model_letters_92, r_Model_letters_94, r_Model_letters_97, ai_aload, ai_getf, ai_iload, ai_iald, ai_const, ai_cmpne, ai_goto, ai_istore, am_cut_0, am_cut_s, am_c1, ai_ifeq, ai_callv2, am_push, am_few, ai_cmpge, ai_imul, ai_bin, ai_iadd, ai_cmpeq, ai_iinc, ai_vret, kd_0, fd_0_0, fd_0_1, fd_0_2, fd_0_3, fd_0_4, kd_1, fd_1_0, fd_1_1, ln_2, kd_3, fd_3_0, fd_3_1, fd_3_2, fd_3_3, fd_3_4, fd_3_5, fd_3_6, fd_3_7, fd_3_8, fd_3_9, ln_4, ln_5, ln_6, ln_7, ln_8, ln_9, ln_10, kd_11, fd_11_0, fd_11_1, fd_11_2, fd_11_3, fd_11_4, kd_12, fd_12_0, fd_12_1, fd_12_2, fd_12_3, ln_13, ln_14, ln_15, kd_16, fd_16_0, fd_16_1, fd_16_2, ln_17, kd_18, fd_18_0, fd_18_1, kd_19, fd_19_0, fd_19_1, fd_19_2, fd_19_3, fd_19_4, fd_19_5, fd_19_6, fd_19_7, fd_19_8, fd_19_9, fd_19_10, fd_19_11, fd_19_12, fd_19_13, fd_19_14, fd_19_15, fd_19_16, fd_19_17, fd_19_18, fd_19_19, fd_19_20, ln_20, ln_21, ln_22, ln_23, ln_24, ln_25, ln_26, ln_27, ln_28, ln_29, ln_30, ln_31, ln_32, List.getElem?_cons_zero, List.getElem?_cons_succ, List.set_cons_zero, List.set_cons_succ, true_and, and_true, ↓reduceIte, Int32.reduceLT, Int32.reduceLE, li_10, or_true, true_or, vx, cx, e22, e1]
    exact hK
  | succ r ih =>
    intro k M o4 hk hM hK
    have e22 : M 22 x = nI v := by rw [hM.1 22 (by decide) (by decide)]; exact h22
    have e23 : M 23 = M0 23 := hM.1 23 (by decide) (by decide)
    have e1 : nI k < nI v := nI_lt (by omega) (by omega)
    have hw := hM.2.2
    have ei := ix20 (x := x) (k := k) hx (by omega)
    have vi : vp_in (20 * nI x + nI k) 4000 := by rw [ei]; exact vp_in_nI (by omega) (by decide)
    have ci : (20 * nI x + nI k).toNatClampNeg = 20 * x + k := by rw [ei]; exact nI_clamp (by omega)
    rw [m_bts, ← e23] at hK
    refine am_from (tb_Model_letters (ok_Model_say hG) (by decide)) k_Model_letters 400 ?_
    simp only [q_Model_letters_28, r_Model_letters_0, r_Model_letters_1, r_Model_letters_4, r_Model_letters_5, r_Model_letters_6, r_Model_letters_7, r_Model_letters_10, r_Model_letters_11, r_Model_letters_14, r_Model_letters_15, r_Model_letters_16, r_Model_letters_17, r_Model_letters_20, r_Model_letters_21, r_Model_letters_23, r_Model_letters_26, r_Model_letters_27, r_Model_letters_28, r_Model_letters_29, r_Model_letters_30, r_Model_letters_33, r_Model_letters_34, r_Model_letters_35, r_Model_letters_38, r_Model_letters_39, r_Model_letters_42, r_Model_letters_44, r_Model_letters_45, r_Model_letters_46, r_Model_letters_47, r_Model_letters_48, r_Model_letters_49, r_Model_letters_51, r_Model_letters_52, r_Model_letters_55, r_Model_letters_57, r_Model_letters_59, r_Model_letters_62, r_Model_letters_64, r_Model_letters_66, r_Model_letters_69, r_Model_letters_70, r_Model_letters_72, r_Model_letters_75, r_Model_letters_76, r_Model_letters_78, r_Model_letters_81, r_Model_letters_84, r_Model_letters_87, r_Model_letters_88, r_Model_letters_91, r_Model_letters_92, r_Model_letters_94, r_Model_letters_97, ai_aload, ai_getf, ai_iload, ai_iald, ai_const, ai_cmpne, ai_goto, ai_istore, am_cut_0, am_cut_s, am_c1, ai_ifeq, ai_callv2, am_push, am_few, ai_cmpge, ai_imul, ai_bin, ai_iadd, ai_cmpeq, ai_iinc, ai_vret, kd_0, fd_0_0, fd_0_1, fd_0_2, fd_0_3, fd_0_4, kd_1, fd_1_0, fd_1_1, ln_2, kd_3, fd_3_0, fd_3_1, fd_3_2, fd_3_3, fd_3_4, fd_3_5, fd_3_6, fd_3_7, fd_3_8, fd_3_9, ln_4, ln_5, ln_6, ln_7, ln_8, ln_9, ln_10, kd_11, fd_11_0, fd_11_1, fd_11_2, fd_11_3, fd_11_4, kd_12, fd_12_0, fd_12_1, fd_12_2, fd_12_3, ln_13, ln_14, ln_15, kd_16, fd_16_0, fd_16_1, fd_16_2, ln_17, kd_18, fd_18_0, fd_18_1, kd_19, fd_19_0, fd_19_1, fd_19_2, fd_19_3, fd_19_4, fd_19_5, fd_19_6, fd_19_7, fd_19_8, fd_19_9, fd_19_10, fd_19_11, fd_19_12, fd_19_13, fd_19_14, fd_19_15, fd_19_16, fd_19_17, fd_19_18, fd_19_19, fd_19_20, ln_20, ln_21, ln_22, ln_23, ln_24, ln_25, ln_26, ln_27, ln_28, ln_29, ln_30, ln_31, ln_32, List.getElem?_cons_zero, List.getElem?_cons_succ, List.set_cons_zero, List.set_cons_succ, true_and, and_true, ↓reduceIte, Int32.reduceLT, Int32.reduceLE, li_10, or_true, true_or, ↓sp_Model_say, vx, cx, e22, e1, vi, ci, hw, nI_1]
    exact ih (k + 1) _ _ (by omega) (hM.tr (m_say_rel hw)) hK
set_option maxRecDepth 100000 in
set_option maxHeartbeats 4000000 in
theorem ok_Model_letters1 {G : aG} (hG : am_ok G) : am_Sp G Y_Model_letters 1 sp_Model_letters1 := by
  intro as M K h
  unfold sp_Model_letters1 at h
  split at h
  · next a n =>
    obtain ⟨rfl, ⟨hw, x, v, hx, rfl, hv, h22⟩, h⟩ := h
    have vx : vp_in (nI x) 200 := vp_in_nI hx (by decide)
    have cx : (nI x).toNatClampNeg = x := nI_clamp (by omega)
    rw [show cl (nI x) = x from cx] at h
    unfold m_ltx at h
    rw [h22, show cl (nI v) = v from nI_clamp (by omega)] at h
    by_cases c : M 21 x = 3
    · have c' : (M 21 x = 3) = True := eq_true c
      rw [if_pos c, m_says_cons] at h
      have hM := m_say_rel (b := 34) hw
      have hL : am_X G Y_Model_letters 1 K 28 [some (.ref 19), some (.int (nI x)), some (.int 1), some (.int 0), none] [] (m_say M 34) :=
        lp_Model_letters1 hG hx hv h22 v 0 _ none (by omega) hM h
      refine am_entry hG (by decide +kernel) (Nat.le_of_ble_eq_true rfl) ?_
      refine am_go (cuts := k_Model_letters) (tb_Model_letters (ok_Model_say hG) (by decide)) 400 _ _ _ _ ?_
      change am_run _ _ _ _ _ _ [some (.ref 19), some (.int (nI x)), none, none, none] [] _
      simp only [q_Model_letters_28, r_Model_letters_0, r_Model_letters_1, r_Model_letters_4, r_Model_letters_5, r_Model_letters_6, r_Model_letters_7, r_Model_letters_10, r_Model_letters_11, r_Model_letters_14, r_Model_letters_15, r_Model_letters_16, r_Model_letters_17, r_Model_letters_20, r_Model_letters_21, r_Model_letters_23, r_Model_letters_26, r_Model_letters_27, r_Model_letters_28, r_Model_letters_29, r_Model_letters_30, r_Model_letters_33, r_Model_letters_34, r_Model_letters_35, r_Model_letters_38, r_Model_letters_39, r_Model_letters_42, r_Model_letters_44, r_Model_letters_45, r_Model_letters_46, r_Model_letters_47, r_Model_letters_48, r_Model_letters_49, r_Model_letters_51, r_Model_letters_52, r_Model_letters_55, r_Model_letters_57, r_Model_letters_59, r_Model_letters_62, r_Model_letters_64, r_Model_letters_66, r_Model_letters_69, r_Model_letters_70, r_Model_letters_72, r_Model_letters_75, r_Model_letters_76, r_Model_letters_78, r_Model_letters_81, r_Model_letters_84, r_Model_letters_87, r_Model_letters_88, r_Model_letters_91, r_Model_letters_92, r_Model_letters_94, r_Model_letters_97, ai_aload, ai_getf, ai_iload, ai_iald, ai_const, ai_cmpne, ai_goto, ai_istore, am_cut_0, am_cut_s, am_c1, ai_ifeq, ai_callv2, am_push, am_few, ai_cmpge, ai_imul, ai_bin, ai_iadd, ai_cmpeq, ai_iinc, ai_vret, kd_0, fd_0_0, fd_0_1, fd_0_2, fd_0_3, fd_0_4, kd_1, fd_1_0, fd_1_1, ln_2, kd_3, fd_3_0, fd_3_1, fd_3_2, fd_3_3, fd_3_4, fd_3_5, fd_3_6, fd_3_7, fd_3_8, fd_3_9, ln_4, ln_5, ln_6, ln_7, ln_8, ln_9, ln_10, kd_11, fd_11_0, fd_11_1, fd_11_2, fd_11_3, fd_11_4, kd_12, fd_12_0, fd_12_1, fd_12_2, fd_12_3, ln_13, ln_14, ln_15, kd_16, fd_16_0, fd_16_1, fd_16_2, ln_17, kd_18, fd_18_0, fd_18_1, kd_19, fd_19_0, fd_19_1, fd_19_2, fd_19_3, fd_19_4, fd_19_5, fd_19_6, fd_19_7, fd_19_8, fd_19_9, fd_19_10, fd_19_11, fd_19_12, fd_19_13, fd_19_14, fd_19_15, fd_19_16, fd_19_17, fd_19_18, fd_19_19, fd_19_20, ln_20, ln_21, ln_22, ln_23, ln_24, ln_25, ln_26, ln_27, ln_28, ln_29, ln_30, ln_31, ln_32, List.getElem?_cons_zero, List.getElem?_cons_succ, List.set_cons_zero, List.set_cons_succ, true_and, and_true, ↓reduceIte, Int32.reduceLT, Int32.reduceLE, li_10, or_true, true_or, ↓sp_Model_say, vx, cx, c', hw]
      exact hL
    · rw [if_neg c] at h
      have hL : am_X G Y_Model_letters 1 K 28 [some (.ref 19), some (.int (nI x)), some (.int 0), some (.int 0), none] [] M :=
        lp_Model_letters0' hG hx hv h22 v 0 _ none (by omega) (wr_rel.rf hw) h
      refine am_entry hG (by decide +kernel) (Nat.le_of_ble_eq_true rfl) ?_
      refine am_go (cuts := k_Model_letters) (tb_Model_letters (ok_Model_say hG) (by decide)) 400 _ _ _ _ ?_
      change am_run _ _ _ _ _ _ [some (.ref 19), some (.int (nI x)), none, none, none] [] _
      simp only [q_Model_letters_28, r_Model_letters_0, r_Model_letters_1, r_Model_letters_4, r_Model_letters_5, r_Model_letters_6, r_Model_letters_7, r_Model_letters_10, r_Model_letters_11, r_Model_letters_14, r_Model_letters_15, r_Model_letters_16, r_Model_letters_17, r_Model_letters_20, r_Model_letters_21, r_Model_letters_23, r_Model_letters_26, r_Model_letters_27, r_Model_letters_28, r_Model_letters_29, r_Model_letters_30, r_Model_letters_33, r_Model_letters_34, r_Model_letters_35, r_Model_letters_38, r_Model_letters_39, r_Model_letters_42, r_Model_letters_44, r_Model_letters_45, r_Model_letters_46, r_Model_letters_47, r_Model_letters_48, r_Model_letters_49, r_Model_letters_51, r_Model_letters_52, r_Model_letters_55, r_Model_letters_57, r_Model_letters_59, r_Model_letters_62, r_Model_letters_64, r_Model_letters_66, r_Model_letters_69, r_Model_letters_70, r_Model_letters_72, r_Model_letters_75, r_Model_letters_76, r_Model_letters_78, r_Model_letters_81, r_Model_letters_84, r_Model_letters_87, r_Model_letters_88, r_Model_letters_91, r_Model_letters_92, r_Model_letters_94, r_Model_letters_97, ai_aload, ai_getf, ai_iload, ai_iald, ai_const, ai_cmpne, ai_goto, ai_istore, am_cut_0, am_cut_s, am_c1, ai_ifeq, ai_callv2, am_push, am_few, ai_cmpge, ai_imul, ai_bin, ai_iadd, ai_cmpeq, ai_iinc, ai_vret, kd_0, fd_0_0, fd_0_1, fd_0_2, fd_0_3, fd_0_4, kd_1, fd_1_0, fd_1_1, ln_2, kd_3, fd_3_0, fd_3_1, fd_3_2, fd_3_3, fd_3_4, fd_3_5, fd_3_6, fd_3_7, fd_3_8, fd_3_9, ln_4, ln_5, ln_6, ln_7, ln_8, ln_9, ln_10, kd_11, fd_11_0, fd_11_1, fd_11_2, fd_11_3, fd_11_4, kd_12, fd_12_0, fd_12_1, fd_12_2, fd_12_3, ln_13, ln_14, ln_15, kd_16, fd_16_0, fd_16_1, fd_16_2, ln_17, kd_18, fd_18_0, fd_18_1, kd_19, fd_19_0, fd_19_1, fd_19_2, fd_19_3, fd_19_4, fd_19_5, fd_19_6, fd_19_7, fd_19_8, fd_19_9, fd_19_10, fd_19_11, fd_19_12, fd_19_13, fd_19_14, fd_19_15, fd_19_16, fd_19_17, fd_19_18, fd_19_19, fd_19_20, ln_20, ln_21, ln_22, ln_23, ln_24, ln_25, ln_26, ln_27, ln_28, ln_29, ln_30, ln_31, ln_32, List.getElem?_cons_zero, List.getElem?_cons_succ, List.set_cons_zero, List.set_cons_succ, true_and, and_true, ↓reduceIte, Int32.reduceLT, Int32.reduceLE, li_10, or_true, true_or, vx, cx, c]
      exact hL
  · cases h
def sp_Model_isQuote1 : aS := fun as M K => match as with
  | [.ref a, .int n] => a = 19 ∧ (tr_ok M ∧ mc_ok M ∧ ∃ x, x < mN M ∧ n = nI x ∧ M 21 x = 4) ∧ K (some (.int (b2 (m_isQ M (cl n))))) M
  | _ => False
set_option maxRecDepth 100000 in
set_option maxHeartbeats 4000000 in
theorem lp_Model_isQuote1 {G : aG} (hG : am_ok G) {K : aR} {M : aM} {x h : Nat} (hh : h < 200) : ∀ (r k : Nat) (b : Bool), k + r = 5 → K (some (.int (b2 (b && mqE M h r k)))) M → am_X G Y_Model_isQuote 4 K 71 [some (.ref 19), some (.int (nI x)), some (.int (nI h)), some (.int (b2 b)), some (.int (nI k))] [] M := by
  intro r
  have z01 : ∀ b : Bool, (b2 b = 0 ∨ b2 b = 1) = True := fun b => eq_true (by cases b <;> simp [b2])
  induction r with
  | zero =>
    intro k b hk hK
    have e1 : ¬ nI k < 5 := nI_nlt (b := 5) (by omega) (by omega)
    rw [mqE, Bool.and_true] at hK
    refine am_from (tb_Model_isQuote (ok_Str_charAt hG) (by decide)) k_Model_isQuote 400 ?_
    simp only [q_Model_isQuote_71, r_Model_isQuote_0, r_Model_isQuote_1, r_Model_isQuote_4, r_Model_isQuote_5, r_Model_isQuote_6, r_Model_isQuote_7, r_Model_isQuote_8, r_Model_isQuote_11, r_Model_isQuote_12, r_Model_isQuote_13, r_Model_isQuote_14, r_Model_isQuote_17, r_Model_isQuote_18, r_Model_isQuote_21, r_Model_isQuote_22, r_Model_isQuote_23, r_Model_isQuote_24, r_Model_isQuote_27, r_Model_isQuote_28, r_Model_isQuote_31, r_Model_isQuote_32, r_Model_isQuote_35, r_Model_isQuote_36, r_Model_isQuote_37, r_Model_isQuote_38, r_Model_isQuote_39, r_Model_isQuote_42, r_Model_isQuote_43, r_Model_isQuote_46, r_Model_isQuote_47, r_Model_isQuote_50, r_Model_isQuote_51, r_Model_isQuote_54, r_Model_isQuote_55, r_Model_isQuote_56, r_Model_isQuote_57, r_Model_isQuote_58, r_Model_isQuote_59, r_Model_isQuote_62, r_Model_isQuote_63, r_Model_isQuote_66, r_Model_isQuote_67, r_Model_isQuote_68, r_Model_isQuote_69, r_Model_isQuote_71, r_Model_isQuote_73, r_Model_isQuote_74, r_Model_isQuote_77, r_Model_isQuote_78, r_Model_isQuote_81, r_Model_isQuote_82, r_Model_isQuote_85, r_Model_isQuote_87, r_Model_isQuote_88, r_Model_isQuote_89, r_Model_isQuote_91, r_Model_isQuote_92, r_Model_isQuote_93, r_Model_isQuote_95, r_Model_isQuote_97, r_Model_isQuote_100, r_Model_isQuote_103, r_Model_isQuote_104, r_Model_isQuote_107, r_Model_isQuote_108, r_Model_isQuote_109, r_Model_isQuote_112, r_Model_isQuote_115, r_Model_isQuote_116, ai_aload, ai_getf, ai_iload, ai_iald, ai_istore, am_cut_0, am_cut_s, am_c1, ai_const, ai_cmpne, ai_goto, ai_cmpge, ai_ifeq, ai_imul, ai_bin, ai_iadd, ai_gets, ai_callx2, am_push, am_few, ai_iinc, ai_zret, kd_0, fd_0_0, fd_0_1, fd_0_2, fd_0_3, fd_0_4, kd_1, fd_1_0, fd_1_1, ln_2, kd_3, fd_3_0, fd_3_1, fd_3_2, fd_3_3, fd_3_4, fd_3_5, fd_3_6, fd_3_7, fd_3_8, fd_3_9, ln_4, ln_5, ln_6, ln_7, ln_8, ln_9, ln_10, kd_11, fd_11_0, fd_11_1, fd_11_2, fd_11_3, fd_11_4, kd_12, fd_12_0, fd_12_1, fd_12_2, fd_12_3, ln_13, ln_14, ln_15, kd_16, fd_16_0, fd_16_1, fd_16_2, ln_17, kd_18, fd_18_0, fd_18_1, kd_19, fd_19_0, fd_19_1, fd_19_2, fd_19_3, fd_19_4, fd_19_5, fd_19_6, fd_19_7, fd_19_8, fd_19_9, fd_19_10, fd_19_11, fd_19_12, fd_19_13, fd_19_14, fd_19_15, fd_19_16, fd_19_17, fd_19_18, fd_19_19, fd_19_20, ln_20, ln_21, ln_22, ln_23, ln_24, ln_25, ln_26, ln_27, ln_28, ln_29, ln_30, ln_31, ln_32, List.getElem?_cons_zero, List.getElem?_cons_succ, List.set_cons_zero, List.set_cons_succ, true_and, and_true, ↓reduceIte, Int32.reduceLT, Int32.reduceLE, li_10, or_true, true_or, e1, z01]
    exact hK
  | succ r ih =>
    intro k b hk hK
    have e1 : nI k < 5 := nI_lt (b := 5) (by omega) (by decide)
    have ei := ix20 (x := h) (k := k) hh (by omega)
    have vi : vp_in (20 * nI h + nI k) 4000 := by rw [ei]; exact vp_in_nI (by omega) (by decide)
    have ci : (20 * nI h + nI k).toNatClampNeg = 20 * h + k := by rw [ei]; exact nI_clamp (by omega)
    have ck : (nI k).toNatClampNeg = k := nI_clamp (by omega)
    have vk : vp_in (nI k) 5 := vp_in_nI (by omega) (by decide)
    cases b
    · have b0 : b2 false = 0 := rfl
      refine am_from (tb_Model_isQuote (ok_Str_charAt hG) (by decide)) k_Model_isQuote 400 ?_
      simp only [q_Model_isQuote_71, r_Model_isQuote_0, r_Model_isQuote_1, r_Model_isQuote_4, r_Model_isQuote_5, r_Model_isQuote_6, r_Model_isQuote_7, r_Model_isQuote_8, r_Model_isQuote_11, r_Model_isQuote_12, r_Model_isQuote_13, r_Model_isQuote_14, r_Model_isQuote_17, r_Model_isQuote_18, r_Model_isQuote_21, r_Model_isQuote_22, r_Model_isQuote_23, r_Model_isQuote_24, r_Model_isQuote_27, r_Model_isQuote_28, r_Model_isQuote_31, r_Model_isQuote_32, r_Model_isQuote_35, r_Model_isQuote_36, r_Model_isQuote_37, r_Model_isQuote_38, r_Model_isQuote_39, r_Model_isQuote_42, r_Model_isQuote_43, r_Model_isQuote_46, r_Model_isQuote_47, r_Model_isQuote_50, r_Model_isQuote_51, r_Model_isQuote_54, r_Model_isQuote_55, r_Model_isQuote_56, r_Model_isQuote_57, r_Model_isQuote_58, r_Model_isQuote_59, r_Model_isQuote_62, r_Model_isQuote_63, r_Model_isQuote_66, r_Model_isQuote_67, r_Model_isQuote_68, r_Model_isQuote_69, r_Model_isQuote_71, r_Model_isQuote_73, r_Model_isQuote_74, r_Model_isQuote_77, r_Model_isQuote_78, r_Model_isQuote_81, r_Model_isQuote_82, r_Model_isQuote_85, r_Model_isQuote_87, r_Model_isQuote_88, r_Model_isQuote_89, r_Model_isQuote_91, r_Model_isQuote_92, r_Model_isQuote_93, r_Model_isQuote_95, r_Model_isQuote_97, r_Model_isQuote_100, r_Model_isQuote_103, r_Model_isQuote_104, r_Model_isQuote_107, r_Model_isQuote_108, r_Model_isQuote_109, r_Model_isQuote_112, r_Model_isQuote_115, r_Model_isQuote_116, ai_aload, ai_getf, ai_iload, ai_iald, ai_istore, am_cut_0, am_cut_s, am_c1, ai_const, ai_cmpne, ai_goto, ai_cmpge, ai_ifeq, ai_imul, ai_bin, ai_iadd, ai_gets, ai_callx2, am_push, am_few, ai_iinc, ai_zret, kd_0, fd_0_0, fd_0_1, fd_0_2, fd_0_3, fd_0_4, kd_1, fd_1_0, fd_1_1, ln_2, kd_3, fd_3_0, fd_3_1, fd_3_2, fd_3_3, fd_3_4, fd_3_5, fd_3_6, fd_3_7, fd_3_8, fd_3_9, ln_4, ln_5, ln_6, ln_7, ln_8, ln_9, ln_10, kd_11, fd_11_0, fd_11_1, fd_11_2, fd_11_3, fd_11_4, kd_12, fd_12_0, fd_12_1, fd_12_2, fd_12_3, ln_13, ln_14, ln_15, kd_16, fd_16_0, fd_16_1, fd_16_2, ln_17, kd_18, fd_18_0, fd_18_1, kd_19, fd_19_0, fd_19_1, fd_19_2, fd_19_3, fd_19_4, fd_19_5, fd_19_6, fd_19_7, fd_19_8, fd_19_9, fd_19_10, fd_19_11, fd_19_12, fd_19_13, fd_19_14, fd_19_15, fd_19_16, fd_19_17, fd_19_18, fd_19_19, fd_19_20, ln_20, ln_21, ln_22, ln_23, ln_24, ln_25, ln_26, ln_27, ln_28, ln_29, ln_30, ln_31, ln_32, List.getElem?_cons_zero, List.getElem?_cons_succ, List.set_cons_zero, List.set_cons_succ, true_and, and_true, ↓reduceIte, Int32.reduceLT, Int32.reduceLE, li_10, or_true, true_or, e1, b0]
      exact hK
    · have b1 : ¬ b2 true = 0 := by decide
      rw [mqE] at hK
      by_cases c : M 23 (20 * nI h + nI k).toNatClampNeg = QF (nI k).toNatClampNeg
      · have c' : (M 23 (20 * nI h + nI k).toNatClampNeg = QF (nI k).toNatClampNeg) = True := eq_true c
        refine am_from (tb_Model_isQuote (ok_Str_charAt hG) (by decide)) k_Model_isQuote 400 ?_
        simp only [q_Model_isQuote_71, r_Model_isQuote_0, r_Model_isQuote_1, r_Model_isQuote_4, r_Model_isQuote_5, r_Model_isQuote_6, r_Model_isQuote_7, r_Model_isQuote_8, r_Model_isQuote_11, r_Model_isQuote_12, r_Model_isQuote_13, r_Model_isQuote_14, r_Model_isQuote_17, r_Model_isQuote_18, r_Model_isQuote_21, r_Model_isQuote_22, r_Model_isQuote_23, r_Model_isQuote_24, r_Model_isQuote_27, r_Model_isQuote_28, r_Model_isQuote_31, r_Model_isQuote_32, r_Model_isQuote_35, r_Model_isQuote_36, r_Model_isQuote_37, r_Model_isQuote_38, r_Model_isQuote_39, r_Model_isQuote_42, r_Model_isQuote_43, r_Model_isQuote_46, r_Model_isQuote_47, r_Model_isQuote_50, r_Model_isQuote_51, r_Model_isQuote_54, r_Model_isQuote_55, r_Model_isQuote_56, r_Model_isQuote_57, r_Model_isQuote_58, r_Model_isQuote_59, r_Model_isQuote_62, r_Model_isQuote_63, r_Model_isQuote_66, r_Model_isQuote_67, r_Model_isQuote_68, r_Model_isQuote_69, r_Model_isQuote_71, r_Model_isQuote_73, r_Model_isQuote_74, r_Model_isQuote_77, r_Model_isQuote_78, r_Model_isQuote_81, r_Model_isQuote_82, r_Model_isQuote_85, r_Model_isQuote_87, r_Model_isQuote_88, r_Model_isQuote_89, r_Model_isQuote_91, r_Model_isQuote_92, r_Model_isQuote_93, r_Model_isQuote_95, r_Model_isQuote_97, r_Model_isQuote_100, r_Model_isQuote_103, r_Model_isQuote_104, r_Model_isQuote_107, r_Model_isQuote_108, r_Model_isQuote_109, r_Model_isQuote_112, r_Model_isQuote_115, r_Model_isQuote_116, ai_aload, ai_getf, ai_iload, ai_iald, ai_istore, am_cut_0, am_cut_s, am_c1, ai_const, ai_cmpne, ai_goto, ai_cmpge, ai_ifeq, ai_imul, ai_bin, ai_iadd, ai_gets, ai_callx2, am_push, am_few, ai_iinc, ai_zret, kd_0, fd_0_0, fd_0_1, fd_0_2, fd_0_3, fd_0_4, kd_1, fd_1_0, fd_1_1, ln_2, kd_3, fd_3_0, fd_3_1, fd_3_2, fd_3_3, fd_3_4, fd_3_5, fd_3_6, fd_3_7, fd_3_8, fd_3_9, ln_4, ln_5, ln_6, ln_7, ln_8, ln_9, ln_10, kd_11, fd_11_0, fd_11_1, fd_11_2, fd_11_3, fd_11_4, kd_12, fd_12_0, fd_12_1, fd_12_2, fd_12_3, ln_13, ln_14, ln_15, kd_16, fd_16_0, fd_16_1, fd_16_2, ln_17, kd_18, fd_18_0, fd_18_1, kd_19, fd_19_0, fd_19_1, fd_19_2, fd_19_3, fd_19_4, fd_19_5, fd_19_6, fd_19_7, fd_19_8, fd_19_9, fd_19_10, fd_19_11, fd_19_12, fd_19_13, fd_19_14, fd_19_15, fd_19_16, fd_19_17, fd_19_18, fd_19_19, fd_19_20, ln_20, ln_21, ln_22, ln_23, ln_24, ln_25, ln_26, ln_27, ln_28, ln_29, ln_30, ln_31, ln_32, List.getElem?_cons_zero, List.getElem?_cons_succ, List.set_cons_zero, List.set_cons_succ, true_and, and_true, ↓reduceIte, Int32.reduceLT, Int32.reduceLE, li_10, or_true, true_or, ↓sp_Str_charAt, e1, vi, vk, b1, c', nI_1]
        rw [ci, ck] at c
        rw [decide_eq_true c, Bool.true_and] at hK
        exact ih (k + 1) true (by omega) hK
      · refine am_from (tb_Model_isQuote (ok_Str_charAt hG) (by decide)) k_Model_isQuote 400 ?_
        simp only [q_Model_isQuote_71, r_Model_isQuote_0, r_Model_isQuote_1, r_Model_isQuote_4, r_Model_isQuote_5, r_Model_isQuote_6, r_Model_isQuote_7, r_Model_isQuote_8, r_Model_isQuote_11, r_Model_isQuote_12, r_Model_isQuote_13, r_Model_isQuote_14, r_Model_isQuote_17, r_Model_isQuote_18, r_Model_isQuote_21, r_Model_isQuote_22, r_Model_isQuote_23, r_Model_isQuote_24, r_Model_isQuote_27, r_Model_isQuote_28, r_Model_isQuote_31, r_Model_isQuote_32, r_Model_isQuote_35, r_Model_isQuote_36, r_Model_isQuote_37, r_Model_isQuote_38, r_Model_isQuote_39, r_Model_isQuote_42, r_Model_isQuote_43, r_Model_isQuote_46, r_Model_isQuote_47, r_Model_isQuote_50, r_Model_isQuote_51, r_Model_isQuote_54, r_Model_isQuote_55, r_Model_isQuote_56, r_Model_isQuote_57, r_Model_isQuote_58, r_Model_isQuote_59, r_Model_isQuote_62, r_Model_isQuote_63, r_Model_isQuote_66, r_Model_isQuote_67, r_Model_isQuote_68, r_Model_isQuote_69, r_Model_isQuote_71, r_Model_isQuote_73, r_Model_isQuote_74, r_Model_isQuote_77, r_Model_isQuote_78, r_Model_isQuote_81, r_Model_isQuote_82, r_Model_isQuote_85, r_Model_isQuote_87, r_Model_isQuote_88, r_Model_isQuote_89, r_Model_isQuote_91, r_Model_isQuote_92, r_Model_isQuote_93, r_Model_isQuote_95, r_Model_isQuote_97, r_Model_isQuote_100, r_Model_isQuote_103, r_Model_isQuote_104, r_Model_isQuote_107, r_Model_isQuote_108, r_Model_isQuote_109, r_Model_isQuote_112, r_Model_isQuote_115, r_Model_isQuote_116, ai_aload, ai_getf, ai_iload, ai_iald, ai_istore, am_cut_0, am_cut_s, am_c1, ai_const, ai_cmpne, ai_goto, ai_cmpge, ai_ifeq, ai_imul, ai_bin, ai_iadd, ai_gets, ai_callx2, am_push, am_few, ai_iinc, ai_zret, kd_0, fd_0_0, fd_0_1, fd_0_2, fd_0_3, fd_0_4, kd_1, fd_1_0, fd_1_1, ln_2, kd_3, fd_3_0, fd_3_1, fd_3_2, fd_3_3, fd_3_4, fd_3_5, fd_3_6, fd_3_7, fd_3_8, fd_3_9, ln_4, ln_5, ln_6, ln_7, ln_8, ln_9, ln_10, kd_11, fd_11_0, fd_11_1, fd_11_2, fd_11_3, fd_11_4, kd_12, fd_12_0, fd_12_1, fd_12_2, fd_12_3, ln_13, ln_14, ln_15, kd_16, fd_16_0, fd_16_1, fd_16_2, ln_17, kd_18, fd_18_0, fd_18_1, kd_19, fd_19_0, fd_19_1, fd_19_2, fd_19_3, fd_19_4, fd_19_5, fd_19_6, fd_19_7, fd_19_8, fd_19_9, fd_19_10, fd_19_11, fd_19_12, fd_19_13, fd_19_14, fd_19_15, fd_19_16, fd_19_17, fd_19_18, fd_19_19, fd_19_20, ln_20, ln_21, ln_22, ln_23, ln_24, ln_25, ln_26, ln_27, ln_28, ln_29, ln_30, ln_31, ln_32, List.getElem?_cons_zero, List.getElem?_cons_succ, List.set_cons_zero, List.set_cons_succ, true_and, and_true, ↓reduceIte, Int32.reduceLT, Int32.reduceLE, li_10, or_true, true_or, ↓sp_Str_charAt, e1, vi, vk, b1, c, nI_1]
        rw [ci, ck] at c
        rw [decide_eq_false c, Bool.false_and] at hK
        exact ih (k + 1) false (by omega) hK
set_option maxRecDepth 100000 in
set_option maxHeartbeats 4000000 in
theorem ok_Model_isQuote1 {G : aG} (hG : am_ok G) : am_Sp G Y_Model_isQuote 4 sp_Model_isQuote1 := by
  intro as M K h
  unfold sp_Model_isQuote1 at h
  split at h
  · next a n =>
    obtain ⟨rfl, ⟨ht, hc, x, hx, rfl, hk⟩, h⟩ := h
    have h200 := hc.2
    have cx : (nI x).toNatClampNeg = x := nI_clamp (by omega)
    have vx : vp_in (nI x) 200 := vp_in_nI (by omega) (by decide)
    obtain ⟨h1, t1, eh, et, a1, a2, a3, a4⟩ := (ht x hx).2.2 hk
    have vh : vp_in (nI h1) 200 := vp_in_nI (by omega) (by decide)
    have ch : (nI h1).toNatClampNeg = h1 := nI_clamp (by omega)
    have vt : vp_in (nI t1) 200 := vp_in_nI (by omega) (by decide)
    have ct : (nI t1).toNatClampNeg = t1 := nI_clamp (by omega)
    rw [show cl (nI x) = x from cx] at h
    unfold m_isQ at h
    rw [eh, et, show cl (nI h1) = h1 from ch, show cl (nI t1) = t1 from ct] at h
    have L0 : K (some (.int (b2 false))) M → am_X G Y_Model_isQuote 4 K 71 [some (.ref 19), some (.int (nI x)), some (.int (nI h1)), some (.int 0), some (.int 0)] [] M := by
      intro h0
      have e1 : (0 : Int32) < 5 := by decide
      refine am_from (tb_Model_isQuote (ok_Str_charAt hG) (by decide)) k_Model_isQuote 400 ?_
      simp only [q_Model_isQuote_71, r_Model_isQuote_0, r_Model_isQuote_1, r_Model_isQuote_4, r_Model_isQuote_5, r_Model_isQuote_6, r_Model_isQuote_7, r_Model_isQuote_8, r_Model_isQuote_11, r_Model_isQuote_12, r_Model_isQuote_13, r_Model_isQuote_14, r_Model_isQuote_17, r_Model_isQuote_18, r_Model_isQuote_21, r_Model_isQuote_22, r_Model_isQuote_23, r_Model_isQuote_24, r_Model_isQuote_27, r_Model_isQuote_28, r_Model_isQuote_31, r_Model_isQuote_32, r_Model_isQuote_35, r_Model_isQuote_36, r_Model_isQuote_37, r_Model_isQuote_38, r_Model_isQuote_39, r_Model_isQuote_42, r_Model_isQuote_43, r_Model_isQuote_46, r_Model_isQuote_47, r_Model_isQuote_50, r_Model_isQuote_51, r_Model_isQuote_54, r_Model_isQuote_55, r_Model_isQuote_56, r_Model_isQuote_57, r_Model_isQuote_58, r_Model_isQuote_59, r_Model_isQuote_62, r_Model_isQuote_63, r_Model_isQuote_66, r_Model_isQuote_67, r_Model_isQuote_68, r_Model_isQuote_69, r_Model_isQuote_71, r_Model_isQuote_73, r_Model_isQuote_74, r_Model_isQuote_77, r_Model_isQuote_78, r_Model_isQuote_81, r_Model_isQuote_82, r_Model_isQuote_85, r_Model_isQuote_87, r_Model_isQuote_88, r_Model_isQuote_89, r_Model_isQuote_91, r_Model_isQuote_92, r_Model_isQuote_93, r_Model_isQuote_95, r_Model_isQuote_97, r_Model_isQuote_100, r_Model_isQuote_103, r_Model_isQuote_104, r_Model_isQuote_107, r_Model_isQuote_108, r_Model_isQuote_109, r_Model_isQuote_112, r_Model_isQuote_115, r_Model_isQuote_116, ai_aload, ai_getf, ai_iload, ai_iald, ai_istore, am_cut_0, am_cut_s, am_c1, ai_const, ai_cmpne, ai_goto, ai_cmpge, ai_ifeq, ai_imul, ai_bin, ai_iadd, ai_gets, ai_callx2, am_push, am_few, ai_iinc, ai_zret, kd_0, fd_0_0, fd_0_1, fd_0_2, fd_0_3, fd_0_4, kd_1, fd_1_0, fd_1_1, ln_2, kd_3, fd_3_0, fd_3_1, fd_3_2, fd_3_3, fd_3_4, fd_3_5, fd_3_6, fd_3_7, fd_3_8, fd_3_9, ln_4, ln_5, ln_6, ln_7, ln_8, ln_9, ln_10, kd_11, fd_11_0, fd_11_1, fd_11_2, fd_11_3, fd_11_4, kd_12, fd_12_0, fd_12_1, fd_12_2, fd_12_3, ln_13, ln_14, ln_15, kd_16, fd_16_0, fd_16_1, fd_16_2, ln_17, kd_18, fd_18_0, fd_18_1, kd_19, fd_19_0, fd_19_1, fd_19_2, fd_19_3, fd_19_4, fd_19_5, fd_19_6, fd_19_7, fd_19_8, fd_19_9, fd_19_10, fd_19_11, fd_19_12, fd_19_13, fd_19_14, fd_19_15, fd_19_16, fd_19_17, fd_19_18, fd_19_19, fd_19_20, ln_20, ln_21, ln_22, ln_23, ln_24, ln_25, ln_26, ln_27, ln_28, ln_29, ln_30, ln_31, ln_32, List.getElem?_cons_zero, List.getElem?_cons_succ, List.set_cons_zero, List.set_cons_succ, true_and, and_true, ↓reduceIte, Int32.reduceLT, Int32.reduceLE, li_10, or_true, true_or, e1]
      exact h0
    by_cases c1 : M 21 h1 = 2
    · have c1' : (M 21 h1 = 2) = True := eq_true c1
      rw [decide_eq_true c1, Bool.true_and] at h
      by_cases c2 : M 22 h1 = 5
      · have c2' : (M 22 h1 = 5) = True := eq_true c2
        rw [decide_eq_true c2, Bool.true_and] at h
        by_cases c3 : M 21 t1 = 4
        · have c3' : (M 21 t1 = 4) = True := eq_true c3
          rw [decide_eq_true c3, Bool.true_and] at h
          obtain ⟨h2, t2, eh2, et2, b1, b2', b3, b4⟩ := (ht t1 a4).2.2 c3
          have vt2 : vp_in (nI t2) 200 := vp_in_nI (by omega) (by decide)
          have ct2 : (nI t2).toNatClampNeg = t2 := nI_clamp (by omega)
          rw [et2, show cl (nI t2) = t2 from ct2] at h
          by_cases c4 : M 21 t2 = 5
          · have c4' : (M 21 t2 = 5) = True := eq_true c4
            rw [decide_eq_true c4] at h
            have L1 : am_X G Y_Model_isQuote 4 K 71 [some (.ref 19), some (.int (nI x)), some (.int (nI h1)), some (.int 1), some (.int 0)] [] M :=
              lp_Model_isQuote1 hG (h := h1) (by omega) 5 0 true rfl h
            refine am_entry hG (by decide +kernel) (Nat.le_of_ble_eq_true rfl) ?_
            refine am_go (cuts := k_Model_isQuote) (tb_Model_isQuote (ok_Str_charAt hG) (by decide)) 400 _ _ _ _ ?_
            change am_run _ _ _ _ _ _ [some (.ref 19), some (.int (nI x)), none, none, none] [] _
            simp only [q_Model_isQuote_71, r_Model_isQuote_0, r_Model_isQuote_1, r_Model_isQuote_4, r_Model_isQuote_5, r_Model_isQuote_6, r_Model_isQuote_7, r_Model_isQuote_8, r_Model_isQuote_11, r_Model_isQuote_12, r_Model_isQuote_13, r_Model_isQuote_14, r_Model_isQuote_17, r_Model_isQuote_18, r_Model_isQuote_21, r_Model_isQuote_22, r_Model_isQuote_23, r_Model_isQuote_24, r_Model_isQuote_27, r_Model_isQuote_28, r_Model_isQuote_31, r_Model_isQuote_32, r_Model_isQuote_35, r_Model_isQuote_36, r_Model_isQuote_37, r_Model_isQuote_38, r_Model_isQuote_39, r_Model_isQuote_42, r_Model_isQuote_43, r_Model_isQuote_46, r_Model_isQuote_47, r_Model_isQuote_50, r_Model_isQuote_51, r_Model_isQuote_54, r_Model_isQuote_55, r_Model_isQuote_56, r_Model_isQuote_57, r_Model_isQuote_58, r_Model_isQuote_59, r_Model_isQuote_62, r_Model_isQuote_63, r_Model_isQuote_66, r_Model_isQuote_67, r_Model_isQuote_68, r_Model_isQuote_69, r_Model_isQuote_71, r_Model_isQuote_73, r_Model_isQuote_74, r_Model_isQuote_77, r_Model_isQuote_78, r_Model_isQuote_81, r_Model_isQuote_82, r_Model_isQuote_85, r_Model_isQuote_87, r_Model_isQuote_88, r_Model_isQuote_89, r_Model_isQuote_91, r_Model_isQuote_92, r_Model_isQuote_93, r_Model_isQuote_95, r_Model_isQuote_97, r_Model_isQuote_100, r_Model_isQuote_103, r_Model_isQuote_104, r_Model_isQuote_107, r_Model_isQuote_108, r_Model_isQuote_109, r_Model_isQuote_112, r_Model_isQuote_115, r_Model_isQuote_116, ai_aload, ai_getf, ai_iload, ai_iald, ai_istore, am_cut_0, am_cut_s, am_c1, ai_const, ai_cmpne, ai_goto, ai_cmpge, ai_ifeq, ai_imul, ai_bin, ai_iadd, ai_gets, ai_callx2, am_push, am_few, ai_iinc, ai_zret, kd_0, fd_0_0, fd_0_1, fd_0_2, fd_0_3, fd_0_4, kd_1, fd_1_0, fd_1_1, ln_2, kd_3, fd_3_0, fd_3_1, fd_3_2, fd_3_3, fd_3_4, fd_3_5, fd_3_6, fd_3_7, fd_3_8, fd_3_9, ln_4, ln_5, ln_6, ln_7, ln_8, ln_9, ln_10, kd_11, fd_11_0, fd_11_1, fd_11_2, fd_11_3, fd_11_4, kd_12, fd_12_0, fd_12_1, fd_12_2, fd_12_3, ln_13, ln_14, ln_15, kd_16, fd_16_0, fd_16_1, fd_16_2, ln_17, kd_18, fd_18_0, fd_18_1, kd_19, fd_19_0, fd_19_1, fd_19_2, fd_19_3, fd_19_4, fd_19_5, fd_19_6, fd_19_7, fd_19_8, fd_19_9, fd_19_10, fd_19_11, fd_19_12, fd_19_13, fd_19_14, fd_19_15, fd_19_16, fd_19_17, fd_19_18, fd_19_19, fd_19_20, ln_20, ln_21, ln_22, ln_23, ln_24, ln_25, ln_26, ln_27, ln_28, ln_29, ln_30, ln_31, ln_32, List.getElem?_cons_zero, List.getElem?_cons_succ, List.set_cons_zero, List.set_cons_succ, true_and, and_true, ↓reduceIte, Int32.reduceLT, Int32.reduceLE, li_10, or_true, true_or, vx, cx, eh, et, vh, ch, vt, ct, et2, vt2, ct2, c1', c2', c3', c4']
            exact L1
          · rw [decide_eq_false c4, Bool.false_and] at h
            refine am_entry hG (by decide +kernel) (Nat.le_of_ble_eq_true rfl) ?_
            refine am_go (cuts := k_Model_isQuote) (tb_Model_isQuote (ok_Str_charAt hG) (by decide)) 400 _ _ _ _ ?_
            change am_run _ _ _ _ _ _ [some (.ref 19), some (.int (nI x)), none, none, none] [] _
            simp only [q_Model_isQuote_71, r_Model_isQuote_0, r_Model_isQuote_1, r_Model_isQuote_4, r_Model_isQuote_5, r_Model_isQuote_6, r_Model_isQuote_7, r_Model_isQuote_8, r_Model_isQuote_11, r_Model_isQuote_12, r_Model_isQuote_13, r_Model_isQuote_14, r_Model_isQuote_17, r_Model_isQuote_18, r_Model_isQuote_21, r_Model_isQuote_22, r_Model_isQuote_23, r_Model_isQuote_24, r_Model_isQuote_27, r_Model_isQuote_28, r_Model_isQuote_31, r_Model_isQuote_32, r_Model_isQuote_35, r_Model_isQuote_36, r_Model_isQuote_37, r_Model_isQuote_38, r_Model_isQuote_39, r_Model_isQuote_42, r_Model_isQuote_43, r_Model_isQuote_46, r_Model_isQuote_47, r_Model_isQuote_50, r_Model_isQuote_51, r_Model_isQuote_54, r_Model_isQuote_55, r_Model_isQuote_56, r_Model_isQuote_57, r_Model_isQuote_58, r_Model_isQuote_59, r_Model_isQuote_62, r_Model_isQuote_63, r_Model_isQuote_66, r_Model_isQuote_67, r_Model_isQuote_68, r_Model_isQuote_69, r_Model_isQuote_71, r_Model_isQuote_73, r_Model_isQuote_74, r_Model_isQuote_77, r_Model_isQuote_78, r_Model_isQuote_81, r_Model_isQuote_82, r_Model_isQuote_85, r_Model_isQuote_87, r_Model_isQuote_88, r_Model_isQuote_89, r_Model_isQuote_91, r_Model_isQuote_92, r_Model_isQuote_93, r_Model_isQuote_95, r_Model_isQuote_97, r_Model_isQuote_100, r_Model_isQuote_103, r_Model_isQuote_104, r_Model_isQuote_107, r_Model_isQuote_108, r_Model_isQuote_109, r_Model_isQuote_112, r_Model_isQuote_115, r_Model_isQuote_116, ai_aload, ai_getf, ai_iload, ai_iald, ai_istore, am_cut_0, am_cut_s, am_c1, ai_const, ai_cmpne, ai_goto, ai_cmpge, ai_ifeq, ai_imul, ai_bin, ai_iadd, ai_gets, ai_callx2, am_push, am_few, ai_iinc, ai_zret, kd_0, fd_0_0, fd_0_1, fd_0_2, fd_0_3, fd_0_4, kd_1, fd_1_0, fd_1_1, ln_2, kd_3, fd_3_0, fd_3_1, fd_3_2, fd_3_3, fd_3_4, fd_3_5, fd_3_6, fd_3_7, fd_3_8, fd_3_9, ln_4, ln_5, ln_6, ln_7, ln_8, ln_9, ln_10, kd_11, fd_11_0, fd_11_1, fd_11_2, fd_11_3, fd_11_4, kd_12, fd_12_0, fd_12_1, fd_12_2, fd_12_3, ln_13, ln_14, ln_15, kd_16, fd_16_0, fd_16_1, fd_16_2, ln_17, kd_18, fd_18_0, fd_18_1, kd_19, fd_19_0, fd_19_1, fd_19_2, fd_19_3, fd_19_4, fd_19_5, fd_19_6, fd_19_7, fd_19_8, fd_19_9, fd_19_10, fd_19_11, fd_19_12, fd_19_13, fd_19_14, fd_19_15, fd_19_16, fd_19_17, fd_19_18, fd_19_19, fd_19_20, ln_20, ln_21, ln_22, ln_23, ln_24, ln_25, ln_26, ln_27, ln_28, ln_29, ln_30, ln_31, ln_32, List.getElem?_cons_zero, List.getElem?_cons_succ, List.set_cons_zero, List.set_cons_succ, true_and, and_true, ↓reduceIte, Int32.reduceLT, Int32.reduceLE, li_10, or_true, true_or, vx, cx, eh, et, vh, ch, vt, ct, et2, vt2, ct2, c1', c2', c3', c4]
            exact L0 h
        · rw [decide_eq_false c3, Bool.false_and] at h
          refine am_entry hG (by decide +kernel) (Nat.le_of_ble_eq_true rfl) ?_
          refine am_go (cuts := k_Model_isQuote) (tb_Model_isQuote (ok_Str_charAt hG) (by decide)) 400 _ _ _ _ ?_
          change am_run _ _ _ _ _ _ [some (.ref 19), some (.int (nI x)), none, none, none] [] _
          simp only [q_Model_isQuote_71, r_Model_isQuote_0, r_Model_isQuote_1, r_Model_isQuote_4, r_Model_isQuote_5, r_Model_isQuote_6, r_Model_isQuote_7, r_Model_isQuote_8, r_Model_isQuote_11, r_Model_isQuote_12, r_Model_isQuote_13, r_Model_isQuote_14, r_Model_isQuote_17, r_Model_isQuote_18, r_Model_isQuote_21, r_Model_isQuote_22, r_Model_isQuote_23, r_Model_isQuote_24, r_Model_isQuote_27, r_Model_isQuote_28, r_Model_isQuote_31, r_Model_isQuote_32, r_Model_isQuote_35, r_Model_isQuote_36, r_Model_isQuote_37, r_Model_isQuote_38, r_Model_isQuote_39, r_Model_isQuote_42, r_Model_isQuote_43, r_Model_isQuote_46, r_Model_isQuote_47, r_Model_isQuote_50, r_Model_isQuote_51, r_Model_isQuote_54, r_Model_isQuote_55, r_Model_isQuote_56, r_Model_isQuote_57, r_Model_isQuote_58, r_Model_isQuote_59, r_Model_isQuote_62, r_Model_isQuote_63, r_Model_isQuote_66, r_Model_isQuote_67, r_Model_isQuote_68, r_Model_isQuote_69, r_Model_isQuote_71, r_Model_isQuote_73, r_Model_isQuote_74, r_Model_isQuote_77, r_Model_isQuote_78, r_Model_isQuote_81, r_Model_isQuote_82, r_Model_isQuote_85, r_Model_isQuote_87, r_Model_isQuote_88, r_Model_isQuote_89, r_Model_isQuote_91, r_Model_isQuote_92, r_Model_isQuote_93, r_Model_isQuote_95, r_Model_isQuote_97, r_Model_isQuote_100, r_Model_isQuote_103, r_Model_isQuote_104, r_Model_isQuote_107, r_Model_isQuote_108, r_Model_isQuote_109, r_Model_isQuote_112, r_Model_isQuote_115, r_Model_isQuote_116, ai_aload, ai_getf, ai_iload, ai_iald, ai_istore, am_cut_0, am_cut_s, am_c1, ai_const, ai_cmpne, ai_goto, ai_cmpge, ai_ifeq, ai_imul, ai_bin, ai_iadd, ai_gets, ai_callx2, am_push, am_few, ai_iinc, ai_zret, kd_0, fd_0_0, fd_0_1, fd_0_2, fd_0_3, fd_0_4, kd_1, fd_1_0, fd_1_1, ln_2, kd_3, fd_3_0, fd_3_1, fd_3_2, fd_3_3, fd_3_4, fd_3_5, fd_3_6, fd_3_7, fd_3_8, fd_3_9, ln_4, ln_5, ln_6, ln_7, ln_8, ln_9, ln_10, kd_11, fd_11_0, fd_11_1, fd_11_2, fd_11_3, fd_11_4, kd_12, fd_12_0, fd_12_1, fd_12_2, fd_12_3, ln_13, ln_14, ln_15, kd_16, fd_16_0, fd_16_1, fd_16_2, ln_17, kd_18, fd_18_0, fd_18_1, kd_19, fd_19_0, fd_19_1, fd_19_2, fd_19_3, fd_19_4, fd_19_5, fd_19_6, fd_19_7, fd_19_8, fd_19_9, fd_19_10, fd_19_11, fd_19_12, fd_19_13, fd_19_14, fd_19_15, fd_19_16, fd_19_17, fd_19_18, fd_19_19, fd_19_20, ln_20, ln_21, ln_22, ln_23, ln_24, ln_25, ln_26, ln_27, ln_28, ln_29, ln_30, ln_31, ln_32, List.getElem?_cons_zero, List.getElem?_cons_succ, List.set_cons_zero, List.set_cons_succ, true_and, and_true, ↓reduceIte, Int32.reduceLT, Int32.reduceLE, li_10, or_true, true_or, vx, cx, eh, et, vh, ch, vt, ct, c1', c2', c3]
          exact L0 h
      · rw [decide_eq_false c2, Bool.false_and] at h
        refine am_entry hG (by decide +kernel) (Nat.le_of_ble_eq_true rfl) ?_
        refine am_go (cuts := k_Model_isQuote) (tb_Model_isQuote (ok_Str_charAt hG) (by decide)) 400 _ _ _ _ ?_
        change am_run _ _ _ _ _ _ [some (.ref 19), some (.int (nI x)), none, none, none] [] _
        simp only [q_Model_isQuote_71, r_Model_isQuote_0, r_Model_isQuote_1, r_Model_isQuote_4, r_Model_isQuote_5, r_Model_isQuote_6, r_Model_isQuote_7, r_Model_isQuote_8, r_Model_isQuote_11, r_Model_isQuote_12, r_Model_isQuote_13, r_Model_isQuote_14, r_Model_isQuote_17, r_Model_isQuote_18, r_Model_isQuote_21, r_Model_isQuote_22, r_Model_isQuote_23, r_Model_isQuote_24, r_Model_isQuote_27, r_Model_isQuote_28, r_Model_isQuote_31, r_Model_isQuote_32, r_Model_isQuote_35, r_Model_isQuote_36, r_Model_isQuote_37, r_Model_isQuote_38, r_Model_isQuote_39, r_Model_isQuote_42, r_Model_isQuote_43, r_Model_isQuote_46, r_Model_isQuote_47, r_Model_isQuote_50, r_Model_isQuote_51, r_Model_isQuote_54, r_Model_isQuote_55, r_Model_isQuote_56, r_Model_isQuote_57, r_Model_isQuote_58, r_Model_isQuote_59, r_Model_isQuote_62, r_Model_isQuote_63, r_Model_isQuote_66, r_Model_isQuote_67, r_Model_isQuote_68, r_Model_isQuote_69, r_Model_isQuote_71, r_Model_isQuote_73, r_Model_isQuote_74, r_Model_isQuote_77, r_Model_isQuote_78, r_Model_isQuote_81, r_Model_isQuote_82, r_Model_isQuote_85, r_Model_isQuote_87, r_Model_isQuote_88, r_Model_isQuote_89, r_Model_isQuote_91, r_Model_isQuote_92, r_Model_isQuote_93, r_Model_isQuote_95, r_Model_isQuote_97, r_Model_isQuote_100, r_Model_isQuote_103, r_Model_isQuote_104, r_Model_isQuote_107, r_Model_isQuote_108, r_Model_isQuote_109, r_Model_isQuote_112, r_Model_isQuote_115, r_Model_isQuote_116, ai_aload, ai_getf, ai_iload, ai_iald, ai_istore, am_cut_0, am_cut_s, am_c1, ai_const, ai_cmpne, ai_goto, ai_cmpge, ai_ifeq, ai_imul, ai_bin, ai_iadd, ai_gets, ai_callx2, am_push, am_few, ai_iinc, ai_zret, kd_0, fd_0_0, fd_0_1, fd_0_2, fd_0_3, fd_0_4, kd_1, fd_1_0, fd_1_1, ln_2, kd_3, fd_3_0, fd_3_1, fd_3_2, fd_3_3, fd_3_4, fd_3_5, fd_3_6, fd_3_7, fd_3_8, fd_3_9, ln_4, ln_5, ln_6, ln_7, ln_8, ln_9, ln_10, kd_11, fd_11_0, fd_11_1, fd_11_2, fd_11_3, fd_11_4, kd_12, fd_12_0, fd_12_1, fd_12_2, fd_12_3, ln_13, ln_14, ln_15, kd_16, fd_16_0, fd_16_1, fd_16_2, ln_17, kd_18, fd_18_0, fd_18_1, kd_19, fd_19_0, fd_19_1, fd_19_2, fd_19_3, fd_19_4, fd_19_5, fd_19_6, fd_19_7, fd_19_8, fd_19_9, fd_19_10, fd_19_11, fd_19_12, fd_19_13, fd_19_14, fd_19_15, fd_19_16, fd_19_17, fd_19_18, fd_19_19, fd_19_20, ln_20, ln_21, ln_22, ln_23, ln_24, ln_25, ln_26, ln_27, ln_28, ln_29, ln_30, ln_31, ln_32, List.getElem?_cons_zero, List.getElem?_cons_succ, List.set_cons_zero, List.set_cons_succ, true_and, and_true, ↓reduceIte, Int32.reduceLT, Int32.reduceLE, li_10, or_true, true_or, vx, cx, eh, et, vh, ch, c1', c2]
        exact L0 h
    · rw [decide_eq_false c1, Bool.false_and] at h
      refine am_entry hG (by decide +kernel) (Nat.le_of_ble_eq_true rfl) ?_
      refine am_go (cuts := k_Model_isQuote) (tb_Model_isQuote (ok_Str_charAt hG) (by decide)) 400 _ _ _ _ ?_
      change am_run _ _ _ _ _ _ [some (.ref 19), some (.int (nI x)), none, none, none] [] _
      simp only [q_Model_isQuote_71, r_Model_isQuote_0, r_Model_isQuote_1, r_Model_isQuote_4, r_Model_isQuote_5, r_Model_isQuote_6, r_Model_isQuote_7, r_Model_isQuote_8, r_Model_isQuote_11, r_Model_isQuote_12, r_Model_isQuote_13, r_Model_isQuote_14, r_Model_isQuote_17, r_Model_isQuote_18, r_Model_isQuote_21, r_Model_isQuote_22, r_Model_isQuote_23, r_Model_isQuote_24, r_Model_isQuote_27, r_Model_isQuote_28, r_Model_isQuote_31, r_Model_isQuote_32, r_Model_isQuote_35, r_Model_isQuote_36, r_Model_isQuote_37, r_Model_isQuote_38, r_Model_isQuote_39, r_Model_isQuote_42, r_Model_isQuote_43, r_Model_isQuote_46, r_Model_isQuote_47, r_Model_isQuote_50, r_Model_isQuote_51, r_Model_isQuote_54, r_Model_isQuote_55, r_Model_isQuote_56, r_Model_isQuote_57, r_Model_isQuote_58, r_Model_isQuote_59, r_Model_isQuote_62, r_Model_isQuote_63, r_Model_isQuote_66, r_Model_isQuote_67, r_Model_isQuote_68, r_Model_isQuote_69, r_Model_isQuote_71, r_Model_isQuote_73, r_Model_isQuote_74, r_Model_isQuote_77, r_Model_isQuote_78, r_Model_isQuote_81, r_Model_isQuote_82, r_Model_isQuote_85, r_Model_isQuote_87, r_Model_isQuote_88, r_Model_isQuote_89, r_Model_isQuote_91, r_Model_isQuote_92, r_Model_isQuote_93, r_Model_isQuote_95, r_Model_isQuote_97, r_Model_isQuote_100, r_Model_isQuote_103, r_Model_isQuote_104, r_Model_isQuote_107, r_Model_isQuote_108, r_Model_isQuote_109, r_Model_isQuote_112, r_Model_isQuote_115, r_Model_isQuote_116, ai_aload, ai_getf, ai_iload, ai_iald, ai_istore, am_cut_0, am_cut_s, am_c1, ai_const, ai_cmpne, ai_goto, ai_cmpge, ai_ifeq, ai_imul, ai_bin, ai_iadd, ai_gets, ai_callx2, am_push, am_few, ai_iinc, ai_zret, kd_0, fd_0_0, fd_0_1, fd_0_2, fd_0_3, fd_0_4, kd_1, fd_1_0, fd_1_1, ln_2, kd_3, fd_3_0, fd_3_1, fd_3_2, fd_3_3, fd_3_4, fd_3_5, fd_3_6, fd_3_7, fd_3_8, fd_3_9, ln_4, ln_5, ln_6, ln_7, ln_8, ln_9, ln_10, kd_11, fd_11_0, fd_11_1, fd_11_2, fd_11_3, fd_11_4, kd_12, fd_12_0, fd_12_1, fd_12_2, fd_12_3, ln_13, ln_14, ln_15, kd_16, fd_16_0, fd_16_1, fd_16_2, ln_17, kd_18, fd_18_0, fd_18_1, kd_19, fd_19_0, fd_19_1, fd_19_2, fd_19_3, fd_19_4, fd_19_5, fd_19_6, fd_19_7, fd_19_8, fd_19_9, fd_19_10, fd_19_11, fd_19_12, fd_19_13, fd_19_14, fd_19_15, fd_19_16, fd_19_17, fd_19_18, fd_19_19, fd_19_20, ln_20, ln_21, ln_22, ln_23, ln_24, ln_25, ln_26, ln_27, ln_28, ln_29, ln_30, ln_31, ln_32, List.getElem?_cons_zero, List.getElem?_cons_succ, List.set_cons_zero, List.set_cons_succ, true_and, and_true, ↓reduceIte, Int32.reduceLT, Int32.reduceLE, li_10, or_true, true_or, vx, cx, eh, et, vh, ch, c1]
      exact L0 h
  · cases h
end
section
/-! THE REFERENCE: the stack of write, with what it writes -/
def entT (M : aM) (w : Int32) : List Int32 := if cl w < 1000 then out M false (cl w) else if cl w < 2000 then out M true (cl w - 1000) else [41]
def stT (M : aM) (s : Nat → Int32) : Nat → List Int32
  | 0 => []
  | k + 1 => entT M (s k) ++ stT M s k
theorem stT_eq {M : aM} {s t : Nat → Int32} : ∀ k, (∀ j, j < k → s j = t j) → stT M s k = stT M t k
  | 0, _ => rfl
  | k + 1, h => by rw [stT, stT, stT_eq k (fun j hj => h j (by omega)), h k (by omega)]
theorem ent_p {M : aM} {x : Nat} (h : x < 200) : entT M (nI x) = out M false x := by
  unfold entT
  rw [show cl (nI x) = x from nI_clamp (by omega), if_pos (by omega)]
theorem ent_r {M : aM} {x : Nat} (h : x < 200) : entT M (nI (1000 + x)) = out M true x := by
  unfold entT
  rw [show cl (nI (1000 + x)) = 1000 + x from nI_clamp (by omega), if_neg (by omega), if_pos (by omega), show 1000 + x - 1000 = x by omega]
theorem ent_2 {M : aM} : entT M 2000 = [41] := by
  unfold entT
  have e : cl (2000 : Int32) = 2000 := nI_clamp (n := 2000) (by decide)
  rw [e, if_neg (by omega), if_neg (by omega)]
def st_post1 (M : aM) (mm : Nat) (w : Int32) (K : aR) : Prop := ∀ (m' : Nat) (N : aM) (l : List Int32), wq_rel M N → (N 30 = m_says M l 30 ∧ N 19 18 = m_says M l 19 18) → m' ≤ mm + 2 → (∀ j, j < mm → N 31 j = M 31 j) → (∀ j, mm ≤ j → j < m' → ent (mN M) j (N 31 j)) → mu (N 31) m' < mu (M 31) mm + wgt w → l ++ stT M (N 31) m' = entT M w ++ stT M (M 31) mm → K (some (.int (nI m'))) N
def sp_Model_step1 : aS := fun as M K => match as with
  | [.ref a, .int w, .int m] => a = 19 ∧ (tr_ok M ∧ mc_ok M ∧ mw_ok M ∧ m = nI (cl m) ∧ cl m < 200 ∧ ent (mN M) (cl m) w) ∧ st_post1 M (cl m) w K
  | _ => False
theorem st_none1 {M : aM} {mm : Nat} {w : Int32} {K : aR} {l : List Int32} (h : st_post1 M mm w K) (hM : mw_ok M) (hw : 0 < wgt w) (he : entT M w = l) : K (some (.int (nI mm))) (m_says M l) := by
  have hr := m_says_rel l hM
  have h31 : m_says M l 31 = M 31 := hr.1 31 (by decide) (by decide)
  refine h mm (m_says M l) l hr.wq ⟨rfl, rfl⟩ (by omega) (fun j _ => by rw [h31]) (fun j a b => by omega) ?_ ?_
  · rw [h31]
    omega
  · rw [h31, he]
theorem st_two1 {M : aM} {mm : Nat} {w a b : Int32} {K : aR} {l : List Int32} (h : st_post1 M mm w K) (hM : mw_ok M) (ha : ent (mN M) mm a) (hb : ent (mN M) (mm + 1) b) (hw : wgt a + wgt b < wgt w) (he : entT M w = l ++ (entT M b ++ entT M a)) : K (some (.int (nI (mm + 2)))) (am_up (am_up (m_says M l) 31 mm a) 31 (mm + 1) b) := by
  have hr := m_says_rel l hM
  have h31 : m_says M l 31 = M 31 := hr.1 31 (by decide) (by decide)
  have e0 : ∀ j, j < mm → am_up (am_up (m_says M l) 31 mm a) 31 (mm + 1) b 31 j = M 31 j := by
    intro j hj
    simp only [am_up_ap, ↓reduceIte]
    rw [if_neg (by omega), if_neg (by omega), h31]
  have e1 : am_up (am_up (m_says M l) 31 mm a) 31 (mm + 1) b 31 mm = a := by
    simp only [am_up_ap, ↓reduceIte]
    rw [if_neg (by omega)]
  have e2 : am_up (am_up (m_says M l) 31 mm a) 31 (mm + 1) b 31 (mm + 1) = b := by
    simp only [am_up_ap, ↓reduceIte]
  refine h (mm + 2) _ l (wq_31 (wq_31 hr.wq)) ⟨by rw [am_up_ne (by decide), am_up_ne (by decide)], by rw [am_up_ne (by decide), am_up_ne (by decide)]⟩ (by omega) e0 (fun j p q => ?_) ?_ ?_
  · rcases (show j = mm ∨ j = mm + 1 by omega) with rfl | rfl
    · rw [e1]; exact ha
    · rw [e2]; exact hb
  · show mu _ mm + wgt _ + wgt _ < _
    rw [mu_eq mm e0, e1, e2]
    omega
  · rw [stT, stT, e1, e2, stT_eq mm e0, he]
    simp only [List.append_assoc]
theorem st_one1 {M : aM} {mm : Nat} {w a : Int32} {K : aR} {l : List Int32} (h : st_post1 M mm w K) (hM : mw_ok M) (ha : ent (mN M) mm a) (hw : wgt a < wgt w) (he : entT M w = l ++ entT M a) : K (some (.int (nI (mm + 1)))) (am_up (m_says M l) 31 mm a) := by
  have hr := m_says_rel l hM
  have h31 : m_says M l 31 = M 31 := hr.1 31 (by decide) (by decide)
  have e0 : ∀ j, j < mm → am_up (m_says M l) 31 mm a 31 j = M 31 j := by
    intro j hj
    simp only [am_up_ap, ↓reduceIte]
    rw [if_neg (by omega), h31]
  have e1 : am_up (m_says M l) 31 mm a 31 mm = a := by
    simp only [am_up_ap, ↓reduceIte]
  refine h (mm + 1) _ l (wq_31 hr.wq) ⟨by rw [am_up_ne (by decide)], by rw [am_up_ne (by decide)]⟩ (by omega) e0 (fun j p q => ?_) ?_ ?_
  · rcases (show j = mm by omega) with rfl
    rw [e1]; exact ha
  · show mu _ mm + wgt _ < _
    rw [mu_eq mm e0, e1]
    omega
  · rw [stT, e1, stT_eq mm e0, he]
    simp only [List.append_assoc]
set_option maxRecDepth 100000 in
set_option maxHeartbeats 4000000 in
theorem ok_step_rest1 {G : aG} (hG : am_ok G) {K : aR} {M : aM} {x mm : Nat} (ht : tr_ok M) (hc : mc_ok M) (hw : mw_ok M) (hx : x < mN M) (hmm : mm + 1 ≤ x) (h : st_post1 M mm (nI (1000 + x)) K) : am_Met G Y_Model_step 5 [.ref 19, .int (nI (1000 + x)), .int (nI mm)] M K := by
  have h200 := hc.2
  have c0 : ¬ nI (1000 + x) = 2000 := fun q => by
    have := (nI_eq (a := 1000 + x) (b := 2000) (by omega) (by decide)).mp q
    omega
  have l1000 : ((1000 : Int32) = 0) = False := eq_false (by decide)
  have er := rm_r (x := x) (by omega)
  have c1 : ¬ nI (1000 + x) < 1000 := nI_nlt (b := 1000) (by omega) (by omega)
  have vx : vp_in (nI x) 200 := vp_in_nI (by omega) (by decide)
  have cx : (nI x).toNatClampNeg = x := nI_clamp (by omega)
  have vm : vp_in (nI mm) 420 := vp_in_nI (by omega) (by decide)
  have cm : (nI mm).toNatClampNeg = mm := nI_clamp (by omega)
  have vm1 : vp_in (nI (mm + 1)) 420 := vp_in_nI (by omega) (by decide)
  have cm1 : (nI (mm + 1)).toNatClampNeg = mm + 1 := nI_clamp (by omega)
  have em2 : nI mm + 2 = nI (mm + 2) := nI_add mm 2
  have hp := pw_8p x (by omega)
  have hwg : wgt (nI (1000 + x)) = 2 * 8 ^ (201 - x) := wgt_r (by omega)
  have hT : entT M (nI (1000 + x)) = _ := (ent_r (M := M) (by omega)).trans (out_t ht h200 hx)
  have r1 := m_say_rel (b := 32) hw
  have w1 := r1.2.2
  have r2 := m_say_rel (b := 46) w1
  have w2 := r2.2.2
  have r3 := m_say_rel (b := 32) w2
  have s1 : ∀ b, m_say M b 21 = M 21 := fun b => (m_say_rel (b := b) hw).1 21 (by decide) (by decide)
  have s24 : ∀ b, m_say M b 24 = M 24 := fun b => (m_say_rel (b := b) hw).1 24 (by decide) (by decide)
  have s25 : ∀ b, m_say M b 25 = M 25 := fun b => (m_say_rel (b := b) hw).1 25 (by decide) (by decide)
  by_cases c5 : M 21 x = 5
  · have c5' : (M 21 x = 5) = True := eq_true c5
    refine am_entry hG (by decide +kernel) (Nat.le_of_ble_eq_true rfl) ?_
    refine am_go (cuts := k_Model_step) (tb_Model_step (ok_Model_say hG) (by decide) (ok_Model_isQuote1 hG) (by decide) (ok_Model_number1 hG) (by decide) (ok_Model_letters1 hG) (by decide)) 400 _ _ _ _ ?_
    change am_run _ _ _ _ _ _ [some (.ref 19), some (.int (nI (1000 + x))), some (.int (nI mm)), none, none] [] _
    simp only [r_Model_step_0, r_Model_step_1, r_Model_step_4, r_Model_step_7, r_Model_step_8, r_Model_step_10, r_Model_step_13, r_Model_step_14, r_Model_step_15, r_Model_step_16, r_Model_step_19, r_Model_step_20, r_Model_step_21, r_Model_step_22, r_Model_step_25, r_Model_step_28, r_Model_step_29, r_Model_step_32, r_Model_step_33, r_Model_step_35, r_Model_step_37, r_Model_step_40, r_Model_step_41, r_Model_step_44, r_Model_step_45, r_Model_step_46, r_Model_step_47, r_Model_step_50, r_Model_step_51, r_Model_step_53, r_Model_step_56, r_Model_step_59, r_Model_step_61, r_Model_step_64, r_Model_step_65, r_Model_step_68, r_Model_step_69, r_Model_step_70, r_Model_step_71, r_Model_step_74, r_Model_step_75, r_Model_step_77, r_Model_step_80, r_Model_step_81, r_Model_step_83, r_Model_step_86, r_Model_step_87, r_Model_step_89, r_Model_step_92, r_Model_step_93, r_Model_step_96, r_Model_step_97, r_Model_step_100, r_Model_step_101, r_Model_step_102, r_Model_step_105, r_Model_step_106, r_Model_step_107, r_Model_step_108, r_Model_step_109, r_Model_step_110, r_Model_step_111, r_Model_step_112, r_Model_step_113, r_Model_step_114, r_Model_step_115, r_Model_step_118, r_Model_step_119, r_Model_step_120, r_Model_step_121, r_Model_step_124, r_Model_step_126, r_Model_step_129, r_Model_step_130, r_Model_step_131, r_Model_step_134, r_Model_step_137, r_Model_step_138, r_Model_step_140, r_Model_step_143, r_Model_step_144, r_Model_step_147, r_Model_step_148, r_Model_step_149, r_Model_step_152, r_Model_step_153, r_Model_step_156, r_Model_step_157, r_Model_step_158, r_Model_step_159, r_Model_step_160, r_Model_step_161, r_Model_step_162, r_Model_step_163, r_Model_step_164, r_Model_step_165, r_Model_step_167, r_Model_step_170, r_Model_step_172, r_Model_step_175, r_Model_step_177, r_Model_step_180, r_Model_step_181, r_Model_step_184, r_Model_step_185, r_Model_step_188, r_Model_step_189, r_Model_step_192, r_Model_step_193, r_Model_step_194, r_Model_step_195, r_Model_step_196, r_Model_step_197, r_Model_step_200, r_Model_step_201, r_Model_step_202, r_Model_step_203, r_Model_step_204, r_Model_step_207, r_Model_step_208, r_Model_step_209, r_Model_step_210, r_Model_step_211, r_Model_step_212, r_Model_step_213, r_Model_step_214, r_Model_step_215, r_Model_step_218, r_Model_step_219, r_Model_step_220, r_Model_step_221, r_Model_step_224, r_Model_step_225, r_Model_step_227, r_Model_step_230, r_Model_step_231, r_Model_step_233, r_Model_step_236, r_Model_step_239, r_Model_step_240, r_Model_step_243, r_Model_step_244, r_Model_step_245, r_Model_step_246, r_Model_step_249, r_Model_step_250, r_Model_step_251, r_Model_step_254, r_Model_step_255, r_Model_step_256, r_Model_step_259, r_Model_step_262, r_Model_step_263, r_Model_step_264, r_Model_step_267, r_Model_step_268, ai_iload, ai_const, ai_cmpne, ai_aload, ai_callv2, am_push, am_few, ai_iret, ai_irem, ai_istore, am_cut_0, am_cut_s, am_c1, ai_cmplt, ai_goto, ai_ifeq, ai_getf, ai_iald, ai_cmpeq, ai_iast, ai_iadd, ai_bin, ai_ifne, kd_0, fd_0_0, fd_0_1, fd_0_2, fd_0_3, fd_0_4, kd_1, fd_1_0, fd_1_1, ln_2, kd_3, fd_3_0, fd_3_1, fd_3_2, fd_3_3, fd_3_4, fd_3_5, fd_3_6, fd_3_7, fd_3_8, fd_3_9, ln_4, ln_5, ln_6, ln_7, ln_8, ln_9, ln_10, kd_11, fd_11_0, fd_11_1, fd_11_2, fd_11_3, fd_11_4, kd_12, fd_12_0, fd_12_1, fd_12_2, fd_12_3, ln_13, ln_14, ln_15, kd_16, fd_16_0, fd_16_1, fd_16_2, ln_17, kd_18, fd_18_0, fd_18_1, kd_19, fd_19_0, fd_19_1, fd_19_2, fd_19_3, fd_19_4, fd_19_5, fd_19_6, fd_19_7, fd_19_8, fd_19_9, fd_19_10, fd_19_11, fd_19_12, fd_19_13, fd_19_14, fd_19_15, fd_19_16, fd_19_17, fd_19_18, fd_19_19, fd_19_20, ln_20, ln_21, ln_22, ln_23, ln_24, ln_25, ln_26, ln_27, ln_28, ln_29, ln_30, ln_31, ln_32, List.getElem?_cons_zero, List.getElem?_cons_succ, List.set_cons_zero, List.set_cons_succ, true_and, and_true, ↓reduceIte, Int32.reduceLT, Int32.reduceLE, li_10, or_true, true_or, ↓sp_Model_say, c0, l1000, er, c1, vx, cx, c5', hw, not_false_eq_true]
    exact st_none1 (l := [41]) h hw (by omega) (by rw [hT, if_pos c5])
  by_cases c4 : M 21 x = 4
  · have c4' : (M 21 x = 4) = True := eq_true c4
    obtain ⟨h1, t1, eh, et, a1, a2, a3, a4⟩ := (ht x hx).2.2 c4
    have e1000 : (1000 : Int32) + nI t1 = nI (1000 + t1) := nI_add 1000 t1
    have p1 := pw_8 a1 (by omega)
    have p2 := pw_8 a3 (by omega)
    refine am_entry hG (by decide +kernel) (Nat.le_of_ble_eq_true rfl) ?_
    refine am_go (cuts := k_Model_step) (tb_Model_step (ok_Model_say hG) (by decide) (ok_Model_isQuote1 hG) (by decide) (ok_Model_number1 hG) (by decide) (ok_Model_letters1 hG) (by decide)) 400 _ _ _ _ ?_
    change am_run _ _ _ _ _ _ [some (.ref 19), some (.int (nI (1000 + x))), some (.int (nI mm)), none, none] [] _
    simp only [r_Model_step_0, r_Model_step_1, r_Model_step_4, r_Model_step_7, r_Model_step_8, r_Model_step_10, r_Model_step_13, r_Model_step_14, r_Model_step_15, r_Model_step_16, r_Model_step_19, r_Model_step_20, r_Model_step_21, r_Model_step_22, r_Model_step_25, r_Model_step_28, r_Model_step_29, r_Model_step_32, r_Model_step_33, r_Model_step_35, r_Model_step_37, r_Model_step_40, r_Model_step_41, r_Model_step_44, r_Model_step_45, r_Model_step_46, r_Model_step_47, r_Model_step_50, r_Model_step_51, r_Model_step_53, r_Model_step_56, r_Model_step_59, r_Model_step_61, r_Model_step_64, r_Model_step_65, r_Model_step_68, r_Model_step_69, r_Model_step_70, r_Model_step_71, r_Model_step_74, r_Model_step_75, r_Model_step_77, r_Model_step_80, r_Model_step_81, r_Model_step_83, r_Model_step_86, r_Model_step_87, r_Model_step_89, r_Model_step_92, r_Model_step_93, r_Model_step_96, r_Model_step_97, r_Model_step_100, r_Model_step_101, r_Model_step_102, r_Model_step_105, r_Model_step_106, r_Model_step_107, r_Model_step_108, r_Model_step_109, r_Model_step_110, r_Model_step_111, r_Model_step_112, r_Model_step_113, r_Model_step_114, r_Model_step_115, r_Model_step_118, r_Model_step_119, r_Model_step_120, r_Model_step_121, r_Model_step_124, r_Model_step_126, r_Model_step_129, r_Model_step_130, r_Model_step_131, r_Model_step_134, r_Model_step_137, r_Model_step_138, r_Model_step_140, r_Model_step_143, r_Model_step_144, r_Model_step_147, r_Model_step_148, r_Model_step_149, r_Model_step_152, r_Model_step_153, r_Model_step_156, r_Model_step_157, r_Model_step_158, r_Model_step_159, r_Model_step_160, r_Model_step_161, r_Model_step_162, r_Model_step_163, r_Model_step_164, r_Model_step_165, r_Model_step_167, r_Model_step_170, r_Model_step_172, r_Model_step_175, r_Model_step_177, r_Model_step_180, r_Model_step_181, r_Model_step_184, r_Model_step_185, r_Model_step_188, r_Model_step_189, r_Model_step_192, r_Model_step_193, r_Model_step_194, r_Model_step_195, r_Model_step_196, r_Model_step_197, r_Model_step_200, r_Model_step_201, r_Model_step_202, r_Model_step_203, r_Model_step_204, r_Model_step_207, r_Model_step_208, r_Model_step_209, r_Model_step_210, r_Model_step_211, r_Model_step_212, r_Model_step_213, r_Model_step_214, r_Model_step_215, r_Model_step_218, r_Model_step_219, r_Model_step_220, r_Model_step_221, r_Model_step_224, r_Model_step_225, r_Model_step_227, r_Model_step_230, r_Model_step_231, r_Model_step_233, r_Model_step_236, r_Model_step_239, r_Model_step_240, r_Model_step_243, r_Model_step_244, r_Model_step_245, r_Model_step_246, r_Model_step_249, r_Model_step_250, r_Model_step_251, r_Model_step_254, r_Model_step_255, r_Model_step_256, r_Model_step_259, r_Model_step_262, r_Model_step_263, r_Model_step_264, r_Model_step_267, r_Model_step_268, ai_iload, ai_const, ai_cmpne, ai_aload, ai_callv2, am_push, am_few, ai_iret, ai_irem, ai_istore, am_cut_0, am_cut_s, am_c1, ai_cmplt, ai_goto, ai_ifeq, ai_getf, ai_iald, ai_cmpeq, ai_iast, ai_iadd, ai_bin, ai_ifne, kd_0, fd_0_0, fd_0_1, fd_0_2, fd_0_3, fd_0_4, kd_1, fd_1_0, fd_1_1, ln_2, kd_3, fd_3_0, fd_3_1, fd_3_2, fd_3_3, fd_3_4, fd_3_5, fd_3_6, fd_3_7, fd_3_8, fd_3_9, ln_4, ln_5, ln_6, ln_7, ln_8, ln_9, ln_10, kd_11, fd_11_0, fd_11_1, fd_11_2, fd_11_3, fd_11_4, kd_12, fd_12_0, fd_12_1, fd_12_2, fd_12_3, ln_13, ln_14, ln_15, kd_16, fd_16_0, fd_16_1, fd_16_2, ln_17, kd_18, fd_18_0, fd_18_1, kd_19, fd_19_0, fd_19_1, fd_19_2, fd_19_3, fd_19_4, fd_19_5, fd_19_6, fd_19_7, fd_19_8, fd_19_9, fd_19_10, fd_19_11, fd_19_12, fd_19_13, fd_19_14, fd_19_15, fd_19_16, fd_19_17, fd_19_18, fd_19_19, fd_19_20, ln_20, ln_21, ln_22, ln_23, ln_24, ln_25, ln_26, ln_27, ln_28, ln_29, ln_30, ln_31, ln_32, List.getElem?_cons_zero, List.getElem?_cons_succ, List.set_cons_zero, List.set_cons_succ, true_and, and_true, ↓reduceIte, Int32.reduceLT, Int32.reduceLE, li_10, or_true, true_or, ↓sp_Model_say, c0, l1000, er, c1, vx, cx, c5, c4', hw, s1, s24, s25, eh, et, e1000, vm, cm, vm1, cm1, nI_1, em2, am_up_ap, Nat.reduceEqDiff, not_false_eq_true]
    refine st_two1 (l := [32]) h hw (Or.inr (Or.inl ⟨t1, rfl, a4, by omega⟩)) (Or.inl ⟨h1, rfl, a2, by omega⟩) ?_ ?_
    · rw [wgt_r (by omega), wgt_p (by omega), hwg]
      omega
    · rw [hT, if_neg c5, if_pos c4, eh, et, ent_p (by omega), ent_r (by omega), show cl (nI h1) = h1 from nI_clamp (by omega), show cl (nI t1) = t1 from nI_clamp (by omega)]
      rfl
  · refine am_entry hG (by decide +kernel) (Nat.le_of_ble_eq_true rfl) ?_
    refine am_go (cuts := k_Model_step) (tb_Model_step (ok_Model_say hG) (by decide) (ok_Model_isQuote1 hG) (by decide) (ok_Model_number1 hG) (by decide) (ok_Model_letters1 hG) (by decide)) 400 _ _ _ _ ?_
    change am_run _ _ _ _ _ _ [some (.ref 19), some (.int (nI (1000 + x))), some (.int (nI mm)), none, none] [] _
    simp only [r_Model_step_0, r_Model_step_1, r_Model_step_4, r_Model_step_7, r_Model_step_8, r_Model_step_10, r_Model_step_13, r_Model_step_14, r_Model_step_15, r_Model_step_16, r_Model_step_19, r_Model_step_20, r_Model_step_21, r_Model_step_22, r_Model_step_25, r_Model_step_28, r_Model_step_29, r_Model_step_32, r_Model_step_33, r_Model_step_35, r_Model_step_37, r_Model_step_40, r_Model_step_41, r_Model_step_44, r_Model_step_45, r_Model_step_46, r_Model_step_47, r_Model_step_50, r_Model_step_51, r_Model_step_53, r_Model_step_56, r_Model_step_59, r_Model_step_61, r_Model_step_64, r_Model_step_65, r_Model_step_68, r_Model_step_69, r_Model_step_70, r_Model_step_71, r_Model_step_74, r_Model_step_75, r_Model_step_77, r_Model_step_80, r_Model_step_81, r_Model_step_83, r_Model_step_86, r_Model_step_87, r_Model_step_89, r_Model_step_92, r_Model_step_93, r_Model_step_96, r_Model_step_97, r_Model_step_100, r_Model_step_101, r_Model_step_102, r_Model_step_105, r_Model_step_106, r_Model_step_107, r_Model_step_108, r_Model_step_109, r_Model_step_110, r_Model_step_111, r_Model_step_112, r_Model_step_113, r_Model_step_114, r_Model_step_115, r_Model_step_118, r_Model_step_119, r_Model_step_120, r_Model_step_121, r_Model_step_124, r_Model_step_126, r_Model_step_129, r_Model_step_130, r_Model_step_131, r_Model_step_134, r_Model_step_137, r_Model_step_138, r_Model_step_140, r_Model_step_143, r_Model_step_144, r_Model_step_147, r_Model_step_148, r_Model_step_149, r_Model_step_152, r_Model_step_153, r_Model_step_156, r_Model_step_157, r_Model_step_158, r_Model_step_159, r_Model_step_160, r_Model_step_161, r_Model_step_162, r_Model_step_163, r_Model_step_164, r_Model_step_165, r_Model_step_167, r_Model_step_170, r_Model_step_172, r_Model_step_175, r_Model_step_177, r_Model_step_180, r_Model_step_181, r_Model_step_184, r_Model_step_185, r_Model_step_188, r_Model_step_189, r_Model_step_192, r_Model_step_193, r_Model_step_194, r_Model_step_195, r_Model_step_196, r_Model_step_197, r_Model_step_200, r_Model_step_201, r_Model_step_202, r_Model_step_203, r_Model_step_204, r_Model_step_207, r_Model_step_208, r_Model_step_209, r_Model_step_210, r_Model_step_211, r_Model_step_212, r_Model_step_213, r_Model_step_214, r_Model_step_215, r_Model_step_218, r_Model_step_219, r_Model_step_220, r_Model_step_221, r_Model_step_224, r_Model_step_225, r_Model_step_227, r_Model_step_230, r_Model_step_231, r_Model_step_233, r_Model_step_236, r_Model_step_239, r_Model_step_240, r_Model_step_243, r_Model_step_244, r_Model_step_245, r_Model_step_246, r_Model_step_249, r_Model_step_250, r_Model_step_251, r_Model_step_254, r_Model_step_255, r_Model_step_256, r_Model_step_259, r_Model_step_262, r_Model_step_263, r_Model_step_264, r_Model_step_267, r_Model_step_268, ai_iload, ai_const, ai_cmpne, ai_aload, ai_callv2, am_push, am_few, ai_iret, ai_irem, ai_istore, am_cut_0, am_cut_s, am_c1, ai_cmplt, ai_goto, ai_ifeq, ai_getf, ai_iald, ai_cmpeq, ai_iast, ai_iadd, ai_bin, ai_ifne, kd_0, fd_0_0, fd_0_1, fd_0_2, fd_0_3, fd_0_4, kd_1, fd_1_0, fd_1_1, ln_2, kd_3, fd_3_0, fd_3_1, fd_3_2, fd_3_3, fd_3_4, fd_3_5, fd_3_6, fd_3_7, fd_3_8, fd_3_9, ln_4, ln_5, ln_6, ln_7, ln_8, ln_9, ln_10, kd_11, fd_11_0, fd_11_1, fd_11_2, fd_11_3, fd_11_4, kd_12, fd_12_0, fd_12_1, fd_12_2, fd_12_3, ln_13, ln_14, ln_15, kd_16, fd_16_0, fd_16_1, fd_16_2, ln_17, kd_18, fd_18_0, fd_18_1, kd_19, fd_19_0, fd_19_1, fd_19_2, fd_19_3, fd_19_4, fd_19_5, fd_19_6, fd_19_7, fd_19_8, fd_19_9, fd_19_10, fd_19_11, fd_19_12, fd_19_13, fd_19_14, fd_19_15, fd_19_16, fd_19_17, fd_19_18, fd_19_19, fd_19_20, ln_20, ln_21, ln_22, ln_23, ln_24, ln_25, ln_26, ln_27, ln_28, ln_29, ln_30, ln_31, ln_32, List.getElem?_cons_zero, List.getElem?_cons_succ, List.set_cons_zero, List.set_cons_succ, true_and, and_true, ↓reduceIte, Int32.reduceLT, Int32.reduceLE, li_10, or_true, true_or, ↓sp_Model_say, c0, l1000, er, c1, vx, cx, c5, c4, hw, w1, w2, vm, cm, vm1, cm1, nI_1, em2, not_false_eq_true]
    refine st_two1 (l := [32, 46, 32]) h hw (Or.inr (Or.inr ⟨rfl, by omega⟩)) (Or.inl ⟨x, rfl, hx, by omega⟩) ?_ ?_
    · rw [wgt_2, wgt_p (by omega), hwg]
      omega
    · rw [hT, if_neg c5, if_neg c4, ent_p (by omega), ent_2]
      rfl
set_option maxRecDepth 100000 in
set_option maxHeartbeats 4000000 in
theorem ok_step_plain1 {G : aG} (hG : am_ok G) {K : aR} {M : aM} {x mm : Nat} (ht : tr_ok M) (hc : mc_ok M) (hw : mw_ok M) (hx : x < mN M) (hmm : mm ≤ x) (h : st_post1 M mm (nI x) K) : am_Met G Y_Model_step 5 [.ref 19, .int (nI x), .int (nI mm)] M K := by
  have h200 := hc.2
  have c0 : ¬ nI x = 2000 := fun q => by
    have := (nI_eq (a := x) (b := 2000) (by omega) (by decide)).mp q
    omega
  have l1000 : ((1000 : Int32) = 0) = False := eq_false (by decide)
  have er := rm_p (x := x) (by omega)
  have c1 : nI x < 1000 := nI_lt (b := 1000) (by omega) (by decide)
  have vx : vp_in (nI x) 200 := vp_in_nI (by omega) (by decide)
  have cx : (nI x).toNatClampNeg = x := nI_clamp (by omega)
  have vm : vp_in (nI mm) 420 := vp_in_nI (by omega) (by decide)
  have cm : (nI mm).toNatClampNeg = mm := nI_clamp (by omega)
  have vm1 : vp_in (nI (mm + 1)) 420 := vp_in_nI (by omega) (by decide)
  have cm1 : (nI (mm + 1)).toNatClampNeg = mm + 1 := nI_clamp (by omega)
  have em2 : nI mm + 2 = nI (mm + 2) := nI_add mm 2
  have hp := pw_8p x (by omega)
  have hwg : wgt (nI x) = 8 ^ (201 - x) := wgt_p (by omega)
  have hT : entT M (nI x) = _ := (ent_p (M := M) (by omega)).trans (out_f ht h200 hx)
  have s1 : ∀ b, m_say M b 21 = M 21 := fun b => (m_say_rel (b := b) hw).1 21 (by decide) (by decide)
  have s24 : ∀ b, m_say M b 24 = M 24 := fun b => (m_say_rel (b := b) hw).1 24 (by decide) (by decide)
  have s25 : ∀ b, m_say M b 25 = M 25 := fun b => (m_say_rel (b := b) hw).1 25 (by decide) (by decide)
  by_cases c4 : M 21 x = 4
  · have c4' : (M 21 x = 4) = True := eq_true c4
    obtain ⟨h1, t1, eh, et, a1, a2, a3, a4⟩ := (ht x hx).2.2 c4
    have e1000 : (1000 : Int32) + nI t1 = nI (1000 + t1) := nI_add 1000 t1
    have p1 := pw_8 a1 (by omega)
    have p2 := pw_8 a3 (by omega)
    have vt : vp_in (nI t1) 200 := vp_in_nI (by omega) (by decide)
    have ct : (nI t1).toNatClampNeg = t1 := nI_clamp (by omega)
    have hex : (∃ y, y < mN M ∧ nI x = nI y ∧ M 21 y = 4) = True := eq_true ⟨x, hx, rfl, c4⟩
    have b20 : ∀ b : Bool, (b2 b = 0) = (b = false) := b2_eq0
    refine am_entry hG (by decide +kernel) (Nat.le_of_ble_eq_true rfl) ?_
    refine am_go (cuts := k_Model_step) (tb_Model_step (ok_Model_say hG) (by decide) (ok_Model_isQuote1 hG) (by decide) (ok_Model_number1 hG) (by decide) (ok_Model_letters1 hG) (by decide)) 400 _ _ _ _ ?_
    change am_run _ _ _ _ _ _ [some (.ref 19), some (.int (nI x)), some (.int (nI mm)), none, none] [] _
    simp only [r_Model_step_0, r_Model_step_1, r_Model_step_4, r_Model_step_7, r_Model_step_8, r_Model_step_10, r_Model_step_13, r_Model_step_14, r_Model_step_15, r_Model_step_16, r_Model_step_19, r_Model_step_20, r_Model_step_21, r_Model_step_22, r_Model_step_25, r_Model_step_28, r_Model_step_29, r_Model_step_32, r_Model_step_33, r_Model_step_35, r_Model_step_37, r_Model_step_40, r_Model_step_41, r_Model_step_44, r_Model_step_45, r_Model_step_46, r_Model_step_47, r_Model_step_50, r_Model_step_51, r_Model_step_53, r_Model_step_56, r_Model_step_59, r_Model_step_61, r_Model_step_64, r_Model_step_65, r_Model_step_68, r_Model_step_69, r_Model_step_70, r_Model_step_71, r_Model_step_74, r_Model_step_75, r_Model_step_77, r_Model_step_80, r_Model_step_81, r_Model_step_83, r_Model_step_86, r_Model_step_87, r_Model_step_89, r_Model_step_92, r_Model_step_93, r_Model_step_96, r_Model_step_97, r_Model_step_100, r_Model_step_101, r_Model_step_102, r_Model_step_105, r_Model_step_106, r_Model_step_107, r_Model_step_108, r_Model_step_109, r_Model_step_110, r_Model_step_111, r_Model_step_112, r_Model_step_113, r_Model_step_114, r_Model_step_115, r_Model_step_118, r_Model_step_119, r_Model_step_120, r_Model_step_121, r_Model_step_124, r_Model_step_126, r_Model_step_129, r_Model_step_130, r_Model_step_131, r_Model_step_134, r_Model_step_137, r_Model_step_138, r_Model_step_140, r_Model_step_143, r_Model_step_144, r_Model_step_147, r_Model_step_148, r_Model_step_149, r_Model_step_152, r_Model_step_153, r_Model_step_156, r_Model_step_157, r_Model_step_158, r_Model_step_159, r_Model_step_160, r_Model_step_161, r_Model_step_162, r_Model_step_163, r_Model_step_164, r_Model_step_165, r_Model_step_167, r_Model_step_170, r_Model_step_172, r_Model_step_175, r_Model_step_177, r_Model_step_180, r_Model_step_181, r_Model_step_184, r_Model_step_185, r_Model_step_188, r_Model_step_189, r_Model_step_192, r_Model_step_193, r_Model_step_194, r_Model_step_195, r_Model_step_196, r_Model_step_197, r_Model_step_200, r_Model_step_201, r_Model_step_202, r_Model_step_203, r_Model_step_204, r_Model_step_207, r_Model_step_208, r_Model_step_209, r_Model_step_210, r_Model_step_211, r_Model_step_212, r_Model_step_213, r_Model_step_214, r_Model_step_215, r_Model_step_218, r_Model_step_219, r_Model_step_220, r_Model_step_221, r_Model_step_224, r_Model_step_225, r_Model_step_227, r_Model_step_230, r_Model_step_231, r_Model_step_233, r_Model_step_236, r_Model_step_239, r_Model_step_240, r_Model_step_243, r_Model_step_244, r_Model_step_245, r_Model_step_246, r_Model_step_249, r_Model_step_250, r_Model_step_251, r_Model_step_254, r_Model_step_255, r_Model_step_256, r_Model_step_259, r_Model_step_262, r_Model_step_263, r_Model_step_264, r_Model_step_267, r_Model_step_268, ai_iload, ai_const, ai_cmpne, ai_aload, ai_callv2, am_push, am_few, ai_iret, ai_irem, ai_istore, am_cut_0, am_cut_s, am_c1, ai_cmplt, ai_goto, ai_ifeq, ai_getf, ai_iald, ai_cmpeq, ai_iast, ai_iadd, ai_bin, ai_ifne, kd_0, fd_0_0, fd_0_1, fd_0_2, fd_0_3, fd_0_4, kd_1, fd_1_0, fd_1_1, ln_2, kd_3, fd_3_0, fd_3_1, fd_3_2, fd_3_3, fd_3_4, fd_3_5, fd_3_6, fd_3_7, fd_3_8, fd_3_9, ln_4, ln_5, ln_6, ln_7, ln_8, ln_9, ln_10, kd_11, fd_11_0, fd_11_1, fd_11_2, fd_11_3, fd_11_4, kd_12, fd_12_0, fd_12_1, fd_12_2, fd_12_3, ln_13, ln_14, ln_15, kd_16, fd_16_0, fd_16_1, fd_16_2, ln_17, kd_18, fd_18_0, fd_18_1, kd_19, fd_19_0, fd_19_1, fd_19_2, fd_19_3, fd_19_4, fd_19_5, fd_19_6, fd_19_7, fd_19_8, fd_19_9, fd_19_10, fd_19_11, fd_19_12, fd_19_13, fd_19_14, fd_19_15, fd_19_16, fd_19_17, fd_19_18, fd_19_19, fd_19_20, ln_20, ln_21, ln_22, ln_23, ln_24, ln_25, ln_26, ln_27, ln_28, ln_29, ln_30, ln_31, ln_32, List.getElem?_cons_zero, List.getElem?_cons_succ, List.set_cons_zero, List.set_cons_succ, true_and, and_true, ↓reduceIte, Int32.reduceLT, Int32.reduceLE, li_10, or_true, true_or, ↓sp_Model_isQuote1, c0, l1000, er, c1, vx, cx, c4', ht, hc, hex, not_false_eq_true]
    cases cq : m_isQ M x
    · have b0 : (b2 false = 0) = True := eq_true rfl
      simp only [r_Model_step_0, r_Model_step_1, r_Model_step_4, r_Model_step_7, r_Model_step_8, r_Model_step_10, r_Model_step_13, r_Model_step_14, r_Model_step_15, r_Model_step_16, r_Model_step_19, r_Model_step_20, r_Model_step_21, r_Model_step_22, r_Model_step_25, r_Model_step_28, r_Model_step_29, r_Model_step_32, r_Model_step_33, r_Model_step_35, r_Model_step_37, r_Model_step_40, r_Model_step_41, r_Model_step_44, r_Model_step_45, r_Model_step_46, r_Model_step_47, r_Model_step_50, r_Model_step_51, r_Model_step_53, r_Model_step_56, r_Model_step_59, r_Model_step_61, r_Model_step_64, r_Model_step_65, r_Model_step_68, r_Model_step_69, r_Model_step_70, r_Model_step_71, r_Model_step_74, r_Model_step_75, r_Model_step_77, r_Model_step_80, r_Model_step_81, r_Model_step_83, r_Model_step_86, r_Model_step_87, r_Model_step_89, r_Model_step_92, r_Model_step_93, r_Model_step_96, r_Model_step_97, r_Model_step_100, r_Model_step_101, r_Model_step_102, r_Model_step_105, r_Model_step_106, r_Model_step_107, r_Model_step_108, r_Model_step_109, r_Model_step_110, r_Model_step_111, r_Model_step_112, r_Model_step_113, r_Model_step_114, r_Model_step_115, r_Model_step_118, r_Model_step_119, r_Model_step_120, r_Model_step_121, r_Model_step_124, r_Model_step_126, r_Model_step_129, r_Model_step_130, r_Model_step_131, r_Model_step_134, r_Model_step_137, r_Model_step_138, r_Model_step_140, r_Model_step_143, r_Model_step_144, r_Model_step_147, r_Model_step_148, r_Model_step_149, r_Model_step_152, r_Model_step_153, r_Model_step_156, r_Model_step_157, r_Model_step_158, r_Model_step_159, r_Model_step_160, r_Model_step_161, r_Model_step_162, r_Model_step_163, r_Model_step_164, r_Model_step_165, r_Model_step_167, r_Model_step_170, r_Model_step_172, r_Model_step_175, r_Model_step_177, r_Model_step_180, r_Model_step_181, r_Model_step_184, r_Model_step_185, r_Model_step_188, r_Model_step_189, r_Model_step_192, r_Model_step_193, r_Model_step_194, r_Model_step_195, r_Model_step_196, r_Model_step_197, r_Model_step_200, r_Model_step_201, r_Model_step_202, r_Model_step_203, r_Model_step_204, r_Model_step_207, r_Model_step_208, r_Model_step_209, r_Model_step_210, r_Model_step_211, r_Model_step_212, r_Model_step_213, r_Model_step_214, r_Model_step_215, r_Model_step_218, r_Model_step_219, r_Model_step_220, r_Model_step_221, r_Model_step_224, r_Model_step_225, r_Model_step_227, r_Model_step_230, r_Model_step_231, r_Model_step_233, r_Model_step_236, r_Model_step_239, r_Model_step_240, r_Model_step_243, r_Model_step_244, r_Model_step_245, r_Model_step_246, r_Model_step_249, r_Model_step_250, r_Model_step_251, r_Model_step_254, r_Model_step_255, r_Model_step_256, r_Model_step_259, r_Model_step_262, r_Model_step_263, r_Model_step_264, r_Model_step_267, r_Model_step_268, ai_iload, ai_const, ai_cmpne, ai_aload, ai_callv2, am_push, am_few, ai_iret, ai_irem, ai_istore, am_cut_0, am_cut_s, am_c1, ai_cmplt, ai_goto, ai_ifeq, ai_getf, ai_iald, ai_cmpeq, ai_iast, ai_iadd, ai_bin, ai_ifne, kd_0, fd_0_0, fd_0_1, fd_0_2, fd_0_3, fd_0_4, kd_1, fd_1_0, fd_1_1, ln_2, kd_3, fd_3_0, fd_3_1, fd_3_2, fd_3_3, fd_3_4, fd_3_5, fd_3_6, fd_3_7, fd_3_8, fd_3_9, ln_4, ln_5, ln_6, ln_7, ln_8, ln_9, ln_10, kd_11, fd_11_0, fd_11_1, fd_11_2, fd_11_3, fd_11_4, kd_12, fd_12_0, fd_12_1, fd_12_2, fd_12_3, ln_13, ln_14, ln_15, kd_16, fd_16_0, fd_16_1, fd_16_2, ln_17, kd_18, fd_18_0, fd_18_1, kd_19, fd_19_0, fd_19_1, fd_19_2, fd_19_3, fd_19_4, fd_19_5, fd_19_6, fd_19_7, fd_19_8, fd_19_9, fd_19_10, fd_19_11, fd_19_12, fd_19_13, fd_19_14, fd_19_15, fd_19_16, fd_19_17, fd_19_18, fd_19_19, fd_19_20, ln_20, ln_21, ln_22, ln_23, ln_24, ln_25, ln_26, ln_27, ln_28, ln_29, ln_30, ln_31, ln_32, List.getElem?_cons_zero, List.getElem?_cons_succ, List.set_cons_zero, List.set_cons_succ, true_and, and_true, ↓reduceIte, Int32.reduceLT, Int32.reduceLE, li_10, or_true, true_or, ↓sp_Model_say, b0, vx, cx, hw, s1, s24, s25, eh, et, e1000, vm, cm, vm1, cm1, nI_1, em2, am_up_ap, Nat.reduceEqDiff, not_false_eq_true]
      refine st_two1 (l := [40]) h hw (Or.inr (Or.inl ⟨t1, rfl, a4, by omega⟩)) (Or.inl ⟨h1, rfl, a2, by omega⟩) ?_ ?_
      · rw [wgt_r (by omega), wgt_p (by omega), hwg]
        omega
      · rw [hT, if_pos c4, cq, if_neg (by decide), eh, et, ent_p (by omega), ent_r (by omega), show cl (nI h1) = h1 from nI_clamp (by omega), show cl (nI t1) = t1 from nI_clamp (by omega)]
        rfl
    · have b1 : ¬ b2 true = 0 := by decide
      have ht4 : M 21 t1 = 4 := by
        have := isQ_t cq
        rw [et, show cl (nI t1) = t1 from ct] at this
        exact this
      obtain ⟨h2, t2, eh2, et2, d1, d2, d3, d4⟩ := (ht t1 a4).2.2 ht4
      have p3 := pw_8 (show x < h2 by omega) (by omega)
      simp only [r_Model_step_0, r_Model_step_1, r_Model_step_4, r_Model_step_7, r_Model_step_8, r_Model_step_10, r_Model_step_13, r_Model_step_14, r_Model_step_15, r_Model_step_16, r_Model_step_19, r_Model_step_20, r_Model_step_21, r_Model_step_22, r_Model_step_25, r_Model_step_28, r_Model_step_29, r_Model_step_32, r_Model_step_33, r_Model_step_35, r_Model_step_37, r_Model_step_40, r_Model_step_41, r_Model_step_44, r_Model_step_45, r_Model_step_46, r_Model_step_47, r_Model_step_50, r_Model_step_51, r_Model_step_53, r_Model_step_56, r_Model_step_59, r_Model_step_61, r_Model_step_64, r_Model_step_65, r_Model_step_68, r_Model_step_69, r_Model_step_70, r_Model_step_71, r_Model_step_74, r_Model_step_75, r_Model_step_77, r_Model_step_80, r_Model_step_81, r_Model_step_83, r_Model_step_86, r_Model_step_87, r_Model_step_89, r_Model_step_92, r_Model_step_93, r_Model_step_96, r_Model_step_97, r_Model_step_100, r_Model_step_101, r_Model_step_102, r_Model_step_105, r_Model_step_106, r_Model_step_107, r_Model_step_108, r_Model_step_109, r_Model_step_110, r_Model_step_111, r_Model_step_112, r_Model_step_113, r_Model_step_114, r_Model_step_115, r_Model_step_118, r_Model_step_119, r_Model_step_120, r_Model_step_121, r_Model_step_124, r_Model_step_126, r_Model_step_129, r_Model_step_130, r_Model_step_131, r_Model_step_134, r_Model_step_137, r_Model_step_138, r_Model_step_140, r_Model_step_143, r_Model_step_144, r_Model_step_147, r_Model_step_148, r_Model_step_149, r_Model_step_152, r_Model_step_153, r_Model_step_156, r_Model_step_157, r_Model_step_158, r_Model_step_159, r_Model_step_160, r_Model_step_161, r_Model_step_162, r_Model_step_163, r_Model_step_164, r_Model_step_165, r_Model_step_167, r_Model_step_170, r_Model_step_172, r_Model_step_175, r_Model_step_177, r_Model_step_180, r_Model_step_181, r_Model_step_184, r_Model_step_185, r_Model_step_188, r_Model_step_189, r_Model_step_192, r_Model_step_193, r_Model_step_194, r_Model_step_195, r_Model_step_196, r_Model_step_197, r_Model_step_200, r_Model_step_201, r_Model_step_202, r_Model_step_203, r_Model_step_204, r_Model_step_207, r_Model_step_208, r_Model_step_209, r_Model_step_210, r_Model_step_211, r_Model_step_212, r_Model_step_213, r_Model_step_214, r_Model_step_215, r_Model_step_218, r_Model_step_219, r_Model_step_220, r_Model_step_221, r_Model_step_224, r_Model_step_225, r_Model_step_227, r_Model_step_230, r_Model_step_231, r_Model_step_233, r_Model_step_236, r_Model_step_239, r_Model_step_240, r_Model_step_243, r_Model_step_244, r_Model_step_245, r_Model_step_246, r_Model_step_249, r_Model_step_250, r_Model_step_251, r_Model_step_254, r_Model_step_255, r_Model_step_256, r_Model_step_259, r_Model_step_262, r_Model_step_263, r_Model_step_264, r_Model_step_267, r_Model_step_268, ai_iload, ai_const, ai_cmpne, ai_aload, ai_callv2, am_push, am_few, ai_iret, ai_irem, ai_istore, am_cut_0, am_cut_s, am_c1, ai_cmplt, ai_goto, ai_ifeq, ai_getf, ai_iald, ai_cmpeq, ai_iast, ai_iadd, ai_bin, ai_ifne, kd_0, fd_0_0, fd_0_1, fd_0_2, fd_0_3, fd_0_4, kd_1, fd_1_0, fd_1_1, ln_2, kd_3, fd_3_0, fd_3_1, fd_3_2, fd_3_3, fd_3_4, fd_3_5, fd_3_6, fd_3_7, fd_3_8, fd_3_9, ln_4, ln_5, ln_6, ln_7, ln_8, ln_9, ln_10, kd_11, fd_11_0, fd_11_1, fd_11_2, fd_11_3, fd_11_4, kd_12, fd_12_0, fd_12_1, fd_12_2, fd_12_3, ln_13, ln_14, ln_15, kd_16, fd_16_0, fd_16_1, fd_16_2, ln_17, kd_18, fd_18_0, fd_18_1, kd_19, fd_19_0, fd_19_1, fd_19_2, fd_19_3, fd_19_4, fd_19_5, fd_19_6, fd_19_7, fd_19_8, fd_19_9, fd_19_10, fd_19_11, fd_19_12, fd_19_13, fd_19_14, fd_19_15, fd_19_16, fd_19_17, fd_19_18, fd_19_19, fd_19_20, ln_20, ln_21, ln_22, ln_23, ln_24, ln_25, ln_26, ln_27, ln_28, ln_29, ln_30, ln_31, ln_32, List.getElem?_cons_zero, List.getElem?_cons_succ, List.set_cons_zero, List.set_cons_succ, true_and, and_true, ↓reduceIte, Int32.reduceLT, Int32.reduceLE, li_10, or_true, true_or, ↓sp_Model_say, b1, vx, cx, hw, s24, s25, et, vt, ct, eh2, vm, cm, nI_1, not_false_eq_true]
      refine st_one1 (l := [39]) h hw (Or.inl ⟨h2, rfl, d2, by omega⟩) ?_ ?_
      · rw [wgt_p (by omega), hwg]
        have := pw_8p h2 (by omega)
        omega
      · rw [hT, if_pos c4, cq, if_pos rfl, et, show cl (nI t1) = t1 from ct, eh2, ent_p (by omega), show cl (nI h2) = h2 from nI_clamp (by omega)]
        rfl
  by_cases c5 : M 21 x = 5
  · have c5' : (M 21 x = 5) = True := eq_true c5
    have r1 := m_say_rel (b := 40) hw
    have w1 := r1.2.2
    refine am_entry hG (by decide +kernel) (Nat.le_of_ble_eq_true rfl) ?_
    refine am_go (cuts := k_Model_step) (tb_Model_step (ok_Model_say hG) (by decide) (ok_Model_isQuote1 hG) (by decide) (ok_Model_number1 hG) (by decide) (ok_Model_letters1 hG) (by decide)) 400 _ _ _ _ ?_
    change am_run _ _ _ _ _ _ [some (.ref 19), some (.int (nI x)), some (.int (nI mm)), none, none] [] _
    simp only [r_Model_step_0, r_Model_step_1, r_Model_step_4, r_Model_step_7, r_Model_step_8, r_Model_step_10, r_Model_step_13, r_Model_step_14, r_Model_step_15, r_Model_step_16, r_Model_step_19, r_Model_step_20, r_Model_step_21, r_Model_step_22, r_Model_step_25, r_Model_step_28, r_Model_step_29, r_Model_step_32, r_Model_step_33, r_Model_step_35, r_Model_step_37, r_Model_step_40, r_Model_step_41, r_Model_step_44, r_Model_step_45, r_Model_step_46, r_Model_step_47, r_Model_step_50, r_Model_step_51, r_Model_step_53, r_Model_step_56, r_Model_step_59, r_Model_step_61, r_Model_step_64, r_Model_step_65, r_Model_step_68, r_Model_step_69, r_Model_step_70, r_Model_step_71, r_Model_step_74, r_Model_step_75, r_Model_step_77, r_Model_step_80, r_Model_step_81, r_Model_step_83, r_Model_step_86, r_Model_step_87, r_Model_step_89, r_Model_step_92, r_Model_step_93, r_Model_step_96, r_Model_step_97, r_Model_step_100, r_Model_step_101, r_Model_step_102, r_Model_step_105, r_Model_step_106, r_Model_step_107, r_Model_step_108, r_Model_step_109, r_Model_step_110, r_Model_step_111, r_Model_step_112, r_Model_step_113, r_Model_step_114, r_Model_step_115, r_Model_step_118, r_Model_step_119, r_Model_step_120, r_Model_step_121, r_Model_step_124, r_Model_step_126, r_Model_step_129, r_Model_step_130, r_Model_step_131, r_Model_step_134, r_Model_step_137, r_Model_step_138, r_Model_step_140, r_Model_step_143, r_Model_step_144, r_Model_step_147, r_Model_step_148, r_Model_step_149, r_Model_step_152, r_Model_step_153, r_Model_step_156, r_Model_step_157, r_Model_step_158, r_Model_step_159, r_Model_step_160, r_Model_step_161, r_Model_step_162, r_Model_step_163, r_Model_step_164, r_Model_step_165, r_Model_step_167, r_Model_step_170, r_Model_step_172, r_Model_step_175, r_Model_step_177, r_Model_step_180, r_Model_step_181, r_Model_step_184, r_Model_step_185, r_Model_step_188, r_Model_step_189, r_Model_step_192, r_Model_step_193, r_Model_step_194, r_Model_step_195, r_Model_step_196, r_Model_step_197, r_Model_step_200, r_Model_step_201, r_Model_step_202, r_Model_step_203, r_Model_step_204, r_Model_step_207, r_Model_step_208, r_Model_step_209, r_Model_step_210, r_Model_step_211, r_Model_step_212, r_Model_step_213, r_Model_step_214, r_Model_step_215, r_Model_step_218, r_Model_step_219, r_Model_step_220, r_Model_step_221, r_Model_step_224, r_Model_step_225, r_Model_step_227, r_Model_step_230, r_Model_step_231, r_Model_step_233, r_Model_step_236, r_Model_step_239, r_Model_step_240, r_Model_step_243, r_Model_step_244, r_Model_step_245, r_Model_step_246, r_Model_step_249, r_Model_step_250, r_Model_step_251, r_Model_step_254, r_Model_step_255, r_Model_step_256, r_Model_step_259, r_Model_step_262, r_Model_step_263, r_Model_step_264, r_Model_step_267, r_Model_step_268, ai_iload, ai_const, ai_cmpne, ai_aload, ai_callv2, am_push, am_few, ai_iret, ai_irem, ai_istore, am_cut_0, am_cut_s, am_c1, ai_cmplt, ai_goto, ai_ifeq, ai_getf, ai_iald, ai_cmpeq, ai_iast, ai_iadd, ai_bin, ai_ifne, kd_0, fd_0_0, fd_0_1, fd_0_2, fd_0_3, fd_0_4, kd_1, fd_1_0, fd_1_1, ln_2, kd_3, fd_3_0, fd_3_1, fd_3_2, fd_3_3, fd_3_4, fd_3_5, fd_3_6, fd_3_7, fd_3_8, fd_3_9, ln_4, ln_5, ln_6, ln_7, ln_8, ln_9, ln_10, kd_11, fd_11_0, fd_11_1, fd_11_2, fd_11_3, fd_11_4, kd_12, fd_12_0, fd_12_1, fd_12_2, fd_12_3, ln_13, ln_14, ln_15, kd_16, fd_16_0, fd_16_1, fd_16_2, ln_17, kd_18, fd_18_0, fd_18_1, kd_19, fd_19_0, fd_19_1, fd_19_2, fd_19_3, fd_19_4, fd_19_5, fd_19_6, fd_19_7, fd_19_8, fd_19_9, fd_19_10, fd_19_11, fd_19_12, fd_19_13, fd_19_14, fd_19_15, fd_19_16, fd_19_17, fd_19_18, fd_19_19, fd_19_20, ln_20, ln_21, ln_22, ln_23, ln_24, ln_25, ln_26, ln_27, ln_28, ln_29, ln_30, ln_31, ln_32, List.getElem?_cons_zero, List.getElem?_cons_succ, List.set_cons_zero, List.set_cons_succ, true_and, and_true, ↓reduceIte, Int32.reduceLT, Int32.reduceLE, li_10, or_true, true_or, ↓sp_Model_say, c0, l1000, er, c1, vx, cx, c4, c5', hw, w1, not_false_eq_true]
    exact st_none1 (l := [40, 41]) h hw (by omega) (by rw [hT, if_neg c4, if_pos c5])
  by_cases c9 : M 21 x = 1
  · have c9' : (M 21 x = 1) = True := eq_true c9
    refine am_entry hG (by decide +kernel) (Nat.le_of_ble_eq_true rfl) ?_
    refine am_go (cuts := k_Model_step) (tb_Model_step (ok_Model_say hG) (by decide) (ok_Model_isQuote1 hG) (by decide) (ok_Model_number1 hG) (by decide) (ok_Model_letters1 hG) (by decide)) 400 _ _ _ _ ?_
    change am_run _ _ _ _ _ _ [some (.ref 19), some (.int (nI x)), some (.int (nI mm)), none, none] [] _
    simp only [r_Model_step_0, r_Model_step_1, r_Model_step_4, r_Model_step_7, r_Model_step_8, r_Model_step_10, r_Model_step_13, r_Model_step_14, r_Model_step_15, r_Model_step_16, r_Model_step_19, r_Model_step_20, r_Model_step_21, r_Model_step_22, r_Model_step_25, r_Model_step_28, r_Model_step_29, r_Model_step_32, r_Model_step_33, r_Model_step_35, r_Model_step_37, r_Model_step_40, r_Model_step_41, r_Model_step_44, r_Model_step_45, r_Model_step_46, r_Model_step_47, r_Model_step_50, r_Model_step_51, r_Model_step_53, r_Model_step_56, r_Model_step_59, r_Model_step_61, r_Model_step_64, r_Model_step_65, r_Model_step_68, r_Model_step_69, r_Model_step_70, r_Model_step_71, r_Model_step_74, r_Model_step_75, r_Model_step_77, r_Model_step_80, r_Model_step_81, r_Model_step_83, r_Model_step_86, r_Model_step_87, r_Model_step_89, r_Model_step_92, r_Model_step_93, r_Model_step_96, r_Model_step_97, r_Model_step_100, r_Model_step_101, r_Model_step_102, r_Model_step_105, r_Model_step_106, r_Model_step_107, r_Model_step_108, r_Model_step_109, r_Model_step_110, r_Model_step_111, r_Model_step_112, r_Model_step_113, r_Model_step_114, r_Model_step_115, r_Model_step_118, r_Model_step_119, r_Model_step_120, r_Model_step_121, r_Model_step_124, r_Model_step_126, r_Model_step_129, r_Model_step_130, r_Model_step_131, r_Model_step_134, r_Model_step_137, r_Model_step_138, r_Model_step_140, r_Model_step_143, r_Model_step_144, r_Model_step_147, r_Model_step_148, r_Model_step_149, r_Model_step_152, r_Model_step_153, r_Model_step_156, r_Model_step_157, r_Model_step_158, r_Model_step_159, r_Model_step_160, r_Model_step_161, r_Model_step_162, r_Model_step_163, r_Model_step_164, r_Model_step_165, r_Model_step_167, r_Model_step_170, r_Model_step_172, r_Model_step_175, r_Model_step_177, r_Model_step_180, r_Model_step_181, r_Model_step_184, r_Model_step_185, r_Model_step_188, r_Model_step_189, r_Model_step_192, r_Model_step_193, r_Model_step_194, r_Model_step_195, r_Model_step_196, r_Model_step_197, r_Model_step_200, r_Model_step_201, r_Model_step_202, r_Model_step_203, r_Model_step_204, r_Model_step_207, r_Model_step_208, r_Model_step_209, r_Model_step_210, r_Model_step_211, r_Model_step_212, r_Model_step_213, r_Model_step_214, r_Model_step_215, r_Model_step_218, r_Model_step_219, r_Model_step_220, r_Model_step_221, r_Model_step_224, r_Model_step_225, r_Model_step_227, r_Model_step_230, r_Model_step_231, r_Model_step_233, r_Model_step_236, r_Model_step_239, r_Model_step_240, r_Model_step_243, r_Model_step_244, r_Model_step_245, r_Model_step_246, r_Model_step_249, r_Model_step_250, r_Model_step_251, r_Model_step_254, r_Model_step_255, r_Model_step_256, r_Model_step_259, r_Model_step_262, r_Model_step_263, r_Model_step_264, r_Model_step_267, r_Model_step_268, ai_iload, ai_const, ai_cmpne, ai_aload, ai_callv2, am_push, am_few, ai_iret, ai_irem, ai_istore, am_cut_0, am_cut_s, am_c1, ai_cmplt, ai_goto, ai_ifeq, ai_getf, ai_iald, ai_cmpeq, ai_iast, ai_iadd, ai_bin, ai_ifne, kd_0, fd_0_0, fd_0_1, fd_0_2, fd_0_3, fd_0_4, kd_1, fd_1_0, fd_1_1, ln_2, kd_3, fd_3_0, fd_3_1, fd_3_2, fd_3_3, fd_3_4, fd_3_5, fd_3_6, fd_3_7, fd_3_8, fd_3_9, ln_4, ln_5, ln_6, ln_7, ln_8, ln_9, ln_10, kd_11, fd_11_0, fd_11_1, fd_11_2, fd_11_3, fd_11_4, kd_12, fd_12_0, fd_12_1, fd_12_2, fd_12_3, ln_13, ln_14, ln_15, kd_16, fd_16_0, fd_16_1, fd_16_2, ln_17, kd_18, fd_18_0, fd_18_1, kd_19, fd_19_0, fd_19_1, fd_19_2, fd_19_3, fd_19_4, fd_19_5, fd_19_6, fd_19_7, fd_19_8, fd_19_9, fd_19_10, fd_19_11, fd_19_12, fd_19_13, fd_19_14, fd_19_15, fd_19_16, fd_19_17, fd_19_18, fd_19_19, fd_19_20, ln_20, ln_21, ln_22, ln_23, ln_24, ln_25, ln_26, ln_27, ln_28, ln_29, ln_30, ln_31, ln_32, List.getElem?_cons_zero, List.getElem?_cons_succ, List.set_cons_zero, List.set_cons_succ, true_and, and_true, ↓reduceIte, Int32.reduceLT, Int32.reduceLE, li_10, or_true, true_or, ↓sp_Model_number1, c0, l1000, er, c1, vx, cx, c4, c5, c9', hw, not_false_eq_true]
    exact st_none1 h hw (by omega) (by rw [hT, if_neg c4, if_neg c5, if_pos c9])
  · have hk := (ht x hx).1
    have hv : ∃ v, v ≤ 20 ∧ M 22 x = nI v := by
      apply (ht x hx).2.1
      rcases hk with q | q | q | q | q
      · exact absurd q c9
      · exact Or.inl q
      · exact Or.inr q
      · exact absurd q c4
      · exact absurd q c5
    obtain ⟨v, hv1, hv2⟩ := hv
    have hex : (∃ y v, y < 200 ∧ nI x = nI y ∧ v ≤ 20 ∧ M 22 y = nI v) = True := eq_true ⟨x, v, by omega, rfl, hv1, hv2⟩
    refine am_entry hG (by decide +kernel) (Nat.le_of_ble_eq_true rfl) ?_
    refine am_go (cuts := k_Model_step) (tb_Model_step (ok_Model_say hG) (by decide) (ok_Model_isQuote1 hG) (by decide) (ok_Model_number1 hG) (by decide) (ok_Model_letters1 hG) (by decide)) 400 _ _ _ _ ?_
    change am_run _ _ _ _ _ _ [some (.ref 19), some (.int (nI x)), some (.int (nI mm)), none, none] [] _
    simp only [r_Model_step_0, r_Model_step_1, r_Model_step_4, r_Model_step_7, r_Model_step_8, r_Model_step_10, r_Model_step_13, r_Model_step_14, r_Model_step_15, r_Model_step_16, r_Model_step_19, r_Model_step_20, r_Model_step_21, r_Model_step_22, r_Model_step_25, r_Model_step_28, r_Model_step_29, r_Model_step_32, r_Model_step_33, r_Model_step_35, r_Model_step_37, r_Model_step_40, r_Model_step_41, r_Model_step_44, r_Model_step_45, r_Model_step_46, r_Model_step_47, r_Model_step_50, r_Model_step_51, r_Model_step_53, r_Model_step_56, r_Model_step_59, r_Model_step_61, r_Model_step_64, r_Model_step_65, r_Model_step_68, r_Model_step_69, r_Model_step_70, r_Model_step_71, r_Model_step_74, r_Model_step_75, r_Model_step_77, r_Model_step_80, r_Model_step_81, r_Model_step_83, r_Model_step_86, r_Model_step_87, r_Model_step_89, r_Model_step_92, r_Model_step_93, r_Model_step_96, r_Model_step_97, r_Model_step_100, r_Model_step_101, r_Model_step_102, r_Model_step_105, r_Model_step_106, r_Model_step_107, r_Model_step_108, r_Model_step_109, r_Model_step_110, r_Model_step_111, r_Model_step_112, r_Model_step_113, r_Model_step_114, r_Model_step_115, r_Model_step_118, r_Model_step_119, r_Model_step_120, r_Model_step_121, r_Model_step_124, r_Model_step_126, r_Model_step_129, r_Model_step_130, r_Model_step_131, r_Model_step_134, r_Model_step_137, r_Model_step_138, r_Model_step_140, r_Model_step_143, r_Model_step_144, r_Model_step_147, r_Model_step_148, r_Model_step_149, r_Model_step_152, r_Model_step_153, r_Model_step_156, r_Model_step_157, r_Model_step_158, r_Model_step_159, r_Model_step_160, r_Model_step_161, r_Model_step_162, r_Model_step_163, r_Model_step_164, r_Model_step_165, r_Model_step_167, r_Model_step_170, r_Model_step_172, r_Model_step_175, r_Model_step_177, r_Model_step_180, r_Model_step_181, r_Model_step_184, r_Model_step_185, r_Model_step_188, r_Model_step_189, r_Model_step_192, r_Model_step_193, r_Model_step_194, r_Model_step_195, r_Model_step_196, r_Model_step_197, r_Model_step_200, r_Model_step_201, r_Model_step_202, r_Model_step_203, r_Model_step_204, r_Model_step_207, r_Model_step_208, r_Model_step_209, r_Model_step_210, r_Model_step_211, r_Model_step_212, r_Model_step_213, r_Model_step_214, r_Model_step_215, r_Model_step_218, r_Model_step_219, r_Model_step_220, r_Model_step_221, r_Model_step_224, r_Model_step_225, r_Model_step_227, r_Model_step_230, r_Model_step_231, r_Model_step_233, r_Model_step_236, r_Model_step_239, r_Model_step_240, r_Model_step_243, r_Model_step_244, r_Model_step_245, r_Model_step_246, r_Model_step_249, r_Model_step_250, r_Model_step_251, r_Model_step_254, r_Model_step_255, r_Model_step_256, r_Model_step_259, r_Model_step_262, r_Model_step_263, r_Model_step_264, r_Model_step_267, r_Model_step_268, ai_iload, ai_const, ai_cmpne, ai_aload, ai_callv2, am_push, am_few, ai_iret, ai_irem, ai_istore, am_cut_0, am_cut_s, am_c1, ai_cmplt, ai_goto, ai_ifeq, ai_getf, ai_iald, ai_cmpeq, ai_iast, ai_iadd, ai_bin, ai_ifne, kd_0, fd_0_0, fd_0_1, fd_0_2, fd_0_3, fd_0_4, kd_1, fd_1_0, fd_1_1, ln_2, kd_3, fd_3_0, fd_3_1, fd_3_2, fd_3_3, fd_3_4, fd_3_5, fd_3_6, fd_3_7, fd_3_8, fd_3_9, ln_4, ln_5, ln_6, ln_7, ln_8, ln_9, ln_10, kd_11, fd_11_0, fd_11_1, fd_11_2, fd_11_3, fd_11_4, kd_12, fd_12_0, fd_12_1, fd_12_2, fd_12_3, ln_13, ln_14, ln_15, kd_16, fd_16_0, fd_16_1, fd_16_2, ln_17, kd_18, fd_18_0, fd_18_1, kd_19, fd_19_0, fd_19_1, fd_19_2, fd_19_3, fd_19_4, fd_19_5, fd_19_6, fd_19_7, fd_19_8, fd_19_9, fd_19_10, fd_19_11, fd_19_12, fd_19_13, fd_19_14, fd_19_15, fd_19_16, fd_19_17, fd_19_18, fd_19_19, fd_19_20, ln_20, ln_21, ln_22, ln_23, ln_24, ln_25, ln_26, ln_27, ln_28, ln_29, ln_30, ln_31, ln_32, List.getElem?_cons_zero, List.getElem?_cons_succ, List.set_cons_zero, List.set_cons_succ, true_and, and_true, ↓reduceIte, Int32.reduceLT, Int32.reduceLE, li_10, or_true, true_or, ↓sp_Model_letters1, c0, l1000, er, c1, vx, cx, c4, c5, c9, hw, hex, not_false_eq_true]
    exact st_none1 h hw (by omega) (by rw [hT, if_neg c4, if_neg c5, if_neg c9])
set_option maxRecDepth 100000 in
set_option maxHeartbeats 4000000 in
theorem ok_Model_step1 {G : aG} (hG : am_ok G) : am_Sp G Y_Model_step 5 sp_Model_step1 := by
  intro as M K h
  unfold sp_Model_step1 at h
  split at h
  · next a w m =>
    obtain ⟨rfl, ⟨ht, hc, hw, em, hm, he⟩, h⟩ := h
    rw [em]
    rcases he with ⟨x, rfl, hx, hj⟩ | ⟨x, rfl, hx, hj⟩ | ⟨rfl, hj⟩
    · exact ok_step_plain1 hG ht hc hw hx hj h
    · exact ok_step_rest1 hG ht hc hw hx hj h
    · have l2000 : ((2000 : Int32) = 2000) = True := eq_true rfl
      refine am_entry hG (by decide +kernel) (Nat.le_of_ble_eq_true rfl) ?_
      refine am_go (cuts := k_Model_step) (tb_Model_step (ok_Model_say hG) (by decide) (ok_Model_isQuote1 hG) (by decide) (ok_Model_number1 hG) (by decide) (ok_Model_letters1 hG) (by decide)) 400 _ _ _ _ ?_
      change am_run _ _ _ _ _ _ [some (.ref 19), some (.int 2000), some (.int (nI (cl m))), none, none] [] _
      simp only [r_Model_step_0, r_Model_step_1, r_Model_step_4, r_Model_step_7, r_Model_step_8, r_Model_step_10, r_Model_step_13, r_Model_step_14, r_Model_step_15, r_Model_step_16, r_Model_step_19, r_Model_step_20, r_Model_step_21, r_Model_step_22, r_Model_step_25, r_Model_step_28, r_Model_step_29, r_Model_step_32, r_Model_step_33, r_Model_step_35, r_Model_step_37, r_Model_step_40, r_Model_step_41, r_Model_step_44, r_Model_step_45, r_Model_step_46, r_Model_step_47, r_Model_step_50, r_Model_step_51, r_Model_step_53, r_Model_step_56, r_Model_step_59, r_Model_step_61, r_Model_step_64, r_Model_step_65, r_Model_step_68, r_Model_step_69, r_Model_step_70, r_Model_step_71, r_Model_step_74, r_Model_step_75, r_Model_step_77, r_Model_step_80, r_Model_step_81, r_Model_step_83, r_Model_step_86, r_Model_step_87, r_Model_step_89, r_Model_step_92, r_Model_step_93, r_Model_step_96, r_Model_step_97, r_Model_step_100, r_Model_step_101, r_Model_step_102, r_Model_step_105, r_Model_step_106, r_Model_step_107, r_Model_step_108, r_Model_step_109, r_Model_step_110, r_Model_step_111, r_Model_step_112, r_Model_step_113, r_Model_step_114, r_Model_step_115, r_Model_step_118, r_Model_step_119, r_Model_step_120, r_Model_step_121, r_Model_step_124, r_Model_step_126, r_Model_step_129, r_Model_step_130, r_Model_step_131, r_Model_step_134, r_Model_step_137, r_Model_step_138, r_Model_step_140, r_Model_step_143, r_Model_step_144, r_Model_step_147, r_Model_step_148, r_Model_step_149, r_Model_step_152, r_Model_step_153, r_Model_step_156, r_Model_step_157, r_Model_step_158, r_Model_step_159, r_Model_step_160, r_Model_step_161, r_Model_step_162, r_Model_step_163, r_Model_step_164, r_Model_step_165, r_Model_step_167, r_Model_step_170, r_Model_step_172, r_Model_step_175, r_Model_step_177, r_Model_step_180, r_Model_step_181, r_Model_step_184, r_Model_step_185, r_Model_step_188, r_Model_step_189, r_Model_step_192, r_Model_step_193, r_Model_step_194, r_Model_step_195, r_Model_step_196, r_Model_step_197, r_Model_step_200, r_Model_step_201, r_Model_step_202, r_Model_step_203, r_Model_step_204, r_Model_step_207, r_Model_step_208, r_Model_step_209, r_Model_step_210, r_Model_step_211, r_Model_step_212, r_Model_step_213, r_Model_step_214, r_Model_step_215, r_Model_step_218, r_Model_step_219, r_Model_step_220, r_Model_step_221, r_Model_step_224, r_Model_step_225, r_Model_step_227, r_Model_step_230, r_Model_step_231, r_Model_step_233, r_Model_step_236, r_Model_step_239, r_Model_step_240, r_Model_step_243, r_Model_step_244, r_Model_step_245, r_Model_step_246, r_Model_step_249, r_Model_step_250, r_Model_step_251, r_Model_step_254, r_Model_step_255, r_Model_step_256, r_Model_step_259, r_Model_step_262, r_Model_step_263, r_Model_step_264, r_Model_step_267, r_Model_step_268, ai_iload, ai_const, ai_cmpne, ai_aload, ai_callv2, am_push, am_few, ai_iret, ai_irem, ai_istore, am_cut_0, am_cut_s, am_c1, ai_cmplt, ai_goto, ai_ifeq, ai_getf, ai_iald, ai_cmpeq, ai_iast, ai_iadd, ai_bin, ai_ifne, kd_0, fd_0_0, fd_0_1, fd_0_2, fd_0_3, fd_0_4, kd_1, fd_1_0, fd_1_1, ln_2, kd_3, fd_3_0, fd_3_1, fd_3_2, fd_3_3, fd_3_4, fd_3_5, fd_3_6, fd_3_7, fd_3_8, fd_3_9, ln_4, ln_5, ln_6, ln_7, ln_8, ln_9, ln_10, kd_11, fd_11_0, fd_11_1, fd_11_2, fd_11_3, fd_11_4, kd_12, fd_12_0, fd_12_1, fd_12_2, fd_12_3, ln_13, ln_14, ln_15, kd_16, fd_16_0, fd_16_1, fd_16_2, ln_17, kd_18, fd_18_0, fd_18_1, kd_19, fd_19_0, fd_19_1, fd_19_2, fd_19_3, fd_19_4, fd_19_5, fd_19_6, fd_19_7, fd_19_8, fd_19_9, fd_19_10, fd_19_11, fd_19_12, fd_19_13, fd_19_14, fd_19_15, fd_19_16, fd_19_17, fd_19_18, fd_19_19, fd_19_20, ln_20, ln_21, ln_22, ln_23, ln_24, ln_25, ln_26, ln_27, ln_28, ln_29, ln_30, ln_31, ln_32, List.getElem?_cons_zero, List.getElem?_cons_succ, List.set_cons_zero, List.set_cons_succ, true_and, and_true, ↓reduceIte, Int32.reduceLT, Int32.reduceLE, li_10, or_true, true_or, ↓sp_Model_say, l2000, hw]
      exact st_none1 (l := [41]) h hw (by rw [wgt_2]; decide) ent_2
  · cases h
theorem out_c {M0 M : aM} (e21 : M 21 = M0 21) (e22 : M 22 = M0 22) (e23 : M 23 = M0 23) (e24 : M 24 = M0 24) (e25 : M 25 = M0 25) (b : Bool) (x : Nat) : out M b x = out M0 b x := by
  have eb : ∀ x r k, m_bts M x r k = m_bts M0 x r k := by
    intro x r
    induction r with
    | zero => intro k; rfl
    | succ r ih => intro k; rw [m_bts, m_bts, ih, e23]
  have es : ∀ x r k, m_stb M x r k = m_stb M0 x r k := by
    intro x r
    induction r with
    | zero => intro k; rfl
    | succ r ih => intro k; rw [m_stb, m_stb, ih, e23]
  have eq : ∀ x r k, mqE M x r k = mqE M0 x r k := by
    intro x r
    induction r with
    | zero => intro k; rfl
    | succ r ih => intro k; rw [mqE, mqE, ih, e23]
  have el : ∀ x, m_ltx M x = m_ltx M0 x := fun x => by unfold m_ltx; rw [e21, e22, eb, es]
  have ei : ∀ x, m_isQ M x = m_isQ M0 x := fun x => by unfold m_isQ; rw [e21, e22, e24, e25, eq]
  have key : ∀ f b x, outF M f b x = outF M0 f b x := by
    intro f
    induction f with
    | zero => intro b x; rfl
    | succ f ih =>
      intro b x
      cases b
      · rw [outF, outF, e21, e22, e24, e25, ei, el, ih, ih, ih]
      · rw [outF, outF, e21, e24, e25, ih, ih, ih]
  unfold out
  exact key 401 b x
theorem out_wq {M0 M : aM} (h : wq_rel M0 M) (b : Bool) (x : Nat) : out M b x = out M0 b x := out_c (h.1 21 (by decide) (by decide) (by decide) (by decide)) (h.1 22 (by decide) (by decide) (by decide) (by decide)) (h.1 23 (by decide) (by decide) (by decide) (by decide)) (h.1 24 (by decide) (by decide) (by decide) (by decide)) (h.1 25 (by decide) (by decide) (by decide) (by decide)) b x
theorem ent_wq {M0 M : aM} (h : wq_rel M0 M) (w : Int32) : entT M w = entT M0 w := by
  unfold entT
  rw [out_wq h, out_wq h]
theorem stT_wq {M0 M : aM} (h : wq_rel M0 M) (s : Nat → Int32) : ∀ k, stT M s k = stT M0 s k
  | 0 => rfl
  | k + 1 => by rw [stT, stT, ent_wq h, stT_wq h s k]
theorem says_cong : ∀ (l : List Int32) {A B : aM}, A 30 = B 30 → A 19 18 = B 19 18 → m_says A l 30 = m_says B l 30 ∧ m_says A l 19 18 = m_says B l 19 18
  | [], _, _, h1, h2 => ⟨h1, h2⟩
  | b :: l, A, B, h1, h2 => by
    have hW : mW A = mW B := by unfold mW; rw [h2]
    rw [m_says_cons, m_says_cons]
    refine says_cong l ?_ ?_
    · unfold m_say
      rw [hW]
      split
      · exact h1
      · simp only [am_up_i, ↓reduceIte, Nat.reduceEqDiff]
        rw [h1]
    · unfold m_say
      rw [hW]
      split
      · exact h2
      · simp only [am_up_ap, ↓reduceIte]
def sp_Model_write1 : aS := fun as M K => match as with
  | [.ref a, .int x] => a = 19 ∧ (tr_ok M ∧ mc_ok M ∧ mw_ok M) ∧ ∀ N, wq_rel M N → N 30 = m_says M (if m_has M x = true then out M false (cl x) else []) 30 → N 19 18 = m_says M (if m_has M x = true then out M false (cl x) else []) 19 18 → K (some (.int (b2 (m_has M x)))) N
  | _ => False
set_option maxRecDepth 100000 in
set_option maxHeartbeats 4000000 in
theorem lp_Model_write1 {G : aG} (hG : am_ok G) {K : aR} {M0 : aM} {x : Int32} {L : List Int32} (ht : tr_ok M0) (hc : mc_ok M0) (hK : ∀ N, wq_rel M0 N → N 30 = m_says M0 L 30 → N 19 18 = m_says M0 L 19 18 → K (some (.int 1)) N) : ∀ (k m : Nat) (M : aM) (l : List Int32), mu (M 31) m < k → wq_rel M0 M → (∀ j, j < m → ent (mN M0) j (M 31 j)) → M 30 = m_says M0 l 30 → M 19 18 = m_says M0 l 19 18 → l ++ stT M0 (M 31) m = L → am_X G Y_Model_write 6 K 19 [some (.ref 19), some (.int x), some (.int (nI m))] [] M := by
  intro k
  induction k with
  | zero =>
    intro m M l h
    omega
  | succ k ih =>
    intro m M l hmu hM hent h30 h18 hL
    have h200 := hc.2
    by_cases c : m = 0
    · subst c
      have z : nI 0 ≤ 0 := by decide
      rw [stT, List.append_nil] at hL
      subst hL
      refine am_from (tb_Model_write (ok_Model_isNode hG) (by decide) (ok_Model_step1 hG) (by decide)) k_Model_write 400 ?_
      simp only [q_Model_write_19, r_Model_write_0, r_Model_write_1, r_Model_write_2, r_Model_write_5, r_Model_write_8, r_Model_write_9, r_Model_write_10, r_Model_write_11, r_Model_write_14, r_Model_write_15, r_Model_write_16, r_Model_write_17, r_Model_write_18, r_Model_write_19, r_Model_write_20, r_Model_write_23, r_Model_write_24, r_Model_write_25, r_Model_write_28, r_Model_write_29, r_Model_write_30, r_Model_write_31, r_Model_write_32, r_Model_write_33, r_Model_write_34, r_Model_write_35, r_Model_write_38, r_Model_write_39, r_Model_write_42, r_Model_write_43, ai_aload, ai_iload, ai_callv2, am_push, am_few, ai_ifne, ai_const, ai_zret, ai_getf, ai_iast, ai_istore, am_cut_0, am_cut_s, am_c1, ai_ifle, ai_isub, ai_bin, ai_iald, ai_callv3, ai_goto, kd_0, fd_0_0, fd_0_1, fd_0_2, fd_0_3, fd_0_4, kd_1, fd_1_0, fd_1_1, ln_2, kd_3, fd_3_0, fd_3_1, fd_3_2, fd_3_3, fd_3_4, fd_3_5, fd_3_6, fd_3_7, fd_3_8, fd_3_9, ln_4, ln_5, ln_6, ln_7, ln_8, ln_9, ln_10, kd_11, fd_11_0, fd_11_1, fd_11_2, fd_11_3, fd_11_4, kd_12, fd_12_0, fd_12_1, fd_12_2, fd_12_3, ln_13, ln_14, ln_15, kd_16, fd_16_0, fd_16_1, fd_16_2, ln_17, kd_18, fd_18_0, fd_18_1, kd_19, fd_19_0, fd_19_1, fd_19_2, fd_19_3, fd_19_4, fd_19_5, fd_19_6, fd_19_7, fd_19_8, fd_19_9, fd_19_10, fd_19_11, fd_19_12, fd_19_13, fd_19_14, fd_19_15, fd_19_16, fd_19_17, fd_19_18, fd_19_19, fd_19_20, ln_20, ln_21, ln_22, ln_23, ln_24, ln_25, ln_26, ln_27, ln_28, ln_29, ln_30, ln_31, ln_32, List.getElem?_cons_zero, List.getElem?_cons_succ, List.set_cons_zero, List.set_cons_succ, true_and, and_true, ↓reduceIte, Int32.reduceLT, Int32.reduceLE, li_10, or_true, true_or, z]
      exact hK M hM h30 h18
    · obtain ⟨m, rfl⟩ : ∃ q, m = q + 1 := ⟨m - 1, by omega⟩
      have he := hent m (by omega)
      have hj := ent_lt h200 he
      have z : ¬ nI (m + 1) ≤ 0 := nI_nle (by omega) (by omega)
      have e1 : nI (m + 1) - 1 = nI m := nI_pred m
      have vm : vp_in (nI m) 420 := vp_in_nI (by omega) (by decide)
      have cm : (nI m).toNatClampNeg = m := nI_clamp (by omega)
      have ht2 := hM.tree ht
      have hc2 := hM.mc hc
      have hw2 := hM.2.2
      have eN : mN M = mN M0 := by unfold mN; rw [hM.2.1 5 (by decide)]
      have q1 : (nI m = nI (cl (nI m))) = True := eq_true (by rw [show cl (nI m) = m from cm])
      have q3 : ent (mN M) m (M 31 m) := by rw [eN]; exact he
      refine am_from (tb_Model_write (ok_Model_isNode hG) (by decide) (ok_Model_step1 hG) (by decide)) k_Model_write 400 ?_
      simp only [q_Model_write_19, r_Model_write_0, r_Model_write_1, r_Model_write_2, r_Model_write_5, r_Model_write_8, r_Model_write_9, r_Model_write_10, r_Model_write_11, r_Model_write_14, r_Model_write_15, r_Model_write_16, r_Model_write_17, r_Model_write_18, r_Model_write_19, r_Model_write_20, r_Model_write_23, r_Model_write_24, r_Model_write_25, r_Model_write_28, r_Model_write_29, r_Model_write_30, r_Model_write_31, r_Model_write_32, r_Model_write_33, r_Model_write_34, r_Model_write_35, r_Model_write_38, r_Model_write_39, r_Model_write_42, r_Model_write_43, ai_aload, ai_iload, ai_callv2, am_push, am_few, ai_ifne, ai_const, ai_zret, ai_getf, ai_iast, ai_istore, am_cut_0, am_cut_s, am_c1, ai_ifle, ai_isub, ai_bin, ai_iald, ai_callv3, ai_goto, kd_0, fd_0_0, fd_0_1, fd_0_2, fd_0_3, fd_0_4, kd_1, fd_1_0, fd_1_1, ln_2, kd_3, fd_3_0, fd_3_1, fd_3_2, fd_3_3, fd_3_4, fd_3_5, fd_3_6, fd_3_7, fd_3_8, fd_3_9, ln_4, ln_5, ln_6, ln_7, ln_8, ln_9, ln_10, kd_11, fd_11_0, fd_11_1, fd_11_2, fd_11_3, fd_11_4, kd_12, fd_12_0, fd_12_1, fd_12_2, fd_12_3, ln_13, ln_14, ln_15, kd_16, fd_16_0, fd_16_1, fd_16_2, ln_17, kd_18, fd_18_0, fd_18_1, kd_19, fd_19_0, fd_19_1, fd_19_2, fd_19_3, fd_19_4, fd_19_5, fd_19_6, fd_19_7, fd_19_8, fd_19_9, fd_19_10, fd_19_11, fd_19_12, fd_19_13, fd_19_14, fd_19_15, fd_19_16, fd_19_17, fd_19_18, fd_19_19, fd_19_20, ln_20, ln_21, ln_22, ln_23, ln_24, ln_25, ln_26, ln_27, ln_28, ln_29, ln_30, ln_31, ln_32, List.getElem?_cons_zero, List.getElem?_cons_succ, List.set_cons_zero, List.set_cons_succ, true_and, and_true, ↓reduceIte, Int32.reduceLT, Int32.reduceLE, li_10, or_true, true_or, ↓sp_Model_step1, z, e1, vm, cm, ht2, hc2, hw2, q1, hj, q3]
      intro m' N l2 hN hN2 hm' hold hnew hlt htx
      have hmm : mu (M 31) (m + 1) = mu (M 31) m + wgt (M 31 m) := rfl
      obtain ⟨g1, g2⟩ := says_cong l2 h30 h18
      rw [← m_says_app] at g1 g2
      refine ih m' N (l ++ l2) (by omega) (hM.tr hN) ?_ (hN2.1.trans g1) (hN2.2.trans g2) ?_
      · intro j hjm
        by_cases cj : j < m
        · rw [hold j cj]; exact hent j (by omega)
        · rw [← eN]; exact hnew j (by omega) hjm
      · rw [stT_wq hM, stT_wq hM, ent_wq hM] at htx
        rw [← hL, stT, List.append_assoc, htx]
set_option maxRecDepth 100000 in
set_option maxHeartbeats 4000000 in
theorem ok_Model_write1 {G : aG} (hG : am_ok G) : am_Sp G Y_Model_write 6 sp_Model_write1 := by
  intro as M K h
  unfold sp_Model_write1 at h
  split at h
  · next a x =>
    obtain ⟨rfl, ⟨ht, hc, hw⟩, h⟩ := h
    cases c : m_has M x
    · rw [c, if_neg (by decide)] at h
      refine am_entry hG (by decide +kernel) (Nat.le_of_ble_eq_true rfl) ?_
      refine am_go (cuts := k_Model_write) (tb_Model_write (ok_Model_isNode hG) (by decide) (ok_Model_step1 hG) (by decide)) 400 _ _ _ _ ?_
      change am_run _ _ _ _ _ _ [some (.ref 19), some (.int x), none] [] _
      simp only [q_Model_write_19, r_Model_write_0, r_Model_write_1, r_Model_write_2, r_Model_write_5, r_Model_write_8, r_Model_write_9, r_Model_write_10, r_Model_write_11, r_Model_write_14, r_Model_write_15, r_Model_write_16, r_Model_write_17, r_Model_write_18, r_Model_write_19, r_Model_write_20, r_Model_write_23, r_Model_write_24, r_Model_write_25, r_Model_write_28, r_Model_write_29, r_Model_write_30, r_Model_write_31, r_Model_write_32, r_Model_write_33, r_Model_write_34, r_Model_write_35, r_Model_write_38, r_Model_write_39, r_Model_write_42, r_Model_write_43, ai_aload, ai_iload, ai_callv2, am_push, am_few, ai_ifne, ai_const, ai_zret, ai_getf, ai_iast, ai_istore, am_cut_0, am_cut_s, am_c1, ai_ifle, ai_isub, ai_bin, ai_iald, ai_callv3, ai_goto, kd_0, fd_0_0, fd_0_1, fd_0_2, fd_0_3, fd_0_4, kd_1, fd_1_0, fd_1_1, ln_2, kd_3, fd_3_0, fd_3_1, fd_3_2, fd_3_3, fd_3_4, fd_3_5, fd_3_6, fd_3_7, fd_3_8, fd_3_9, ln_4, ln_5, ln_6, ln_7, ln_8, ln_9, ln_10, kd_11, fd_11_0, fd_11_1, fd_11_2, fd_11_3, fd_11_4, kd_12, fd_12_0, fd_12_1, fd_12_2, fd_12_3, ln_13, ln_14, ln_15, kd_16, fd_16_0, fd_16_1, fd_16_2, ln_17, kd_18, fd_18_0, fd_18_1, kd_19, fd_19_0, fd_19_1, fd_19_2, fd_19_3, fd_19_4, fd_19_5, fd_19_6, fd_19_7, fd_19_8, fd_19_9, fd_19_10, fd_19_11, fd_19_12, fd_19_13, fd_19_14, fd_19_15, fd_19_16, fd_19_17, fd_19_18, fd_19_19, fd_19_20, ln_20, ln_21, ln_22, ln_23, ln_24, ln_25, ln_26, ln_27, ln_28, ln_29, ln_30, ln_31, ln_32, List.getElem?_cons_zero, List.getElem?_cons_succ, List.set_cons_zero, List.set_cons_succ, true_and, and_true, ↓reduceIte, Int32.reduceLT, Int32.reduceLE, li_10, or_true, true_or, ↓sp_Model_isNode, b2_eq0, c]
      exact h M ((wr_rel.rf hw).wq) rfl rfl
    · rw [c, if_pos rfl] at h
      have hx := m_hasD hc c
      have h200 := hc.2
      have v0 : vp_in 0 420 := vp_in_nI (n := 0) (by decide) (by decide)
      have c0 : (0 : Int32).toNatClampNeg = 0 := rfl
      have hL : am_X G Y_Model_write 6 K 19 [some (.ref 19), some (.int x), some (.int 1)] [] (am_up M 31 0 x) := by
        have y0 : am_up M 31 0 x 31 0 = x := by simp only [am_up_ap, ↓reduceIte]
        refine lp_Model_write1 hG ht hc h _ 1 _ [] (Nat.lt_succ_self _) (wq_31 (wr_rel.rf hw).wq) ?_ (by rw [am_up_ne (by decide), m_says_nil]) (by rw [am_up_ne (by decide), m_says_nil]) ?_
        · intro j hj
          have : j = 0 := by omega
          subst this
          exact Or.inl ⟨cl x, by rw [y0]; exact hx.1, hx.2.1, by omega⟩
        · rw [stT, stT, y0, List.append_nil, List.nil_append]
          have e := ent_p (M := M) (x := cl x) (by omega)
          rw [← hx.1] at e
          exact e
      refine am_entry hG (by decide +kernel) (Nat.le_of_ble_eq_true rfl) ?_
      refine am_go (cuts := k_Model_write) (tb_Model_write (ok_Model_isNode hG) (by decide) (ok_Model_step1 hG) (by decide)) 400 _ _ _ _ ?_
      change am_run _ _ _ _ _ _ [some (.ref 19), some (.int x), none] [] _
      simp only [q_Model_write_19, r_Model_write_0, r_Model_write_1, r_Model_write_2, r_Model_write_5, r_Model_write_8, r_Model_write_9, r_Model_write_10, r_Model_write_11, r_Model_write_14, r_Model_write_15, r_Model_write_16, r_Model_write_17, r_Model_write_18, r_Model_write_19, r_Model_write_20, r_Model_write_23, r_Model_write_24, r_Model_write_25, r_Model_write_28, r_Model_write_29, r_Model_write_30, r_Model_write_31, r_Model_write_32, r_Model_write_33, r_Model_write_34, r_Model_write_35, r_Model_write_38, r_Model_write_39, r_Model_write_42, r_Model_write_43, ai_aload, ai_iload, ai_callv2, am_push, am_few, ai_ifne, ai_const, ai_zret, ai_getf, ai_iast, ai_istore, am_cut_0, am_cut_s, am_c1, ai_ifle, ai_isub, ai_bin, ai_iald, ai_callv3, ai_goto, kd_0, fd_0_0, fd_0_1, fd_0_2, fd_0_3, fd_0_4, kd_1, fd_1_0, fd_1_1, ln_2, kd_3, fd_3_0, fd_3_1, fd_3_2, fd_3_3, fd_3_4, fd_3_5, fd_3_6, fd_3_7, fd_3_8, fd_3_9, ln_4, ln_5, ln_6, ln_7, ln_8, ln_9, ln_10, kd_11, fd_11_0, fd_11_1, fd_11_2, fd_11_3, fd_11_4, kd_12, fd_12_0, fd_12_1, fd_12_2, fd_12_3, ln_13, ln_14, ln_15, kd_16, fd_16_0, fd_16_1, fd_16_2, ln_17, kd_18, fd_18_0, fd_18_1, kd_19, fd_19_0, fd_19_1, fd_19_2, fd_19_3, fd_19_4, fd_19_5, fd_19_6, fd_19_7, fd_19_8, fd_19_9, fd_19_10, fd_19_11, fd_19_12, fd_19_13, fd_19_14, fd_19_15, fd_19_16, fd_19_17, fd_19_18, fd_19_19, fd_19_20, ln_20, ln_21, ln_22, ln_23, ln_24, ln_25, ln_26, ln_27, ln_28, ln_29, ln_30, ln_31, ln_32, List.getElem?_cons_zero, List.getElem?_cons_succ, List.set_cons_zero, List.set_cons_succ, true_and, and_true, ↓reduceIte, Int32.reduceLT, Int32.reduceLE, li_10, or_true, true_or, ↓sp_Model_isNode, b2_eq0, c, v0, c0, Bool.true_eq_false]
      exact hL
  · cases h
end
section
/-! THE REFERENCE'S FETCH, with its value -/
def m_fl (t : Nat → Int32) : Nat → Nat → Int64 → Int64
  | 0, _, v => v
  | r + 1, k, v => m_fl t r (k + 1) (v ||| (t k).toInt64 <<< ((48 - 8 * nI k).toInt64 &&& 63))
def mfn (M : aM) : Nat := if mW M < 7 then mW M else 7
def m_fv (M : aM) : Int64 := if mW M = 0 then 0 else m_fl (M 30) (mfn M) 0 ((nI (mfn M)).toInt64 <<< ((56 : Int32).toInt64 &&& 63))
def sp_Model_fetch1 : aS := fun as M K => match as with
  | [.ref a] => a = 19 ∧ mw_ok M ∧ ∀ N, wr_rel M N → N 19 18 = nI (mW M - mfn M) → (∀ k, k < mW M - mfn M → N 30 k = M 30 (k + mfn M)) → K (some (.long (m_fv M))) N
  | _ => False
set_option maxRecDepth 100000 in
set_option maxHeartbeats 4000000 in
theorem lp_Model_fetch2' {G : aG} (hG : am_ok G) {K : aR} {M0 : aM} {n w : Nat} {v : Int64} (hn : 0 < n) (hnw : w + n ≤ 500) (hK : ∀ N, wr_rel M0 N → N 19 18 = nI w → (∀ k, k < w → N 30 k = M0 30 (k + n)) → K (some (.long v)) N) : ∀ (r k : Nat) (M : aM), k + r = w → wr_rel M0 M → M 19 18 = nI w → (∀ j, j < k → M 30 j = M0 30 (j + n)) → (∀ j, k ≤ j → M 30 j = M0 30 j) → am_X G Y_Model_fetch 0 K 79 [some (.ref 19), some (.int (nI n)), some (.long v), none, some (.int (nI k))] [] M := by
  intro r
  induction r with
  | zero =>
    intro k M hk hM hw h1 h2
    have e1 : ¬ nI k < nI w := nI_nlt (by omega) (by omega)
    refine am_from tb_Model_fetch k_Model_fetch 400 ?_
    simp only [q_Model_fetch_34, q_Model_fetch_79, r_Model_fetch_0, r_Model_fetch_1, r_Model_fetch_4, r_Model_fetch_6, r_Model_fetch_9, r_Model_fetch_10, r_Model_fetch_13, r_Model_fetch_16, r_Model_fetch_18, r_Model_fetch_19, r_Model_fetch_20, r_Model_fetch_23, r_Model_fetch_24, r_Model_fetch_25, r_Model_fetch_26, r_Model_fetch_27, r_Model_fetch_29, r_Model_fetch_30, r_Model_fetch_31, r_Model_fetch_32, r_Model_fetch_34, r_Model_fetch_36, r_Model_fetch_37, r_Model_fetch_40, r_Model_fetch_41, r_Model_fetch_42, r_Model_fetch_45, r_Model_fetch_47, r_Model_fetch_48, r_Model_fetch_49, r_Model_fetch_51, r_Model_fetch_53, r_Model_fetch_55, r_Model_fetch_56, r_Model_fetch_57, r_Model_fetch_58, r_Model_fetch_59, r_Model_fetch_60, r_Model_fetch_63, r_Model_fetch_66, r_Model_fetch_67, r_Model_fetch_68, r_Model_fetch_71, r_Model_fetch_72, r_Model_fetch_73, r_Model_fetch_76, r_Model_fetch_77, r_Model_fetch_79, r_Model_fetch_81, r_Model_fetch_82, r_Model_fetch_85, r_Model_fetch_88, r_Model_fetch_89, r_Model_fetch_92, r_Model_fetch_94, r_Model_fetch_95, r_Model_fetch_98, r_Model_fetch_100, r_Model_fetch_101, r_Model_fetch_102, r_Model_fetch_103, r_Model_fetch_104, r_Model_fetch_107, r_Model_fetch_110, r_Model_fetch_111, ai_aload, ai_getf, ai_const, ai_cmpge, ai_goto, ai_istore, am_cut_0, am_cut_s, am_c1, ai_iload, ai_ifne, ai_lconst, ai_lret, ai_i2l, ai_lshl, ai_lstore, ai_lload, ai_iald, ai_imul, ai_bin, ai_isub, ai_lor, ai_lbin, ai_iinc, ai_putf, ai_iadd, ai_iast, kd_0, fd_0_0, fd_0_1, fd_0_2, fd_0_3, fd_0_4, kd_1, fd_1_0, fd_1_1, ln_2, kd_3, fd_3_0, fd_3_1, fd_3_2, fd_3_3, fd_3_4, fd_3_5, fd_3_6, fd_3_7, fd_3_8, fd_3_9, ln_4, ln_5, ln_6, ln_7, ln_8, ln_9, ln_10, kd_11, fd_11_0, fd_11_1, fd_11_2, fd_11_3, fd_11_4, kd_12, fd_12_0, fd_12_1, fd_12_2, fd_12_3, ln_13, ln_14, ln_15, kd_16, fd_16_0, fd_16_1, fd_16_2, ln_17, kd_18, fd_18_0, fd_18_1, kd_19, fd_19_0, fd_19_1, fd_19_2, fd_19_3, fd_19_4, fd_19_5, fd_19_6, fd_19_7, fd_19_8, fd_19_9, fd_19_10, fd_19_11, fd_19_12, fd_19_13, fd_19_14, fd_19_15, fd_19_16, fd_19_17, fd_19_18, fd_19_19, fd_19_20, ln_20, ln_21, ln_22, ln_23, ln_24, ln_25, ln_26, ln_27, ln_28, ln_29, ln_30, ln_31, ln_32, List.getElem?_cons_zero, List.getElem?_cons_succ, List.set_cons_zero, List.set_cons_succ, true_and, and_true, ↓reduceIte, Int32.reduceLT, Int32.reduceLE, li_10, or_true, true_or, hw, e1]
    exact hK M hM hw (fun j hj => h1 j (by omega))
  | succ r ih =>
    intro k M hk hM hw h1 h2
    have e1 : nI k < nI w := nI_lt (by omega) (by omega)
    have e2 : nI k + nI n = nI (k + n) := nI_add k n
    have v1 : vp_in (nI k) 500 := vp_in_nI (by omega) (by decide)
    have v2 : vp_in (nI (k + n)) 500 := vp_in_nI (by omega) (by decide)
    have c1 : (nI k).toNatClampNeg = k := nI_clamp (by omega)
    have c2 : (nI (k + n)).toNatClampNeg = k + n := nI_clamp (by omega)
    refine am_from tb_Model_fetch k_Model_fetch 400 ?_
    simp only [q_Model_fetch_34, q_Model_fetch_79, r_Model_fetch_0, r_Model_fetch_1, r_Model_fetch_4, r_Model_fetch_6, r_Model_fetch_9, r_Model_fetch_10, r_Model_fetch_13, r_Model_fetch_16, r_Model_fetch_18, r_Model_fetch_19, r_Model_fetch_20, r_Model_fetch_23, r_Model_fetch_24, r_Model_fetch_25, r_Model_fetch_26, r_Model_fetch_27, r_Model_fetch_29, r_Model_fetch_30, r_Model_fetch_31, r_Model_fetch_32, r_Model_fetch_34, r_Model_fetch_36, r_Model_fetch_37, r_Model_fetch_40, r_Model_fetch_41, r_Model_fetch_42, r_Model_fetch_45, r_Model_fetch_47, r_Model_fetch_48, r_Model_fetch_49, r_Model_fetch_51, r_Model_fetch_53, r_Model_fetch_55, r_Model_fetch_56, r_Model_fetch_57, r_Model_fetch_58, r_Model_fetch_59, r_Model_fetch_60, r_Model_fetch_63, r_Model_fetch_66, r_Model_fetch_67, r_Model_fetch_68, r_Model_fetch_71, r_Model_fetch_72, r_Model_fetch_73, r_Model_fetch_76, r_Model_fetch_77, r_Model_fetch_79, r_Model_fetch_81, r_Model_fetch_82, r_Model_fetch_85, r_Model_fetch_88, r_Model_fetch_89, r_Model_fetch_92, r_Model_fetch_94, r_Model_fetch_95, r_Model_fetch_98, r_Model_fetch_100, r_Model_fetch_101, r_Model_fetch_102, r_Model_fetch_103, r_Model_fetch_104, r_Model_fetch_107, r_Model_fetch_110, r_Model_fetch_111, ai_aload, ai_getf, ai_const, ai_cmpge, ai_goto, ai_istore, am_cut_0, am_cut_s, am_c1, ai_iload, ai_ifne, ai_lconst, ai_lret, ai_i2l, ai_lshl, ai_lstore, ai_lload, ai_iald, ai_imul, ai_bin, ai_isub, ai_lor, ai_lbin, ai_iinc, ai_putf, ai_iadd, ai_iast, kd_0, fd_0_0, fd_0_1, fd_0_2, fd_0_3, fd_0_4, kd_1, fd_1_0, fd_1_1, ln_2, kd_3, fd_3_0, fd_3_1, fd_3_2, fd_3_3, fd_3_4, fd_3_5, fd_3_6, fd_3_7, fd_3_8, fd_3_9, ln_4, ln_5, ln_6, ln_7, ln_8, ln_9, ln_10, kd_11, fd_11_0, fd_11_1, fd_11_2, fd_11_3, fd_11_4, kd_12, fd_12_0, fd_12_1, fd_12_2, fd_12_3, ln_13, ln_14, ln_15, kd_16, fd_16_0, fd_16_1, fd_16_2, ln_17, kd_18, fd_18_0, fd_18_1, kd_19, fd_19_0, fd_19_1, fd_19_2, fd_19_3, fd_19_4, fd_19_5, fd_19_6, fd_19_7, fd_19_8, fd_19_9, fd_19_10, fd_19_11, fd_19_12, fd_19_13, fd_19_14, fd_19_15, fd_19_16, fd_19_17, fd_19_18, fd_19_19, fd_19_20, ln_20, ln_21, ln_22, ln_23, ln_24, ln_25, ln_26, ln_27, ln_28, ln_29, ln_30, ln_31, ln_32, List.getElem?_cons_zero, List.getElem?_cons_succ, List.set_cons_zero, List.set_cons_succ, true_and, and_true, ↓reduceIte, Int32.reduceLT, Int32.reduceLE, li_10, or_true, true_or, hw, e1, e2, v1, v2, c1, c2, nI_1]
    refine ih (k + 1) _ (by omega) (wr_30 hM) hw (fun j hj => ?_) (fun j hj => ?_)
    · rw [am_up_ap, if_pos rfl]
      by_cases c : j = k
      · rw [if_pos c, c]; exact h2 (k + n) (by omega)
      · rw [if_neg c]; exact h1 j (by omega)
    · rw [am_up_ap, if_pos rfl, if_neg (by omega)]
      exact h2 j (by omega)
set_option maxRecDepth 100000 in
set_option maxHeartbeats 4000000 in
theorem lp_Model_fetch1' {G : aG} (hG : am_ok G) {K : aR} {M : aM} {n : Nat} (hw : mw_ok M) (hn0 : 0 < n) (hn : n ≤ mW M) (h7 : n ≤ 7) : ∀ (r k : Nat) (v : Int64), k + r = n → (∀ N, wr_rel M N → N 19 18 = nI (mW M - n) → (∀ k, k < mW M - n → N 30 k = M 30 (k + n)) → K (some (.long (m_fl (M 30) r k v))) N) → am_X G Y_Model_fetch 0 K 34 [some (.ref 19), some (.int (nI n)), some (.long v), none, some (.int (nI k))] [] M := by
  intro r
  have h500 := hw.2
  induction r with
  | zero =>
    intro k v hk hK
    have e1 : ¬ nI k < nI n := nI_nlt (by omega) (by omega)
    have e2 : M 19 18 - nI n = nI (mW M - n) := by rw [hw.1]; exact pk_sub hn
    have eW : mW (am_up M 19 18 (nI (mW M - n))) = mW M - n := nI_clamp (by omega)
    have hr : wr_rel M (am_up M 19 18 (nI (mW M - n))) := by
      refine ⟨fun i a b => ?_, fun j a => ?_, ⟨by rw [eW]; rfl, by rw [eW]; omega⟩⟩
      · rw [am_up_ne a]
      · simp only [am_up_ap, a, ↓reduceIte]
    have L : am_X G Y_Model_fetch 0 K 79 [some (.ref 19), some (.int (nI n)), some (.long v), none, some (.int 0)] [] (am_up M 19 18 (nI (mW M - n))) :=
      lp_Model_fetch2' hG (M0 := M) (n := n) (w := mW M - n) hn0 (by omega) hK (mW M - n) 0 _ (by omega) hr rfl (fun j hj => absurd hj (by omega)) (fun j _ => by rw [am_up_ne (by decide)])
    refine am_from tb_Model_fetch k_Model_fetch 400 ?_
    simp only [q_Model_fetch_34, q_Model_fetch_79, r_Model_fetch_0, r_Model_fetch_1, r_Model_fetch_4, r_Model_fetch_6, r_Model_fetch_9, r_Model_fetch_10, r_Model_fetch_13, r_Model_fetch_16, r_Model_fetch_18, r_Model_fetch_19, r_Model_fetch_20, r_Model_fetch_23, r_Model_fetch_24, r_Model_fetch_25, r_Model_fetch_26, r_Model_fetch_27, r_Model_fetch_29, r_Model_fetch_30, r_Model_fetch_31, r_Model_fetch_32, r_Model_fetch_34, r_Model_fetch_36, r_Model_fetch_37, r_Model_fetch_40, r_Model_fetch_41, r_Model_fetch_42, r_Model_fetch_45, r_Model_fetch_47, r_Model_fetch_48, r_Model_fetch_49, r_Model_fetch_51, r_Model_fetch_53, r_Model_fetch_55, r_Model_fetch_56, r_Model_fetch_57, r_Model_fetch_58, r_Model_fetch_59, r_Model_fetch_60, r_Model_fetch_63, r_Model_fetch_66, r_Model_fetch_67, r_Model_fetch_68, r_Model_fetch_71, r_Model_fetch_72, r_Model_fetch_73, r_Model_fetch_76, r_Model_fetch_77, r_Model_fetch_79, r_Model_fetch_81, r_Model_fetch_82, r_Model_fetch_85, r_Model_fetch_88, r_Model_fetch_89, r_Model_fetch_92, r_Model_fetch_94, r_Model_fetch_95, r_Model_fetch_98, r_Model_fetch_100, r_Model_fetch_101, r_Model_fetch_102, r_Model_fetch_103, r_Model_fetch_104, r_Model_fetch_107, r_Model_fetch_110, r_Model_fetch_111, ai_aload, ai_getf, ai_const, ai_cmpge, ai_goto, ai_istore, am_cut_0, am_cut_s, am_c1, ai_iload, ai_ifne, ai_lconst, ai_lret, ai_i2l, ai_lshl, ai_lstore, ai_lload, ai_iald, ai_imul, ai_bin, ai_isub, ai_lor, ai_lbin, ai_iinc, ai_putf, ai_iadd, ai_iast, kd_0, fd_0_0, fd_0_1, fd_0_2, fd_0_3, fd_0_4, kd_1, fd_1_0, fd_1_1, ln_2, kd_3, fd_3_0, fd_3_1, fd_3_2, fd_3_3, fd_3_4, fd_3_5, fd_3_6, fd_3_7, fd_3_8, fd_3_9, ln_4, ln_5, ln_6, ln_7, ln_8, ln_9, ln_10, kd_11, fd_11_0, fd_11_1, fd_11_2, fd_11_3, fd_11_4, kd_12, fd_12_0, fd_12_1, fd_12_2, fd_12_3, ln_13, ln_14, ln_15, kd_16, fd_16_0, fd_16_1, fd_16_2, ln_17, kd_18, fd_18_0, fd_18_1, kd_19, fd_19_0, fd_19_1, fd_19_2, fd_19_3, fd_19_4, fd_19_5, fd_19_6, fd_19_7, fd_19_8, fd_19_9, fd_19_10, fd_19_11, fd_19_12, fd_19_13, fd_19_14, fd_19_15, fd_19_16, fd_19_17, fd_19_18, fd_19_19, fd_19_20, ln_20, ln_21, ln_22, ln_23, ln_24, ln_25, ln_26, ln_27, ln_28, ln_29, ln_30, ln_31, ln_32, List.getElem?_cons_zero, List.getElem?_cons_succ, List.set_cons_zero, List.set_cons_succ, true_and, and_true, ↓reduceIte, Int32.reduceLT, Int32.reduceLE, li_10, or_true, true_or, e1, e2]
    exact L
  | succ r ih =>
    intro k v hk hK
    have e1 : nI k < nI n := nI_lt (by omega) (by omega)
    have v1 : vp_in (nI k) 500 := vp_in_nI (by omega) (by decide)
    have c1 : (nI k).toNatClampNeg = k := nI_clamp (by omega)
    refine am_from tb_Model_fetch k_Model_fetch 400 ?_
    simp only [q_Model_fetch_34, q_Model_fetch_79, r_Model_fetch_0, r_Model_fetch_1, r_Model_fetch_4, r_Model_fetch_6, r_Model_fetch_9, r_Model_fetch_10, r_Model_fetch_13, r_Model_fetch_16, r_Model_fetch_18, r_Model_fetch_19, r_Model_fetch_20, r_Model_fetch_23, r_Model_fetch_24, r_Model_fetch_25, r_Model_fetch_26, r_Model_fetch_27, r_Model_fetch_29, r_Model_fetch_30, r_Model_fetch_31, r_Model_fetch_32, r_Model_fetch_34, r_Model_fetch_36, r_Model_fetch_37, r_Model_fetch_40, r_Model_fetch_41, r_Model_fetch_42, r_Model_fetch_45, r_Model_fetch_47, r_Model_fetch_48, r_Model_fetch_49, r_Model_fetch_51, r_Model_fetch_53, r_Model_fetch_55, r_Model_fetch_56, r_Model_fetch_57, r_Model_fetch_58, r_Model_fetch_59, r_Model_fetch_60, r_Model_fetch_63, r_Model_fetch_66, r_Model_fetch_67, r_Model_fetch_68, r_Model_fetch_71, r_Model_fetch_72, r_Model_fetch_73, r_Model_fetch_76, r_Model_fetch_77, r_Model_fetch_79, r_Model_fetch_81, r_Model_fetch_82, r_Model_fetch_85, r_Model_fetch_88, r_Model_fetch_89, r_Model_fetch_92, r_Model_fetch_94, r_Model_fetch_95, r_Model_fetch_98, r_Model_fetch_100, r_Model_fetch_101, r_Model_fetch_102, r_Model_fetch_103, r_Model_fetch_104, r_Model_fetch_107, r_Model_fetch_110, r_Model_fetch_111, ai_aload, ai_getf, ai_const, ai_cmpge, ai_goto, ai_istore, am_cut_0, am_cut_s, am_c1, ai_iload, ai_ifne, ai_lconst, ai_lret, ai_i2l, ai_lshl, ai_lstore, ai_lload, ai_iald, ai_imul, ai_bin, ai_isub, ai_lor, ai_lbin, ai_iinc, ai_putf, ai_iadd, ai_iast, kd_0, fd_0_0, fd_0_1, fd_0_2, fd_0_3, fd_0_4, kd_1, fd_1_0, fd_1_1, ln_2, kd_3, fd_3_0, fd_3_1, fd_3_2, fd_3_3, fd_3_4, fd_3_5, fd_3_6, fd_3_7, fd_3_8, fd_3_9, ln_4, ln_5, ln_6, ln_7, ln_8, ln_9, ln_10, kd_11, fd_11_0, fd_11_1, fd_11_2, fd_11_3, fd_11_4, kd_12, fd_12_0, fd_12_1, fd_12_2, fd_12_3, ln_13, ln_14, ln_15, kd_16, fd_16_0, fd_16_1, fd_16_2, ln_17, kd_18, fd_18_0, fd_18_1, kd_19, fd_19_0, fd_19_1, fd_19_2, fd_19_3, fd_19_4, fd_19_5, fd_19_6, fd_19_7, fd_19_8, fd_19_9, fd_19_10, fd_19_11, fd_19_12, fd_19_13, fd_19_14, fd_19_15, fd_19_16, fd_19_17, fd_19_18, fd_19_19, fd_19_20, ln_20, ln_21, ln_22, ln_23, ln_24, ln_25, ln_26, ln_27, ln_28, ln_29, ln_30, ln_31, ln_32, List.getElem?_cons_zero, List.getElem?_cons_succ, List.set_cons_zero, List.set_cons_succ, true_and, and_true, ↓reduceIte, Int32.reduceLT, Int32.reduceLE, li_10, or_true, true_or, e1, v1, c1, nI_1]
    exact ih (k + 1) _ (by omega) hK
set_option maxRecDepth 100000 in
set_option maxHeartbeats 4000000 in
theorem ok_Model_fetch1 {G : aG} (hG : am_ok G) : am_Sp G Y_Model_fetch 0 sp_Model_fetch1 := by
  intro as M K h
  unfold sp_Model_fetch1 at h
  split at h
  · next a =>
    obtain ⟨rfl, hw, h⟩ := h
    have h500 := hw.2
    by_cases c7 : M 19 18 < 7
    · have hlt : mW M < 7 := by
        rw [hw.1] at c7
        exact (nI_ltI (a := mW M) (b := 7) (by omega) (by decide)).mp c7
      have em : mfn M = mW M := by unfold mfn; rw [if_pos hlt]
      rw [em] at h
      by_cases c0 : M 19 18 = 0
      · have c0' : (M 19 18 = 0) = True := eq_true c0
        have z : mW M = 0 := by unfold mW; rw [c0]; rfl
        unfold m_fv at h
        rw [if_pos z] at h
        refine am_entry hG (by decide +kernel) (Nat.le_of_ble_eq_true rfl) ?_
        refine am_go (cuts := k_Model_fetch) tb_Model_fetch 400 _ _ _ _ ?_
        change am_run _ _ _ _ _ _ [some (.ref 19), none, none, none, none] [] _
        simp only [q_Model_fetch_34, q_Model_fetch_79, r_Model_fetch_0, r_Model_fetch_1, r_Model_fetch_4, r_Model_fetch_6, r_Model_fetch_9, r_Model_fetch_10, r_Model_fetch_13, r_Model_fetch_16, r_Model_fetch_18, r_Model_fetch_19, r_Model_fetch_20, r_Model_fetch_23, r_Model_fetch_24, r_Model_fetch_25, r_Model_fetch_26, r_Model_fetch_27, r_Model_fetch_29, r_Model_fetch_30, r_Model_fetch_31, r_Model_fetch_32, r_Model_fetch_34, r_Model_fetch_36, r_Model_fetch_37, r_Model_fetch_40, r_Model_fetch_41, r_Model_fetch_42, r_Model_fetch_45, r_Model_fetch_47, r_Model_fetch_48, r_Model_fetch_49, r_Model_fetch_51, r_Model_fetch_53, r_Model_fetch_55, r_Model_fetch_56, r_Model_fetch_57, r_Model_fetch_58, r_Model_fetch_59, r_Model_fetch_60, r_Model_fetch_63, r_Model_fetch_66, r_Model_fetch_67, r_Model_fetch_68, r_Model_fetch_71, r_Model_fetch_72, r_Model_fetch_73, r_Model_fetch_76, r_Model_fetch_77, r_Model_fetch_79, r_Model_fetch_81, r_Model_fetch_82, r_Model_fetch_85, r_Model_fetch_88, r_Model_fetch_89, r_Model_fetch_92, r_Model_fetch_94, r_Model_fetch_95, r_Model_fetch_98, r_Model_fetch_100, r_Model_fetch_101, r_Model_fetch_102, r_Model_fetch_103, r_Model_fetch_104, r_Model_fetch_107, r_Model_fetch_110, r_Model_fetch_111, ai_aload, ai_getf, ai_const, ai_cmpge, ai_goto, ai_istore, am_cut_0, am_cut_s, am_c1, ai_iload, ai_ifne, ai_lconst, ai_lret, ai_i2l, ai_lshl, ai_lstore, ai_lload, ai_iald, ai_imul, ai_bin, ai_isub, ai_lor, ai_lbin, ai_iinc, ai_putf, ai_iadd, ai_iast, kd_0, fd_0_0, fd_0_1, fd_0_2, fd_0_3, fd_0_4, kd_1, fd_1_0, fd_1_1, ln_2, kd_3, fd_3_0, fd_3_1, fd_3_2, fd_3_3, fd_3_4, fd_3_5, fd_3_6, fd_3_7, fd_3_8, fd_3_9, ln_4, ln_5, ln_6, ln_7, ln_8, ln_9, ln_10, kd_11, fd_11_0, fd_11_1, fd_11_2, fd_11_3, fd_11_4, kd_12, fd_12_0, fd_12_1, fd_12_2, fd_12_3, ln_13, ln_14, ln_15, kd_16, fd_16_0, fd_16_1, fd_16_2, ln_17, kd_18, fd_18_0, fd_18_1, kd_19, fd_19_0, fd_19_1, fd_19_2, fd_19_3, fd_19_4, fd_19_5, fd_19_6, fd_19_7, fd_19_8, fd_19_9, fd_19_10, fd_19_11, fd_19_12, fd_19_13, fd_19_14, fd_19_15, fd_19_16, fd_19_17, fd_19_18, fd_19_19, fd_19_20, ln_20, ln_21, ln_22, ln_23, ln_24, ln_25, ln_26, ln_27, ln_28, ln_29, ln_30, ln_31, ln_32, List.getElem?_cons_zero, List.getElem?_cons_succ, List.set_cons_zero, List.set_cons_succ, true_and, and_true, ↓reduceIte, Int32.reduceLT, Int32.reduceLE, li_10, or_true, true_or, c7, c0']
        exact h M (wr_rel.rf hw) (by rw [z, c0]; rfl) (fun k hk => absurd hk (by omega))
      · have nz : ¬ mW M = 0 := fun q => c0 (by rw [hw.1, q]; rfl)
        unfold m_fv at h
        rw [if_neg nz, em] at h
        have L : am_X G Y_Model_fetch 0 K 34 [some (.ref 19), some (.int (nI (mW M))), some (.long ((nI (mW M)).toInt64 <<< ((56 : Int32).toInt64 &&& 63))), none, some (.int 0)] [] M := lp_Model_fetch1' hG hw (by omega) (Nat.le_refl _) (by omega) (mW M) 0 _ (by omega) h
        rw [← hw.1] at L
        refine am_entry hG (by decide +kernel) (Nat.le_of_ble_eq_true rfl) ?_
        refine am_go (cuts := k_Model_fetch) tb_Model_fetch 400 _ _ _ _ ?_
        change am_run _ _ _ _ _ _ [some (.ref 19), none, none, none, none] [] _
        simp only [q_Model_fetch_34, q_Model_fetch_79, r_Model_fetch_0, r_Model_fetch_1, r_Model_fetch_4, r_Model_fetch_6, r_Model_fetch_9, r_Model_fetch_10, r_Model_fetch_13, r_Model_fetch_16, r_Model_fetch_18, r_Model_fetch_19, r_Model_fetch_20, r_Model_fetch_23, r_Model_fetch_24, r_Model_fetch_25, r_Model_fetch_26, r_Model_fetch_27, r_Model_fetch_29, r_Model_fetch_30, r_Model_fetch_31, r_Model_fetch_32, r_Model_fetch_34, r_Model_fetch_36, r_Model_fetch_37, r_Model_fetch_40, r_Model_fetch_41, r_Model_fetch_42, r_Model_fetch_45, r_Model_fetch_47, r_Model_fetch_48, r_Model_fetch_49, r_Model_fetch_51, r_Model_fetch_53, r_Model_fetch_55, r_Model_fetch_56, r_Model_fetch_57, r_Model_fetch_58, r_Model_fetch_59, r_Model_fetch_60, r_Model_fetch_63, r_Model_fetch_66, r_Model_fetch_67, r_Model_fetch_68, r_Model_fetch_71, r_Model_fetch_72, r_Model_fetch_73, r_Model_fetch_76, r_Model_fetch_77, r_Model_fetch_79, r_Model_fetch_81, r_Model_fetch_82, r_Model_fetch_85, r_Model_fetch_88, r_Model_fetch_89, r_Model_fetch_92, r_Model_fetch_94, r_Model_fetch_95, r_Model_fetch_98, r_Model_fetch_100, r_Model_fetch_101, r_Model_fetch_102, r_Model_fetch_103, r_Model_fetch_104, r_Model_fetch_107, r_Model_fetch_110, r_Model_fetch_111, ai_aload, ai_getf, ai_const, ai_cmpge, ai_goto, ai_istore, am_cut_0, am_cut_s, am_c1, ai_iload, ai_ifne, ai_lconst, ai_lret, ai_i2l, ai_lshl, ai_lstore, ai_lload, ai_iald, ai_imul, ai_bin, ai_isub, ai_lor, ai_lbin, ai_iinc, ai_putf, ai_iadd, ai_iast, kd_0, fd_0_0, fd_0_1, fd_0_2, fd_0_3, fd_0_4, kd_1, fd_1_0, fd_1_1, ln_2, kd_3, fd_3_0, fd_3_1, fd_3_2, fd_3_3, fd_3_4, fd_3_5, fd_3_6, fd_3_7, fd_3_8, fd_3_9, ln_4, ln_5, ln_6, ln_7, ln_8, ln_9, ln_10, kd_11, fd_11_0, fd_11_1, fd_11_2, fd_11_3, fd_11_4, kd_12, fd_12_0, fd_12_1, fd_12_2, fd_12_3, ln_13, ln_14, ln_15, kd_16, fd_16_0, fd_16_1, fd_16_2, ln_17, kd_18, fd_18_0, fd_18_1, kd_19, fd_19_0, fd_19_1, fd_19_2, fd_19_3, fd_19_4, fd_19_5, fd_19_6, fd_19_7, fd_19_8, fd_19_9, fd_19_10, fd_19_11, fd_19_12, fd_19_13, fd_19_14, fd_19_15, fd_19_16, fd_19_17, fd_19_18, fd_19_19, fd_19_20, ln_20, ln_21, ln_22, ln_23, ln_24, ln_25, ln_26, ln_27, ln_28, ln_29, ln_30, ln_31, ln_32, List.getElem?_cons_zero, List.getElem?_cons_succ, List.set_cons_zero, List.set_cons_succ, true_and, and_true, ↓reduceIte, Int32.reduceLT, Int32.reduceLE, li_10, or_true, true_or, c7, c0]
        exact L
    · have hge : 7 ≤ mW M := by
        apply Nat.le_of_not_lt
        intro q
        apply c7
        rw [hw.1]
        exact nI_lt (b := 7) q (by decide)
      have em : mfn M = 7 := by unfold mfn; rw [if_neg (by omega)]
      unfold m_fv at h
      rw [em, if_neg (by omega)] at h
      have l7 : ((7 : Int32) = 0) = False := eq_false (by decide)
      refine am_entry hG (by decide +kernel) (Nat.le_of_ble_eq_true rfl) ?_
      refine am_go (cuts := k_Model_fetch) tb_Model_fetch 400 _ _ _ _ ?_
      change am_run _ _ _ _ _ _ [some (.ref 19), none, none, none, none] [] _
      simp only [q_Model_fetch_34, q_Model_fetch_79, r_Model_fetch_0, r_Model_fetch_1, r_Model_fetch_4, r_Model_fetch_6, r_Model_fetch_9, r_Model_fetch_10, r_Model_fetch_13, r_Model_fetch_16, r_Model_fetch_18, r_Model_fetch_19, r_Model_fetch_20, r_Model_fetch_23, r_Model_fetch_24, r_Model_fetch_25, r_Model_fetch_26, r_Model_fetch_27, r_Model_fetch_29, r_Model_fetch_30, r_Model_fetch_31, r_Model_fetch_32, r_Model_fetch_34, r_Model_fetch_36, r_Model_fetch_37, r_Model_fetch_40, r_Model_fetch_41, r_Model_fetch_42, r_Model_fetch_45, r_Model_fetch_47, r_Model_fetch_48, r_Model_fetch_49, r_Model_fetch_51, r_Model_fetch_53, r_Model_fetch_55, r_Model_fetch_56, r_Model_fetch_57, r_Model_fetch_58, r_Model_fetch_59, r_Model_fetch_60, r_Model_fetch_63, r_Model_fetch_66, r_Model_fetch_67, r_Model_fetch_68, r_Model_fetch_71, r_Model_fetch_72, r_Model_fetch_73, r_Model_fetch_76, r_Model_fetch_77, r_Model_fetch_79, r_Model_fetch_81, r_Model_fetch_82, r_Model_fetch_85, r_Model_fetch_88, r_Model_fetch_89, r_Model_fetch_92, r_Model_fetch_94, r_Model_fetch_95, r_Model_fetch_98, r_Model_fetch_100, r_Model_fetch_101, r_Model_fetch_102, r_Model_fetch_103, r_Model_fetch_104, r_Model_fetch_107, r_Model_fetch_110, r_Model_fetch_111, ai_aload, ai_getf, ai_const, ai_cmpge, ai_goto, ai_istore, am_cut_0, am_cut_s, am_c1, ai_iload, ai_ifne, ai_lconst, ai_lret, ai_i2l, ai_lshl, ai_lstore, ai_lload, ai_iald, ai_imul, ai_bin, ai_isub, ai_lor, ai_lbin, ai_iinc, ai_putf, ai_iadd, ai_iast, kd_0, fd_0_0, fd_0_1, fd_0_2, fd_0_3, fd_0_4, kd_1, fd_1_0, fd_1_1, ln_2, kd_3, fd_3_0, fd_3_1, fd_3_2, fd_3_3, fd_3_4, fd_3_5, fd_3_6, fd_3_7, fd_3_8, fd_3_9, ln_4, ln_5, ln_6, ln_7, ln_8, ln_9, ln_10, kd_11, fd_11_0, fd_11_1, fd_11_2, fd_11_3, fd_11_4, kd_12, fd_12_0, fd_12_1, fd_12_2, fd_12_3, ln_13, ln_14, ln_15, kd_16, fd_16_0, fd_16_1, fd_16_2, ln_17, kd_18, fd_18_0, fd_18_1, kd_19, fd_19_0, fd_19_1, fd_19_2, fd_19_3, fd_19_4, fd_19_5, fd_19_6, fd_19_7, fd_19_8, fd_19_9, fd_19_10, fd_19_11, fd_19_12, fd_19_13, fd_19_14, fd_19_15, fd_19_16, fd_19_17, fd_19_18, fd_19_19, fd_19_20, ln_20, ln_21, ln_22, ln_23, ln_24, ln_25, ln_26, ln_27, ln_28, ln_29, ln_30, ln_31, ln_32, List.getElem?_cons_zero, List.getElem?_cons_succ, List.set_cons_zero, List.set_cons_succ, true_and, and_true, ↓reduceIte, Int32.reduceLT, Int32.reduceLE, li_10, or_true, true_or, c7, l7]
      exact lp_Model_fetch1' hG (n := 7) hw (by omega) hge (by omega) 7 0 _ (by omega) h
  · cases h
/-! THE DESK'S FETCH, and that its value is the reference's -/
def dfl (B : Nat → Int32) (n : Nat) : Nat → Nat → Int64 → Int64
  | 0, _, v => v
  | r + 1, k, v => dfl B n r (k + 1) (sh8 v ||| (if k < n then (B k).toInt64 else (0 : Int32).toInt64))
theorem sh8_bv (v : Int64) : (sh8 v).toBitVec = v.toBitVec <<< 8 := rfl
theorem shk_bv (x : Int64) : ∀ k, k < 7 → (x <<< ((48 - 8 * nI k).toInt64 &&& 63)).toBitVec = x.toBitVec <<< (48 - 8 * k) := by
  intro k hk
  rcases (show k = 0 ∨ k = 1 ∨ k = 2 ∨ k = 3 ∨ k = 4 ∨ k = 5 ∨ k = 6 by omega) with rfl | rfl | rfl | rfl | rfl | rfl | rfl <;> rfl
theorem dfl_bv {B : Nat → Int32} {n : Nat} : ∀ (r k : Nat) (v : Int64), n ≤ k → (dfl B n r k v).toBitVec = v.toBitVec <<< (8 * r)
  | 0, _, v, _ => by rw [dfl, Nat.mul_zero, BitVec.shiftLeft_zero]
  | r + 1, k, v, h => by
    have z : (sh8 v ||| (0 : Int32).toInt64).toBitVec = v.toBitVec <<< 8 := by
      rw [Int64.toBitVec_or, sh8_bv]
      have : ((0 : Int32).toInt64).toBitVec = 0#64 := by decide
      rw [this, BitVec.or_zero]
    rw [dfl, if_neg (by omega), dfl_bv r (k + 1) _ (by omega), z, ← BitVec.shiftLeft_add]
    congr 1
    omega
theorem mfl_bv {B t : Nat → Int32} {n : Nat} (hn : n ≤ 7) (hB : ∀ k, k < n → B k = t k) : ∀ (r k : Nat) (v u : Int64), k + r = n → u.toBitVec = v.toBitVec <<< (56 - 8 * k) → (m_fl t r k u).toBitVec = (dfl B n (7 - k) k v).toBitVec
  | 0, k, v, u, hk, hu => by
    rw [m_fl, dfl_bv (7 - k) k v (by omega), hu]
    congr 1
    omega
  | r + 1, k, v, u, hk, hu => by
    have e7 : 7 - k = (7 - (k + 1)) + 1 := by omega
    rw [m_fl, e7, dfl, if_pos (by omega)]
    refine mfl_bv hn hB r (k + 1) _ _ (by omega) ?_
    rw [Int64.toBitVec_or, Int64.toBitVec_or, hu, shk_bv _ k (by omega), sh8_bv, BitVec.shiftLeft_or_distrib, ← BitVec.shiftLeft_add, hB k (by omega)]
    have e1 : 8 + (56 - 8 * (k + 1)) = 56 - 8 * k := by omega
    have e2 : 56 - 8 * (k + 1) = 48 - 8 * k := by omega
    rw [e1, e2]
theorem fet_eq {B t : Nat → Int32} {n : Nat} (hn : n ≤ 7) (hB : ∀ k, k < n → B k = t k) : dfl B n 7 0 (nI n).toInt64 = if n = 0 then 0 else m_fl t n 0 ((nI n).toInt64 <<< ((56 : Int32).toInt64 &&& 63)) := by
  apply Int64.toBitVec_inj.1
  by_cases c : n = 0
  · subst c
    rw [if_pos rfl, dfl_bv 7 0 _ (by omega)]
    decide
  · rw [if_neg c]
    have h56 : ((nI n).toInt64 <<< ((56 : Int32).toInt64 &&& 63)).toBitVec = (nI n).toInt64.toBitVec <<< (56 - 8 * 0) := rfl
    exact (mfl_bv hn hB n 0 (nI n).toInt64 _ (by omega) h56).symm
end
section
/-! WHAT WAITS, on both sides -/
def isD (M : aM) (L : List Int32) : Prop := ww M = L.length ∧ ∀ k (h : k < L.length), M 17 (wix M k) = L[k]
def isR (M : aM) (L : List Int32) : Prop := mW M = L.length ∧ ∀ k (h : k < L.length), M 30 k = L[k]
def sl (L : List Int32) (b : Int32) : List Int32 := if L.length = 500 then L else L ++ [b]
theorem isD.of {M N : aM} {L : List Int32} (h : isD M L) (h16 : N 16 = M 16) (h17 : N 17 = M 17) : isD N L := by
  unfold isD wix ww wf at h ⊢
  rw [h16, h17]
  exact h
theorem isR.of {M N : aM} {L : List Int32} (h : isR M L) (h18 : N 19 18 = M 19 18) (h30 : N 30 = M 30) : isR N L := by
  unfold isR mW at h ⊢
  rw [h18, h30]
  exact h
theorem sl_len {L : List Int32} (b : Int32) (h : L.length ≤ 500) : (sl L b).length ≤ 500 := by
  unfold sl
  split
  · exact h
  · rw [List.length_append, List.length_cons, List.length_nil]
    omega
theorem isD_say {M : aM} {L : List Int32} {b : Int32} (hw : wt_ok M) (h : isD M L) : isD (sayM M b) (sl L b) := by
  obtain ⟨h1, h2⟩ := h
  obtain ⟨w1, w2, w3, w4⟩ := hw
  unfold sayM sl
  by_cases c : ww M = 500
  · rw [if_pos c, if_pos (by omega)]
    exact ⟨h1, h2⟩
  rw [if_neg c, if_neg (by omega)]
  have e1 : wf (am_up (am_up M 17 (wix M (ww M)) b) 16 2 (nI (ww M + 1))) = wf M := by
    unfold wf; rw [am_up_ap, if_pos rfl, if_neg (by decide), am_up_ne (by decide)]
  have e2 : ww (am_up (am_up M 17 (wix M (ww M)) b) 16 2 (nI (ww M + 1))) = ww M + 1 := by
    have e3 : am_up (am_up M 17 (wix M (ww M)) b) 16 2 (nI (ww M + 1)) 16 2 = nI (ww M + 1) := by rw [am_up_ap, if_pos rfl, if_pos rfl]
    have e4 : ww (am_up (am_up M 17 (wix M (ww M)) b) 16 2 (nI (ww M + 1))) = cl (am_up (am_up M 17 (wix M (ww M)) b) 16 2 (nI (ww M + 1)) 16 2) := rfl
    rw [e4, e3]
    exact nI_clamp (by omega)
  have e5 : am_up (am_up M 17 (wix M (ww M)) b) 16 2 (nI (ww M + 1)) 17 = upd (M 17) (wix M (ww M)) b := by rw [am_up_ne (by decide), am_up_i, if_pos rfl]
  generalize am_up (am_up M 17 (wix M (ww M)) b) 16 2 (nI (ww M + 1)) = N at e1 e2 e5 ⊢
  have e6 : ∀ k, wix N k = wix M k := fun k => by unfold wix; rw [e1]
  refine ⟨by rw [e2, List.length_append, List.length_cons, List.length_nil]; omega, fun k hk => ?_⟩
  rw [List.length_append, List.length_cons, List.length_nil] at hk
  rw [e5, e6]
  by_cases ck : k = L.length
  · subst ck
    have hv : upd (M 17) (wix M (ww M)) b (wix M L.length) = b := by rw [← h1, upd_eq]
    rw [hv]
    simp
  · have hne : ¬ wix M k = wix M (ww M) := by
      unfold wix
      split <;> split <;> omega
    simp only [upd]
    rw [if_neg hne, List.getElem_append_left (by omega)]
    exact h2 k (by omega)
theorem isR_say {M : aM} {L : List Int32} {b : Int32} (hw : mw_ok M) (h : isR M L) : isR (m_say M b) (sl L b) := by
  obtain ⟨h1, h2⟩ := h
  have w2 := hw.2
  unfold m_say sl
  by_cases c : mW M = 500
  · rw [if_pos c, if_pos (by omega)]
    exact ⟨h1, h2⟩
  rw [if_neg c, if_neg (by omega)]
  have e2 : mW (am_up (am_up M 30 (mW M) b) 19 18 (nI (mW M + 1))) = mW M + 1 := nI_clamp (by omega)
  have e5 : am_up (am_up M 30 (mW M) b) 19 18 (nI (mW M + 1)) 30 = upd (M 30) (mW M) b := by rw [am_up_ne (by decide), am_up_i, if_pos rfl]
  generalize am_up (am_up M 30 (mW M) b) 19 18 (nI (mW M + 1)) = N at e2 e5 ⊢
  refine ⟨by rw [e2, List.length_append, List.length_cons, List.length_nil]; omega, fun k hk => ?_⟩
  rw [List.length_append, List.length_cons, List.length_nil] at hk
  rw [e5]
  by_cases ck : k = L.length
  · subst ck
    have hv : upd (M 30) (mW M) b L.length = b := by rw [← h1, upd_eq]
    rw [hv]
    simp
  · simp only [upd]
    rw [if_neg (by omega), List.getElem_append_left (by omega)]
    exact h2 k (by omega)
theorem isD_says : ∀ (l : List Int32) {M : aM} {L : List Int32}, wt_ok M → isD M L → isD (saysM M l) (l.foldl sl L)
  | [], _, _, _, h => h
  | b :: l, M, L, hw, h => isD_says l (sayM_ok hw) (isD_say hw h)
theorem isR_says : ∀ (l : List Int32) {M : aM} {L : List Int32}, mw_ok M → isR M L → isR (m_says M l) (l.foldl sl L)
  | [], _, _, _, h => h
  | b :: l, M, L, hw, h => isR_says l (m_say_rel hw).2.2 (isR_say hw h)
/-- both hold the same text -/
def WQ (M : aM) : Prop := ∃ L, isD M L ∧ isR M L
theorem WQ.of {M N : aM} (h : WQ M) (h16 : N 16 = M 16) (h17 : N 17 = M 17) (h18 : N 19 18 = M 19 18) (h30 : N 30 = M 30) : WQ N := by
  obtain ⟨L, a, b⟩ := h
  exact ⟨L, a.of h16 h17, b.of h18 h30⟩
/-- write, on both sides -/
theorem WQ_write {M N : aM} {l : List Int32} (h : WQ M) (hw : wt_ok M) (hm : mw_ok (saysM M l)) (h16 : N 16 = saysM M l 16) (h17 : N 17 = saysM M l 17) (h30 : N 30 = m_says (saysM M l) l 30) (h18 : N 19 18 = m_says (saysM M l) l 19 18) : WQ N := by
  obtain ⟨L, a, b⟩ := h
  have b' : isR (saysM M l) L := b.of (by rw [saysM_ne l M (by decide) (by decide)]) (saysM_ne l M (by decide) (by decide))
  exact ⟨l.foldl sl L, (isD_says l hw a).of h16 h17, (isR_says l hm b').of h18 h30⟩
theorem isD_tak {M : aM} {L : List Int32} (hw : wt_ok M) (h : isD M L) (h0 : 0 < L.length) : isD (takM M) (L.drop 1) ∧ M 17 (wf M) = L[0] := by
  obtain ⟨h1, h2⟩ := h
  obtain ⟨w1, w2, w3, w4⟩ := hw
  have hw' : wt_ok M := ⟨w1, w2, w3, w4⟩
  have e1 : wf (takM M) = if wf M + 1 < 500 then wf M + 1 else 0 := by
    show cl (takM M 16 1) = _
    unfold takM
    simp only [am_up_ap, Nat.reduceEqDiff, ↓reduceIte]
    exact nI_clamp (by split <;> omega)
  have e2 := takM_ww hw'
  have e17 : takM M 17 = M 17 := by unfold takM; rw [am_up_ne (by decide), am_up_ne (by decide)]
  have hz := h2 0 h0
  have hz0 : wix M 0 = wf M := by unfold wix; rw [Nat.add_zero, if_pos w2]
  rw [hz0] at hz
  generalize takM M = N at e1 e2 e17 ⊢
  refine ⟨⟨by rw [e2, List.length_drop]; omega, fun k hk => ?_⟩, hz⟩
  rw [List.length_drop] at hk
  have e6 : wix N k = wix M (1 + k) := by
    unfold wix
    rw [e1]
    split <;> split <;> split <;> omega
  rw [e17, e6, List.getElem_drop]
  exact h2 (1 + k) (by omega)
theorem ft_spec {n : Nat} (L0 : List Int32) : ∀ (r k : Nat) (v : Int64) (M : aM), wt_ok M → k + r = 7 → n ≤ 7 → n ≤ L0.length → isD M (L0.drop (if k < n then k else n)) → (d_ft n r k v M).1 = dfl (fun j => L0[j]!) n r k v ∧ isD (d_ft n r k v M).2 (L0.drop n)
  | 0, k, v, M, hw, hk, hn, hL, h => by
    rw [if_neg (by omega)] at h
    exact ⟨rfl, h⟩
  | r + 1, k, v, M, hw, hk, hn, hL, h => by
    rw [d_ft, dfl]
    by_cases c : k < n
    · rw [if_pos c] at h
      rw [if_pos c, if_pos c]
      obtain ⟨t1, t2⟩ := isD_tak hw h (by rw [List.length_drop]; omega)
      have e0 : (L0.drop k)[0]'(by rw [List.length_drop]; omega) = L0[k]! := by
        rw [List.getElem_drop, getElem!_pos L0 k (by omega)]
        simp
      rw [t2, e0]
      refine ft_spec L0 r (k + 1) _ (takM M) (takM_ok hw) (by omega) hn hL ?_
      rw [List.drop_drop] at t1
      by_cases c2 : k + 1 < n
      · rw [if_pos c2]; exact t1
      · rw [if_neg c2, show n = k + 1 by omega]; exact t1
    · rw [if_neg c] at h
      rw [if_neg c, if_neg c]
      refine ft_spec L0 r (k + 1) _ M hw (by omega) hn hL ?_
      rw [if_neg (by omega)]
      exact h
/-- fetch, on both sides -/
theorem fetch_eq {M M1 : aM} (h : WQ M) (hw : wt_ok M) (hm : mw_ok M) (e19 : M1 19 = M 19) (e30 : M1 30 = M 30) : (d_ft (d_fn M) 7 0 (nI (d_fn M)).toInt64 M).1 = m_fv M1 ∧ ∃ L, isD M L ∧ isD (d_ft (d_fn M) 7 0 (nI (d_fn M)).toInt64 M).2 (L.drop (d_fn M)) ∧ isR M1 L ∧ mfn M1 = d_fn M ∧ mW M1 = L.length := by
  obtain ⟨L, a, b⟩ := h
  have hb : isR M1 L := b.of (by rw [e19]) e30
  have hmf : mfn M1 = d_fn M := by
    unfold mfn d_fn
    rw [hb.1, a.1]
    split <;> split <;> omega
  have hn : d_fn M ≤ 7 ∧ d_fn M ≤ L.length := by
    unfold d_fn
    rw [a.1]
    split <;> omega
  obtain ⟨f1, f2⟩ := ft_spec (n := d_fn M) L 7 0 (nI (d_fn M)).toInt64 M hw (by omega) hn.1 hn.2 (by
    have : (if 0 < d_fn M then 0 else d_fn M) = 0 := by split <;> omega
    rw [this, List.drop_zero]
    exact a)
  refine ⟨?_, L, a, f2, hb, hmf, hb.1⟩
  rw [f1, fet_eq (t := M1 30) hn.1 (fun k hk => by
    show L[k]! = M1 30 k
    rw [hb.2 k (by omega), getElem!_pos L k (by omega)])]
  unfold m_fv
  rw [hmf, hb.1]
  by_cases c : L.length = 0
  · have : d_fn M = 0 := by unfold d_fn; rw [a.1]; split <;> omega
    rw [if_pos c, if_pos this]
  · have : ¬ d_fn M = 0 := by unfold d_fn; rw [a.1]; split <;> omega
    rw [if_neg c, if_neg this]
theorem isR_drop {M1 N : aM} {L : List Int32} {n : Nat} (h : isR M1 L) (hl : L.length ≤ 500) (h18 : N 19 18 = nI (mW M1 - n)) (h30 : ∀ k, k < mW M1 - n → N 30 k = M1 30 (k + n)) : isR N (L.drop n) := by
  have h1 := h.1
  refine ⟨?_, fun k hk => ?_⟩
  · unfold mW at h1 ⊢
    rw [h18, List.length_drop, ← h1]
    exact nI_clamp (by unfold mW; omega)
  · rw [List.length_drop] at hk
    rw [List.getElem_drop, h30 k (by omega), Nat.add_comm k n]
    exact h.2 (n + k) (by omega)
end
section
/-! WHAT HOLDS BETWEEN CALLS, with what waits -/
def I5 (M : aM) : Prop := I4 M ∧ WQ M
theorem p_I5 {M : aM} {v : Int64} {n : Int32} (h : I5 M) : I5 (p2M (p1M M v n) v n) := by
  have hfr := p1_fr M v n
  have hq2 : (∀ i, ¬ i = 19 → ¬ i = 20 → p2M (p1M M v n) v n i = p1M M v n i) ∧ (∀ j, ¬ j = 1 → p2M (p1M M v n) v n 19 j = p1M M v n 19 j) := by
    unfold p2M
    split
    · exact ⟨(fm_put v _ _).1, (fm_put v _ _).2.1⟩
    · exact ⟨fun _ _ _ => rfl, fun _ _ => rfl⟩
  have e : ∀ i, 3 ≤ i → ¬ i = 19 → ¬ i = 20 → p2M (p1M M v n) v n i = M i := fun i a b c => (hq2.1 i b c).trans (hfr i a)
  exact ⟨p_I4 h.1, h.2.of (e 16 (by omega) (by omega) (by omega)) (e 17 (by omega) (by omega) (by omega)) (by rw [hq2.2 18 (by decide), hfr 19 (by decide)]) (e 30 (by omega) (by omega) (by omega))⟩
theorem r_I5 {M : aM} (h : I5 M) {K : aR} (hK : ∀ (r : Int32) (N : aM), I5 N → K (some (.int r)) N) : m_rd (fun N => K (some (.int (m_ans N))) (m_fin N)) 402 (m_r0 (am_up (rdT M) 1 1 0)) := by
  have hX := RX_rdT h.1.1.1.1.1
  have hf := fr_rdT M
  exact r_I3 h.1.1 (fun r N hN hr hq hw => hK r N ⟨⟨hN, hX.of (by rw [hq 3 (by omega) (by omega)]) (hq 4 (by omega) (by omega)) (hq 5 (by omega) (by omega)) (hq 7 (by omega) (by omega)) (hq 8 (by omega) (by omega))⟩, h.2.of ((hq 16 (by omega) (by omega)).trans (hf 16 (by omega))) ((hq 17 (by omega) (by omega)).trans (hf 17 (by omega))) hw.2 hw.1⟩)
theorem l_I5 {M N : aM} (h : I5 M) (hr : wq_rel M N) (hk : wk M N) : I5 N := ⟨h.1.wq hr, h.2.of (hk 16 (by decide) (by decide)) (hk 17 (by decide) (by decide)) (by rw [hk 19 (by decide) (by decide)]) (hk 30 (by decide) (by decide))⟩
theorem w_fr5 {M : aM} (h : I2 M) (x : Int32) : fr9 M (if hasN M x = true then saysM M (w_node M 16 x) else M) ∧ wt_ok (if hasN M x = true then saysM M (w_node M 16 x) else M) := by
  split
  · exact ⟨fr9_says _ M, saysM_ok _ h.1.2⟩
  · exact ⟨fun _ _ _ => rfl, h.1.2⟩
theorem w_I5 {M N : aM} {x : Int32} (h : I5 M) (hr : wq_rel (if hasN M x = true then saysM M (w_node M 16 x) else M) N) (h30 : N 30 = m_says (if hasN M x = true then saysM M (w_node M 16 x) else M) (if m_has (if hasN M x = true then saysM M (w_node M 16 x) else M) x = true then out (if hasN M x = true then saysM M (w_node M 16 x) else M) false (cl x) else []) 30) (h18 : N 19 18 = m_says (if hasN M x = true then saysM M (w_node M 16 x) else M) (if m_has (if hasN M x = true then saysM M (w_node M 16 x) else M) x = true then out (if hasN M x = true then saysM M (w_node M 16 x) else M) false (cl x) else []) 19 18) : I5 N := by
  obtain ⟨f1, f2⟩ := w_fr5 h.1.1.1 x
  have hI : I4 N := (h.1.f9 f1 f2).wq hr
  obtain ⟨n, lc, d, h1, -⟩ := h.1.1.2.2
  obtain ⟨e, f⟩ := has_eq h1 x
  have hm19 : m_has (if hasN M x = true then saysM M (w_node M 16 x) else M) x = hasN M x := by
    have e19 := f1 19 (by decide) (by decide)
    generalize (if hasN M x = true then saysM M (w_node M 16 x) else M) = Z at e19
    rw [e]
    unfold m_has
    rw [e19]
  rw [hm19] at h30 h18
  refine ⟨hI, ?_⟩
  by_cases c : hasN M x = true
  · obtain ⟨y, hy, rfl⟩ := f c
    have h200 := h1.2.2.1
    have hm := StN_mN h1
    rw [if_pos c] at f1 f2 hr
    rw [if_pos c, if_pos c] at h30 h18
    have ew := w_out h.1.1 h.1.2 y (by rw [hm]; exact hy)
    have eo : out (saysM M (w_node M 16 (nI y))) false (cl (nI y)) = w_node M 16 (nI y) := by
      rw [show cl (nI y) = y from nI_clamp (by omega)]
      refine Eq.trans ?_ ew.symm
      exact out_c (f1 21 (by decide) (by decide)) (f1 22 (by decide) (by decide)) (f1 23 (by decide) (by decide)) (f1 24 (by decide) (by decide)) (f1 25 (by decide) (by decide)) false y
    rw [eo] at h30 h18
    have hmw : mw_ok (saysM M (w_node M 16 (nI y))) := by
      have := h.1.1.1.2.2.2.2.2.2
      unfold mw_ok mW at this ⊢
      rw [f1 19 (by decide) (by decide)]
      exact this
    exact WQ_write h.2 h.1.1.1.1.2 hmw (hr.1 16 (by decide) (by decide) (by decide) (by decide)) (hr.1 17 (by decide) (by decide) (by decide) (by decide)) h30 h18
  · rw [if_neg c] at hr
    rw [if_neg c, if_neg c, m_says_nil] at h30 h18
    exact h.2.of (hr.1 16 (by decide) (by decide) (by decide) (by decide)) (hr.1 17 (by decide) (by decide) (by decide) (by decide)) h18 h30
theorem f_fr5 {M : aM} (h : I2 M) : fr9 M (d_ft (d_fn M) 7 0 (nI (d_fn M)).toInt64 M).2 ∧ wt_ok (d_ft (d_fn M) 7 0 (nI (d_fn M)).toInt64 M).2 := fr9_ft (d_fn M) 7 0 (nI (d_fn M)).toInt64 M (by unfold d_fn; split <;> omega) h.1.2
theorem f_I5 {M N : aM} (h : I5 M) (hr : wr_rel (d_ft (d_fn M) 7 0 (nI (d_fn M)).toInt64 M).2 N) (h18 : N 19 18 = nI (mW (d_ft (d_fn M) 7 0 (nI (d_fn M)).toInt64 M).2 - mfn (d_ft (d_fn M) 7 0 (nI (d_fn M)).toInt64 M).2)) (h30 : ∀ k, k < mW (d_ft (d_fn M) 7 0 (nI (d_fn M)).toInt64 M).2 - mfn (d_ft (d_fn M) 7 0 (nI (d_fn M)).toInt64 M).2 → N 30 k = (d_ft (d_fn M) 7 0 (nI (d_fn M)).toInt64 M).2 30 (k + mfn (d_ft (d_fn M) 7 0 (nI (d_fn M)).toInt64 M).2)) : I5 N ∧ (d_ft (d_fn M) 7 0 (nI (d_fn M)).toInt64 M).1 = m_fv (d_ft (d_fn M) 7 0 (nI (d_fn M)).toInt64 M).2 := by
  obtain ⟨f1, f2⟩ := f_fr5 h.1.1.1
  have hmw := h.1.1.1.2.2.2.2.2.2
  obtain ⟨q1, L, q2, q3, q4, q5, q6⟩ := fetch_eq (M1 := (d_ft (d_fn M) 7 0 (nI (d_fn M)).toInt64 M).2) h.2 h.1.1.1.1.2 hmw (f1 19 (by decide) (by decide)) (f1 30 (by decide) (by decide))
  refine ⟨⟨(h.1.f9 f1 f2).wq hr.wq, ?_⟩, q1⟩
  generalize (d_ft (d_fn M) 7 0 (nI (d_fn M)).toInt64 M).2 = F at f1 f2 hr h18 h30 q3 q4 q5 q6
  rw [q5] at h18 h30
  have h500 : L.length ≤ 500 := by
    rw [← q2.1]
    exact h.1.1.1.1.2.2.2.2
  exact ⟨L.drop (d_fn M), q3.of (hr.1 16 (by decide) (by decide)) (hr.1 17 (by decide) (by decide)), isR_drop q4 h500 h18 h30⟩
/-- count -/
theorem cnt_eq {M : aM} (h : I5 M) (w : Int32) : d_cnt M w = m_cnt M w := by
  obtain ⟨n, lc, d, h1, h2, h3, h4, -⟩ := h.1.1.2.2
  have e0 : M 1 1 = M 19 1 := h.1.1.1.2.2.1
  have e1 : M 3 5 = M 19 5 := by rw [h1.1, h1.2.1]
  have e2 : M 3 7 = M 19 11 := by rw [h3, h4]
  obtain ⟨L, a, b⟩ := h.2
  have e3 : M 16 2 = M 19 18 := by
    rw [h.1.1.1.1.2.2.2.1, h.1.1.1.2.2.2.2.2.2.1, a.1, b.1]
  unfold d_cnt m_cnt
  rw [e0, e1, e2, e3]
end
