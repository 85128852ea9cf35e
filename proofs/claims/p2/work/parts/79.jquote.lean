/-! A QUOTE, on both sides -/
theorem opq_c {B S : aM} {n o : Nat} (hc : mc_ok B) (hm : mN B = n) (hn : n + 3 ≤ 200) (hS : S = m_opL n o (mqL (n + 1) 5 0 (m_new (m_new (m_new (m_opP true o B) 4) 2) 4))) : S 27 = upd (B 27) o (nI n) ∧ S 28 = upd (B 28) o (nI (n + 2)) ∧ S 29 = upd (B 29) o 4 ∧ S 26 = B 26 ∧ S 19 13 = nI (o + 1) ∧ S 19 11 = B 19 11 := by
  obtain ⟨p1, p2, p3, p4⟩ := opP_c true o B
  generalize m_opP true o B = P at p1 p2 p3 p4 hS
  have eN : mN P = n := by rw [← hm]; unfold mN; rw [p2 5 (by decide)]
  have hcP : mc_ok P := ⟨by rw [eN, p2 5 (by decide), hc.1, hm], by omega⟩
  obtain ⟨n1, n2, n3, n4, n5, n6, n7⟩ := new3 hcP (by omega)
  have v0 : m_new (m_new (m_new P 4) 2) 4 22 (n + 1) = nI 0 := by
    rw [n5, eN, upd_lt _ _ (by omega), upd_eq]
    rfl
  generalize m_new (m_new (m_new P 4) 2) 4 = T at n1 n2 n3 n4 n5 n6 n7 v0 hS
  obtain ⟨q1, -, -⟩ := qL_22 (n + 1) 5 0 0 T v0 (by omega)
  generalize mqL (n + 1) 5 0 T = U at q1 hS
  have k : ∀ i, ¬ i = 19 → ¬ i = 21 → ¬ i = 22 → ¬ i = 23 → ¬ i = 24 → ¬ i = 25 → ¬ i = 29 → U i = B i := fun i a b c d e f g => by rw [q1 i c d, n1 i a b c e f, p1 i a g]
  have k29 : U 29 = upd (B 29) o 4 := by rw [q1 29 (by decide) (by decide), n1 29 (by decide) (by decide) (by decide) (by decide) (by decide), p4, if_pos rfl]
  have k19 : ∀ j, ¬ j = 5 → U 19 j = P 19 j := fun j hj => by rw [q1 19 (by decide) (by decide), n2 j hj]
  subst hS
  unfold m_opL
  refine ⟨?_, ?_, ?_, ?_, ?_, ?_⟩
  · simp only [am_up_i, ↓reduceIte, Nat.reduceEqDiff]
    rw [k 27 (by decide) (by decide) (by decide) (by decide) (by decide) (by decide) (by decide)]
  · simp only [am_up_i, ↓reduceIte, Nat.reduceEqDiff]
    rw [k 28 (by decide) (by decide) (by decide) (by decide) (by decide) (by decide) (by decide)]
  · simp only [am_up_i, ↓reduceIte, Nat.reduceEqDiff]
    exact k29
  · simp only [am_up_i, ↓reduceIte, Nat.reduceEqDiff]
    rw [k 26 (by decide) (by decide) (by decide) (by decide) (by decide) (by decide) (by decide)]
  · simp only [am_up_i, ↓reduceIte, Nat.reduceEqDiff]
    rw [k19 13 (by decide), p3]
  · simp only [am_up_i, ↓reduceIte, Nat.reduceEqDiff]
    rw [k19 11 (by decide), p2 11 (by decide)]
/-- a quote's end: the last node, head and tail -/
theorem endq_st {C S : aM} {n lc x o m : Nat} (hN : StN C S n) (hL : StL C S n lc) (hn : n < 200) (ho : mO S - 1 = o) (h28 : cl (S 28 o) = x) (hx : x < n) : n_set 8 (r_add (n_set 7 C (nI x) (nI m)) 5).2 (nI x) (r_add (n_set 7 C (nI x) (nI m)) 5).1 = am_up (n_newM (am_up C 7 x (nI m)) n 5) 8 x (nI n) ∧ (r_add (n_set 7 C (nI x) (nI m)) 5).1 = nI n ∧ StN (am_up (n_newM (am_up C 7 x (nI m)) n 5) 8 x (nI n)) (m_endQ S (nI m)) (n + 1) ∧ StL (am_up (n_newM (am_up C 7 x (nI m)) n 5) 8 x (nI n)) (m_endQ S (nI m)) (n + 1) lc := by
  have hm := StN_mN hN
  have s1 := StN_head (l := x) (v := nI m) hN
  have t1 : StL (am_up C 7 x (nI m)) (am_up S 24 x (nI m)) n lc := StL_of hL (by rw [am_up_ne (by decide)]) (by rw [am_up_ne (by decide)]) (by rw [am_up_ne (by decide)]) (by rw [am_up_ne (by decide)]) (by rw [am_up_ne (by decide)]) (by rw [am_up_ne (by decide)])
  have s2 := StN_new 5 s1 hn
  have t2 := StL_new 5 s1 t1 hn
  have s3 := StN_tail (l := x) (v := nI n) s2
  have ea := (add_lt (k := 5) s1.1 hn).2
  rw [set_lt hN hx, ea, endQ_eq ho (by omega), h28, hm]
  dsimp only
  rw [set_lt s2 (by omega)]
  refine ⟨rfl, rfl, StN_ref s3 (by simp only [am_up_ap, ↓reduceIte, Nat.reduceEqDiff]) (by rw [am_up_ne (by decide)]) (by rw [am_up_ne (by decide)]) (by rw [am_up_ne (by decide)]) (by rw [am_up_ne (by decide)]), ?_⟩
  exact StL_of t2 (by rw [am_up_ne (by decide)]) (by rw [am_up_ne (by decide)]) (by rw [am_up_ne (by decide)]) (by rw [am_up_ne (by decide)]) (by rw [am_up_ne (by decide)]) (by rw [am_up_ne (by decide), am_up_ne (by decide)])
theorem endq_c {S : aM} {m o : Nat} (ho : mO S - 1 = o) (hn : ¬ mN S = 200) : m_endQ S (nI m) 27 = S 27 ∧ m_endQ S (nI m) 28 = S 28 ∧ m_endQ S (nI m) 29 = S 29 ∧ m_endQ S (nI m) 26 = S 26 ∧ m_endQ S (nI m) 19 11 = S 19 11 ∧ m_endQ S (nI m) 19 4 = S 19 4 ∧ m_endQ S (nI m) 19 3 = S 19 3 := by
  rw [endQ_eq ho hn]
  obtain ⟨c1, c2, -⟩ := new_c (am_up S 24 (cl (S 28 o)) (nI m)) 5
  refine ⟨?_, ?_, ?_, ?_, ?_, ?_, ?_⟩
  · rw [am_up_ne (by decide), am_up_ne (by decide), c1 27 (by decide) (by decide) (by decide) (by decide) (by decide), am_up_ne (by decide)]
  · rw [am_up_ne (by decide), am_up_ne (by decide), c1 28 (by decide) (by decide) (by decide) (by decide) (by decide), am_up_ne (by decide)]
  · rw [am_up_ne (by decide), am_up_ne (by decide), c1 29 (by decide) (by decide) (by decide) (by decide) (by decide), am_up_ne (by decide)]
  · rw [am_up_ne (by decide), am_up_ne (by decide), c1 26 (by decide) (by decide) (by decide) (by decide) (by decide), am_up_ne (by decide)]
  · rw [am_up_ap, if_pos rfl, if_neg (by decide), am_up_ne (by decide), c2 11 (by decide), am_up_ne (by decide)]
  · rw [am_up_ap, if_pos rfl, if_neg (by decide), am_up_ne (by decide), c2 4 (by decide), am_up_ne (by decide)]
  · rw [am_up_ap, if_pos rfl, if_neg (by decide), am_up_ne (by decide), c2 3 (by decide), am_up_ne (by decide)]
/-- a quote's end with no node left -/
theorem endq_f {S : aM} {m : Nat} (hp : ¬ S 19 3 < 0) (h : mN S = 200) : 0 ≤ m_endQ S (nI m) 19 4 := by
  apply Int32.not_lt.mp
  intro z
  exact endQ_4 hp z h
