/-! THE ROW OF TOKENS, as the desk keeps it -/
theorem put_txt (v : Int64) : ∀ (k : Nat) (M N : aM), k ≤ 8 → M 2 = N 20 → tl M = m_tl N → tl M + k ≤ 400 → d_putL v k M 2 = m_putL v k N 20
  | 0, _, _, _, h, _, _ => h
  | k + 1, M, N, hk, h, ht, hl => by
    unfold d_putL m_putL
    have e1 : apd M (pb v k) 2 = upd (M 2) (tl M) (pb v k) := by unfold apd; simp only [am_up_i, ↓reduceIte, Nat.reduceEqDiff]
    have e2 : m_apd N (mpb v k) 20 = upd (N 20) (m_tl N) (mpb v k) := by unfold m_apd; simp only [am_up_i, ↓reduceIte, Nat.reduceEqDiff]
    refine put_txt v k _ _ (by omega) ?_ ?_ ?_
    · rw [e1, e2, h, ht, pb_eq v (by omega)]
    · rw [apd_tl (by omega), m_apd_tl (by omega), ht]
    · rw [apd_tl (by omega)]
      omega
/-- what tokens depend on -/
theorem sc_same {V M : aM} (h1 : V 1 1 = M 1 1) (h2 : V 2 = M 2) (p : Nat) : sc_s V p = sc_s M p ∧ sc_k V p = sc_k M p ∧ sc_e V p = sc_e M p := by
  have et : tl V = tl M := by unfold tl; rw [h1]
  have es : ∀ i, f_skip V i = f_skip M i := fun i => by unfold f_skip; rw [h2, et]
  have ea : ∀ i, f_at V i = f_at M i := fun i => by unfold f_at; rw [h1, h2]
  have ew : ∀ i, f_word V i = f_word M i := fun i => by unfold f_word; rw [h2, et]
  have en : ∀ i, f_num V i = f_num M i := fun i => by unfold f_num; rw [ew, h2]
  have em : ∀ i, f_name V i = f_name M i := fun i => by unfold f_name; rw [ew]
  have eq : ∀ i, f_str V i = f_str M i := fun i => by unfold f_str; rw [h2, et]
  have ef : ∀ i s, f_tend V i s = f_tend M i s := fun i s => by unfold f_tend; rw [en, em, eq, ea, h2, et]
  have k1 : sc_s V p = sc_s M p := es p
  have k2 : sc_k V p = sc_k M p := by unfold sc_k; rw [k1, h2, et]
  refine ⟨k1, k2, ?_⟩
  unfold sc_e
  rw [k1, k2, ef]
def pos (V : aM) : Nat → Nat
  | 0 => 0
  | i + 1 => cl (sc_e V (pos V i))
/-- all tokens before i are tokens, and none is the end -/
def okT (V : aM) (i : Nat) : Prop := ∀ j, j < i → ¬ sc_e V (pos V j) = -1 ∧ ¬ sc_k V (pos V j) = 10
theorem sc_in {V : aM} (h : tx_ok V) {p : Nat} (hp : p ≤ tl V) (h1 : ¬ sc_e V p = -1) (h2 : ¬ sc_k V p = 10) : ∃ e, sc_e V p = nI e ∧ p ≤ sc_s V p ∧ sc_s V p < e ∧ e ≤ tl V := by
  obtain ⟨e, a, b, c⟩ := tend_in (M := V) h (i := sc_s V p) h2 h1
  exact ⟨e, a, (f_skip_le (M := V) hp).1, b, c⟩
theorem pos_le {V : aM} (h : tx_ok V) : ∀ i, okT V i → i ≤ pos V i ∧ pos V i ≤ tl V
  | 0, _ => ⟨Nat.zero_le _, Nat.zero_le _⟩
  | i + 1, ho => by
    obtain ⟨a, b⟩ := pos_le h i (fun j hj => ho j (by omega))
    obtain ⟨c1, c2⟩ := ho i (by omega)
    obtain ⟨e, e1, e2, e3, e4⟩ := sc_in h b c1 c2
    have : pos V (i + 1) = e := by
      show cl (sc_e V (pos V i)) = e
      rw [e1]
      exact nI_clamp (by have := h.2; omega)
    rw [this]
    omega
/-- token i stands in the rows -/
def tok_at (V S : aM) (i : Nat) : Prop := S 13 i = (if sc_e V (pos V i) = -1 then 11 else sc_k V (pos V i)) ∧ S 14 i = nI (sc_s V (pos V i)) ∧ S 15 i = sc_e V (pos V i) ∧ ∃ c, S 12 3 = nI c ∧ i < c ∧ c ≤ 401
theorem scan_keep (V : aM) : ∀ (k i p : Nat) (M : aM) (j : Nat), j < i → scanM V k i p M 13 j = M 13 j ∧ scanM V k i p M 14 j = M 14 j ∧ scanM V k i p M 15 j = M 15 j
  | 0, _, _, M, _, _ => ⟨rfl, rfl, rfl⟩
  | k + 1, i, p, M, j, hj => by
    have h : sc_put V M i p 13 j = M 13 j ∧ sc_put V M i p 14 j = M 14 j ∧ sc_put V M i p 15 j = M 15 j := by
      have ne : ¬ j = i := by omega
      unfold sc_put
      simp only [am_up_ap, ne, ↓reduceIte, Nat.reduceEqDiff, and_self]
    unfold scanM
    split
    · exact h
    split
    · exact h
    · obtain ⟨a, b, c⟩ := scan_keep V k (i + 1) (cl (sc_e V p)) (sc_put V M i p) j (by omega)
      rw [a, b, c]
      exact h
theorem scan_cnt (V : aM) : ∀ (k i p : Nat) (M : aM), i + (k + 1) ≤ 401 → ∃ c, scanM V (k + 1) i p M 12 3 = nI c ∧ i < c ∧ c ≤ 401
  | 0, i, p, M, h => by
    have e : sc_put V M i p 12 3 = nI (i + 1) := by unfold sc_put; simp only [am_up_ap, ↓reduceIte]
    refine ⟨i + 1, ?_, by omega, by omega⟩
    unfold scanM
    split
    · exact e
    split
    · exact e
    · exact e
  | k + 1, i, p, M, h => by
    have e : sc_put V M i p 12 3 = nI (i + 1) := by unfold sc_put; simp only [am_up_ap, ↓reduceIte]
    unfold scanM
    split
    · exact ⟨i + 1, e, by omega, by omega⟩
    split
    · exact ⟨i + 1, e, by omega, by omega⟩
    · obtain ⟨c, a, b, d⟩ := scan_cnt V k (i + 1) (cl (sc_e V p)) (sc_put V M i p) (by omega)
      exact ⟨c, a, by omega, d⟩
theorem scan_put (V : aM) (k i p : Nat) (M : aM) : scanM V (k + 1) i p M 13 i = (if sc_e V p = -1 then 11 else sc_k V p) ∧ scanM V (k + 1) i p M 14 i = nI (sc_s V p) ∧ scanM V (k + 1) i p M 15 i = sc_e V p := by
  have h : sc_put V M i p 13 i = (if sc_e V p = -1 then 11 else sc_k V p) ∧ sc_put V M i p 14 i = nI (sc_s V p) ∧ sc_put V M i p 15 i = sc_e V p := by
    unfold sc_put
    simp only [am_up_ap, ↓reduceIte, Nat.reduceEqDiff, and_self]
  unfold scanM
  by_cases c1 : sc_e V p = -1
  · rw [if_pos c1]; exact h
  rw [if_neg c1]
  by_cases c2 : sc_k V p = 10
  · rw [if_pos c2]; exact h
  rw [if_neg c2]
  obtain ⟨a, b, c⟩ := scan_keep V k (i + 1) (cl (sc_e V p)) (sc_put V M i p) i (by omega)
  rw [a, b, c]
  exact h
theorem scan_spec {V : aM} : ∀ (k i : Nat) (M : aM), i + k = 401 → okT V i → ∀ j, i ≤ j → j < 401 → okT V j → tok_at V (scanM V k i (pos V i) M) j
  | 0, i, M, hk, _, j, h1, h2, _ => by omega
  | k + 1, i, M, hk, ho, j, h1, h2, hj => by
    by_cases c : j = i
    · subst c
      obtain ⟨a, b, d⟩ := scan_put V k j (pos V j) M
      obtain ⟨n, e, f, g⟩ := scan_cnt V k j (pos V j) M (by omega)
      exact ⟨a, b, d, n, e, f, g⟩
    · obtain ⟨c1, c2⟩ := hj i (by omega)
      have ho2 : okT V (i + 1) := fun q hq => hj q (by omega)
      have := scan_spec k (i + 1) (sc_put V M i (pos V i)) (by omega) ho2 j (by omega) h2 hj
      unfold scanM
      rw [if_neg c1, if_neg c2]
      exact this
theorem tok_read {V S : aM} {i : Nat} (hi : i < 401) (h : tok_at V S i) : tk S 13 11 (nI i) = (if sc_e V (pos V i) = -1 then 11 else sc_k V (pos V i)) ∧ tk S 14 (-1) (nI i) = nI (sc_s V (pos V i)) ∧ tk S 15 (-1) (nI i) = sc_e V (pos V i) := by
  obtain ⟨a, b, d, c, e, f, g⟩ := h
  have h1 : ¬ nI i < 0 := nI_pos (by omega)
  have h2 : nI i < S 12 3 := by rw [e]; exact nI_lt f (by omega)
  have h3 : nI i < 401 := nI_lt (b := 401) hi (by decide)
  have h4 : (nI i).toNatClampNeg = i := nI_clamp (by omega)
  unfold tk
  rw [if_neg h1, if_pos h2, if_pos h3, h4, if_neg h1, if_pos h2, if_pos h3, if_neg h1, if_pos h2, if_pos h3]
  exact ⟨a, b, d⟩
