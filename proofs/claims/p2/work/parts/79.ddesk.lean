/-! THE DESK'S READING: what it leaves alone, and the token it stands at -/
def dkC (c j : Nat) : Prop := (¬ c = 1 ∧ ¬ c = 2 ∧ ¬ c = 9 ∧ c < 12) ∧ (¬ c = 3 ∨ ¬ j = 7)
def dk (M N : aM) : Prop := (∀ i, i = 1 ∨ i = 2 ∨ i = 9 ∨ 12 ≤ i → N i = M i) ∧ N 3 7 = M 3 7
theorem dk.rf (M : aM) : dk M M := ⟨fun _ _ => rfl, rfl⟩
theorem dk.tr {M N P : aM} (h1 : dk M N) (h2 : dk N P) : dk M P := ⟨fun i hi => (h2.1 i hi).trans (h1.1 i hi), h2.2.trans h1.2⟩
theorem dk.up {M N : aM} (h : dk M N) {c j : Nat} {x : Int32} (hc : dkC c j) : dk M (am_up N c j x) := by
  obtain ⟨⟨a1, a2, a3, a4⟩, a5⟩ := hc
  refine ⟨fun i hi => ?_, ?_⟩
  · rw [am_up_ne (by omega)]; exact h.1 i hi
  · by_cases q : 3 = c
    · rw [am_up_i, if_pos q, upd, if_neg (by omega), ← q]; exact h.2
    · rw [am_up_ne q]; exact h.2
theorem dk_add (M : aM) (k : Int32) : dk M (n_add M k).2 := by
  unfold n_add
  split
  · exact dk.rf M
  split
  · exact ((((((dk.rf M).up (by first | exact ⟨by decide, Or.inl (by decide)⟩ | exact ⟨by decide, Or.inr (by decide)⟩)).up (by first | exact ⟨by decide, Or.inl (by decide)⟩ | exact ⟨by decide, Or.inr (by decide)⟩)).up (by first | exact ⟨by decide, Or.inl (by decide)⟩ | exact ⟨by decide, Or.inr (by decide)⟩)).up (by first | exact ⟨by decide, Or.inl (by decide)⟩ | exact ⟨by decide, Or.inr (by decide)⟩)).up (by first | exact ⟨by decide, Or.inl (by decide)⟩ | exact ⟨by decide, Or.inr (by decide)⟩)).up (by first | exact ⟨by decide, Or.inl (by decide)⟩ | exact ⟨by decide, Or.inr (by decide)⟩)
  · exact dk.rf M
theorem dk_flt (M : aM) : dk M (r_fltM M) := (dk.rf M).up (by first | exact ⟨by decide, Or.inl (by decide)⟩ | exact ⟨by decide, Or.inr (by decide)⟩)
theorem dk_radd (M : aM) (k : Int32) : dk M (r_add M k).2 := by
  unfold r_add
  split
  · exact (dk_add M k).tr (dk_flt _)
  · exact dk_add M k
theorem dk_nx (M : aM) : dk M (r_nx M) := (dk.rf M).up (by first | exact ⟨by decide, Or.inl (by decide)⟩ | exact ⟨by decide, Or.inr (by decide)⟩)
theorem dk_set {c : Nat} (hc : (¬ c = 1 ∧ ¬ c = 2 ∧ ¬ c = 9 ∧ c < 12) ∧ ¬ c = 3) (M : aM) (x v : Int32) : dk M (n_set c M x v) := by
  unfold n_set
  split
  · exact (dk.rf M).up ⟨hc.1, Or.inl hc.2⟩
  · exact dk.rf M
theorem dk_ltr (M : aM) (x b : Int32) : dk M (n_ltr M x b) := by
  unfold n_ltr
  split
  · split
    · exact dk.rf M
    split
    · exact (((dk.rf M).up (by first | exact ⟨by decide, Or.inl (by decide)⟩ | exact ⟨by decide, Or.inr (by decide)⟩)).up (by first | exact ⟨by decide, Or.inl (by decide)⟩ | exact ⟨by decide, Or.inr (by decide)⟩)).up (by first | exact ⟨by decide, Or.inl (by decide)⟩ | exact ⟨by decide, Or.inr (by decide)⟩)
    · exact dk.rf M
  · exact dk.rf M
theorem dk_nmL (nd e : Int32) : ∀ (k : Nat) (i : Int32) (M : aM), dk M (nmL nd e k i M)
  | 0, _, M => dk.rf M
  | k + 1, i, M => by
    unfold nmL
    split
    · exact (dk_ltr _ _ _).tr (dk_nmL nd e k _ _)
    · exact dk.rf M
theorem dk_stL (nd e : Int32) : ∀ (k : Nat) (i : Int32) (M : aM), dk M (stL nd e k i M)
  | 0, _, M => dk.rf M
  | k + 1, i, M => by
    unfold stL
    split
    · split
      · exact (dk_ltr _ _ _).tr (dk_stL nd e k _ _)
      · exact (dk_ltr _ _ _).tr (dk_stL nd e k _ _)
    · exact dk.rf M
theorem dk_num (M : aM) : dk M (r_num M).2 := (dk_radd M 1).tr (dk_set (by decide) _ _ _)
theorem dk_name (M : aM) : dk M (r_name M).2 := (dk_radd M 2).tr (dk_nmL _ _ _ _ _)
theorem dk_str (M : aM) : dk M (r_str M).2 := (dk_radd M 3).tr (dk_stL _ _ _ _ _)
theorem dk_qM (a b c : Int32) (M : aM) : dk M (q_M a b c M) := by
  unfold q_M
  have h : dk M (if hasN M b = true then nqM M b else M) := by
    split
    · exact ((dk.rf M).up (by first | exact ⟨by decide, Or.inl (by decide)⟩ | exact ⟨by decide, Or.inr (by decide)⟩)).up (by first | exact ⟨by decide, Or.inl (by decide)⟩ | exact ⟨by decide, Or.inr (by decide)⟩)
    · exact dk.rf M
  exact ((h.tr (dk_set (by decide) _ _ _)).tr (dk_set (by decide) _ _ _)).tr (dk_nx _)
theorem dk_qA (a b : Int32) (M : aM) (q : Int32) : dk M (q_A a b M q).2 := by
  unfold q_A
  have h1 := dk_set (c := 7) (by decide) M b q
  generalize n_set 7 M b q = N at h1 ⊢
  have h2 := dk_radd N 5
  generalize r_add N 5 = P at h2 ⊢
  exact (h1.tr h2).tr (dk_set (by decide) _ _ _)
theorem dk_qB {f : aM → Int32 × aM} (hf : ∀ M, dk M (f M).2) (a b c : Int32) (M : aM) : dk M (q_B f a b c M).2 := by
  unfold q_B
  have h1 := dk_qM a b c M
  generalize q_M a b c M = N at h1 ⊢
  have h2 := hf N
  generalize f N = P at h2 ⊢
  by_cases q : P.1 = -1
  · rw [if_pos q]; exact h1.tr h2
  · rw [if_neg q]; exact (h1.tr h2).tr (dk_qA _ _ _ _)
theorem dk_quo {f : aM → Int32 × aM} (hf : ∀ M, dk M (f M).2) (M : aM) : dk M (r_quo f M).2 := by
  unfold r_quo
  have h1 := dk_radd M 4
  generalize r_add M 4 = p1 at h1 ⊢
  have h2 := dk_radd p1.2 2
  generalize r_add p1.2 2 = p2 at h2 ⊢
  have h3 := dk_radd p2.2 4
  generalize r_add p2.2 4 = p3 at h3 ⊢
  by_cases q : p3.1 = -1
  · rw [if_pos q]; exact (h1.tr h2).tr h3
  · rw [if_neg q]; exact ((h1.tr h2).tr h3).tr (dk_qB hf _ _ _ _)
theorem dk_dot {f : aM → Int32 × aM} (hf : ∀ M, dk M (f M).2) (M : aM) : dk M (r_dot f M).2 := by
  have h1 := (dk_nx M).tr (hf (r_nx M))
  unfold r_dot
  split
  · exact h1
  split
  · exact h1.tr (dk_nx _)
  · exact (h1.tr (dk_nx _)).tr (dk_flt _)
theorem dk_lE {M : aM} {p : Int32 × aM} {a b : Int32} (h : dk M p.2) : dk M (r_lE p a b).2 := h.tr (dk_set (by decide) _ _ _)
theorem dk_ll {f : aM → Int32 × aM} (hf : ∀ M, dk M (f M).2) (first : Int32) : ∀ (r : Nat) (last : Int32) (M : aM), dk M (r_ll f first r last M).2
  | 0, _, M => dk.rf M
  | r + 1, last, M => by
    have hh : dk M (r_hd f last M) := ((hf M).tr (dk_set (by decide) _ _ _)).tr (dk_nx _)
    unfold r_ll
    split
    · exact dk.rf M
    split
    · exact hf M
    split
    · exact dk_lE (hh.tr (dk_radd _ 5))
    split
    · exact dk_lE (hh.tr (dk_dot hf _))
    · exact ((hh.tr (dk_radd _ 4)).tr (dk_set (by decide) _ _ _)).tr (dk_ll hf first r _ _)
theorem dk_lst {f : aM → Int32 × aM} (hf : ∀ M, dk M (f M).2) (M : aM) : dk M (r_lst f M).2 := by
  unfold r_lst
  split
  · exact (dk_nx M).tr (dk_radd _ 5)
  · exact ((dk_radd M 4).tr (dk_nx _)).tr (dk_ll hf _ _ _ _)
theorem dk_rdD : ∀ (j : Nat) (M : aM), dk M (rdD j M).2
  | 0, M => by
    unfold rdD
    split
    · exact dk_num M
    split
    · exact dk_name M
    split
    · exact dk_str M
    · exact dk_flt M
  | j + 1, M => by
    unfold rdD
    split
    · exact dk_num M
    split
    · exact dk_name M
    split
    · exact dk_str M
    split
    · exact dk_lst (dk_rdD j) M
    split
    · exact dk_quo (dk_rdD j) M
    · exact dk_flt M
/-- the rows of tokens lie on the desk -/
def TT (V C : aM) : Prop := tx_ok V ∧ C 1 1 = V 1 1 ∧ C 2 = V 2 ∧ ∀ j, j < 401 → okT V j → tok_at V C j
theorem TT.of {V C D : aM} (h : TT V C) (hd : dk C D) : TT V D := by
  obtain ⟨h0, h1, h2, h3⟩ := h
  refine ⟨h0, by rw [hd.1 1 (by omega)]; exact h1, by rw [hd.1 2 (by omega)]; exact h2, fun j hj ho => ?_⟩
  have := h3 j hj ho
  unfold tok_at at this ⊢
  rw [hd.1 12 (by omega), hd.1 13 (by omega), hd.1 14 (by omega), hd.1 15 (by omega)]
  exact this
theorem TT.lt {V C : aM} {i : Nat} (h : TT V C) (ho : okT V i) : i < 401 ∧ i ≤ pos V i ∧ pos V i ≤ tl V ∧ tl V ≤ 400 := by
  obtain ⟨a, b⟩ := pos_le h.1 i ho
  have := h.1.2
  omega
theorem TT.read {V C : aM} {i : Nat} (h : TT V C) (hi : C 11 3 = nI i) (ho : okT V i) : tkS C = (if sc_e V (pos V i) = -1 then 11 else sc_k V (pos V i)) ∧ r_beg C = nI (sc_s V (pos V i)) ∧ r_end C = sc_e V (pos V i) := by
  have hl := (h.lt ho).1
  obtain ⟨a, b, c⟩ := tok_read hl (h.2.2.2 i hl ho)
  unfold tkS r_beg r_end
  rw [hi]
  exact ⟨a, b, c⟩
/-- the token after that -/
theorem TT.next {V C : aM} {i : Nat} (h : TT V C) (hi : C 11 3 = nI i) (ho : okT V (i + 1)) : tk C 13 11 (C 11 3 + 1) = (if sc_e V (pos V (i + 1)) = -1 then 11 else sc_k V (pos V (i + 1))) := by
  have hl := (h.lt ho).1
  rw [hi, nI_1]
  exact (tok_read hl (h.2.2.2 _ hl ho)).1
theorem okT.s {V : aM} {i : Nat} (h : okT V i) (h1 : ¬ sc_e V (pos V i) = -1) (h2 : ¬ sc_k V (pos V i) = 10) : okT V (i + 1) := fun j hj => by
  by_cases c : j = i
  · subst c; exact ⟨h1, h2⟩
  · exact h j (by omega)
theorem pos_s {V : aM} {i e : Nat} (h : sc_e V (pos V i) = nI e) (he : e ≤ 400) : pos V (i + 1) = e := by
  show cl (sc_e V (pos V i)) = e
  rw [h]
  exact nI_clamp (by omega)
theorem nx_c {C : aM} {i : Nat} (hi : C 11 3 = nI i) : r_nx C 11 3 = nI (i + 1) ∧ (∀ q, ¬ q = 11 → r_nx C q = C q) := by
  unfold r_nx
  refine ⟨?_, fun q hq => am_up_ne hq⟩
  rw [am_up_i, if_pos rfl, upd_eq, hi, nI_1]
