/-! TREES BEING MADE: pure -/
def HOK (n : Nat) (w : Int32) (x : Nat) : Prop := ∃ h, w = nI h ∧ x < h ∧ h < n
theorem HOK.mono {n n' x : Nat} {w : Int32} (h : HOK n w x) (hn : n ≤ n') : HOK n' w x := by
  obtain ⟨a, b, c, d⟩ := h
  exact ⟨a, b, c, by omega⟩
def K5 (k : Int32) : Prop := k = 1 ∨ k = 2 ∨ k = 3 ∨ k = 4 ∨ k = 5
def nodeI (n : Nat) (kd vl hd tl : Nat → Int32) (pH pT : Nat → Prop) : Prop := ∀ x, x < n → K5 (kd x) ∧ (kd x = 2 ∨ kd x = 3 → ∃ v, v ≤ 20 ∧ vl x = nI v) ∧ (kd x = 4 → (HOK n (hd x) x ∨ pH x) ∧ (HOK n (tl x) x ∨ pT x))
theorem nodeI.mono {n : Nat} {kd vl hd tl : Nat → Int32} {pH pT qH qT : Nat → Prop} (h : nodeI n kd vl hd tl pH pT) (h1 : ∀ x, x < n → pH x → qH x) (h2 : ∀ x, x < n → pT x → qT x) : nodeI n kd vl hd tl qH qT := fun x hx => by
  obtain ⟨a, b, c⟩ := h x hx
  exact ⟨a, b, fun q => ⟨(c q).1.imp id (h1 x hx), (c q).2.imp id (h2 x hx)⟩⟩
theorem nodeI.new {n : Nat} {kd vl vl' hd tl : Nat → Int32} {pH pT : Nat → Prop} {k a b : Int32} (h : nodeI n kd vl hd tl pH pT) (hk : K5 k) (hv : k = 2 ∨ k = 3 → ∃ v, v ≤ 20 ∧ vl' n = nI v) (hp : k = 4 → (HOK (n + 1) a n ∨ pH n) ∧ (HOK (n + 1) b n ∨ pT n)) (hvl : ∀ x, x < n → vl' x = vl x) : nodeI (n + 1) (upd kd n k) vl' (upd hd n a) (upd tl n b) pH pT := fun x hx => by
  by_cases c : x = n
  · subst c
    simp only [upd, ↓reduceIte]
    exact ⟨hk, hv, hp⟩
  · obtain ⟨p, q, r⟩ := h x (by omega)
    simp only [upd, c, ↓reduceIte]
    rw [hvl x (by omega)]
    exact ⟨p, q, fun z => ⟨(r z).1.imp (fun w => w.mono (by omega)) id, (r z).2.imp (fun w => w.mono (by omega)) id⟩⟩
theorem nodeI.head {n l : Nat} {kd vl hd tl : Nat → Int32} {pH pT : Nat → Prop} {w : Int32} (h : nodeI n kd vl hd tl pH pT) (hw : HOK n w l) : nodeI n kd vl (upd hd l w) tl (fun x => pH x ∧ ¬ x = l) pT := fun x hx => by
  obtain ⟨a, b, c⟩ := h x hx
  refine ⟨a, b, fun q => ⟨?_, (c q).2⟩⟩
  by_cases e : x = l
  · subst e
    left
    simp only [upd, ↓reduceIte]
    exact hw
  · simp only [upd, e, ↓reduceIte]
    exact (c q).1.imp id (fun z => ⟨z, fun y => y.elim⟩)
theorem nodeI.tail {n l : Nat} {kd vl hd tl : Nat → Int32} {pH pT : Nat → Prop} {w : Int32} (h : nodeI n kd vl hd tl pH pT) (hw : HOK n w l) : nodeI n kd vl hd (upd tl l w) pH (fun x => pT x ∧ ¬ x = l) := fun x hx => by
  obtain ⟨a, b, c⟩ := h x hx
  refine ⟨a, b, fun q => ⟨(c q).1, ?_⟩⟩
  by_cases e : x = l
  · subst e
    left
    simp only [upd, ↓reduceIte]
    exact hw
  · simp only [upd, e, ↓reduceIte]
    exact (c q).2.imp id (fun z => ⟨z, fun y => y.elim⟩)
/-- a frame that has nodes -/
def frN (n d k : Nat) (fi la : Nat → Int32) : Prop := fi k = nI (cl (fi k)) ∧ la k = nI (cl (la k)) ∧ cl (fi k) ≤ cl (la k) ∧ cl (la k) < n ∧ (k = 0 → d ≤ cl (fi k)) ∧ (0 < k → cl (la (k - 1)) < cl (fi k))
def frI (bg : Bool) (n d o : Nat) (fi la st : Nat → Int32) : Prop := ∀ k, k < o → (st k = 0 ∧ k + 1 = o ∧ bg = false) ∨ ((st k = 1 ∨ st k = 2 ∨ st k = 4 ∨ (st k = 3 ∧ k + 1 = o ∧ bg = false)) ∧ frN n d k fi la)
theorem frN.mono {n n' d k : Nat} {fi la : Nat → Int32} (h : frN n d k fi la) (hn : n ≤ n') : frN n' d k fi la := by
  obtain ⟨a, b, c, e, f, g⟩ := h
  exact ⟨a, b, c, by omega, f, g⟩
theorem frN.off {n d k o : Nat} {fi la : Nat → Int32} {x y : Int32} (h : frN n d k fi la) (hk : k < o) : frN n d k (upd fi o x) (upd la o y) := by
  have e1 : upd fi o x k = fi k := by simp only [upd]; rw [if_neg (by omega)]
  have e2 : upd la o y k = la k := by simp only [upd]; rw [if_neg (by omega)]
  have e3 : upd la o y (k - 1) = la (k - 1) := by simp only [upd]; rw [if_neg (by omega)]
  unfold frN
  rw [e1, e2, e3]
  exact h
theorem frN.offl {n d k o : Nat} {fi la : Nat → Int32} {y : Int32} (h : frN n d k fi la) (hk : k < o) : frN n d k fi (upd la o y) := by
  have e2 : upd la o y k = la k := by simp only [upd]; rw [if_neg (by omega)]
  have e3 : upd la o y (k - 1) = la (k - 1) := by simp only [upd]; rw [if_neg (by omega)]
  unfold frN
  rw [e2, e3]
  exact h
theorem frI.mono {bg : Bool} {n n' d o : Nat} {fi la st : Nat → Int32} (h : frI bg n d o fi la st) (hn : n ≤ n') : frI bg n' d o fi la st := fun k hk => (h k hk).imp id (fun z => ⟨z.1, z.2.mono hn⟩)
/-- the frames below the top -/
theorem frI.low {bg : Bool} {n d o : Nat} {fi la st : Nat → Int32} (h : frI bg n d (o + 1) fi la st) {k : Nat} (hk : k < o) : (st k = 1 ∨ st k = 2 ∨ st k = 4) ∧ frN n d k fi la := by
  rcases h k (by omega) with ⟨a, b, c⟩ | ⟨a, b⟩
  · omega
  · refine ⟨?_, b⟩
    rcases a with q | q | q | ⟨q, r, s⟩
    · exact Or.inl q
    · exact Or.inr (Or.inl q)
    · exact Or.inr (Or.inr q)
    · omega
theorem frI.pop {bg : Bool} {n d o : Nat} {fi la st : Nat → Int32} (h : frI bg n d (o + 1) fi la st) : frI true n d o fi la st := fun k hk => by
  obtain ⟨a, b⟩ := h.low hk
  refine Or.inr ⟨?_, b⟩
  rcases a with q | q | q
  · exact Or.inl q
  · exact Or.inr (Or.inl q)
  · exact Or.inr (Or.inr (Or.inl q))
theorem frI.all {n d o : Nat} {fi la st : Nat → Int32} (h : frI true n d o fi la st) {k : Nat} (hk : k < o) : (st k = 1 ∨ st k = 2 ∨ st k = 4) ∧ frN n d k fi la := by
  rcases h k hk with ⟨a, b, c⟩ | ⟨a, b⟩
  · cases c
  · refine ⟨?_, b⟩
    rcases a with q | q | q | ⟨q, r, s⟩
    · exact Or.inl q
    · exact Or.inr (Or.inl q)
    · exact Or.inr (Or.inr q)
    · cases s
theorem frI.of {bg : Bool} {n d o : Nat} {fi la st : Nat → Int32} (h : ∀ k, k < o → (st k = 1 ∨ st k = 2 ∨ st k = 4) ∧ frN n d k fi la) : frI bg n d o fi la st := fun k hk => by
  obtain ⟨a, b⟩ := h k hk
  refine Or.inr ⟨?_, b⟩
  rcases a with q | q | q
  · exact Or.inl q
  · exact Or.inr (Or.inl q)
  · exact Or.inr (Or.inr (Or.inl q))
theorem frI.unbg {n d o : Nat} {fi la st : Nat → Int32} (h : frI true n d o fi la st) : frI false n d o fi la st := frI.of (fun _ hk => h.all hk)
theorem upd_lt (f : Nat → Int32) {o k : Nat} (x : Int32) (h : k < o) : upd f o x k = f k := by
  simp only [upd]
  rw [if_neg (by omega)]
theorem upd_eq (f : Nat → Int32) (o : Nat) (x : Int32) : upd f o x o = x := by simp only [upd, ↓reduceIte]
/-- a new pair at the top -/
theorem frI.top {bg : Bool} {n d o : Nat} {fi la st : Nat → Int32} (h : frI bg n d (o + 1) fi la st) (hn : n < 200) (hd : d ≤ n) (h0 : st o = 0) : frI true (n + 1) d (o + 1) (upd fi o (nI n)) (upd la o (nI n)) (upd st o 1) := by
  apply frI.of
  intro k hk
  by_cases c : k = o
  · subst c
    refine ⟨Or.inl (upd_eq _ _ _), ?_⟩
    unfold frN
    rw [upd_eq, upd_eq, show cl (nI n) = n from nI_clamp (by omega)]
    refine ⟨rfl, rfl, Nat.le_refl n, by omega, fun _ => hd, fun hk0 => ?_⟩
    rw [upd_lt la _ (by omega)]
    have := (h.low (k := k - 1) (by omega)).2.2.2.2.1
    exact this
  · obtain ⟨a, b⟩ := h.low (k := k) (by omega)
    rw [upd_lt st _ (by omega)]
    exact ⟨a, (b.mono (by omega)).off (by omega)⟩
theorem frI.top1 {bg : Bool} {n d o : Nat} {fi la st : Nat → Int32} (h : frI bg n d (o + 1) fi la st) (hn : n < 200) (h0 : ¬ st o = 0) : frI true (n + 1) d (o + 1) fi (upd la o (nI n)) (upd st o 1) := by
  apply frI.of
  intro k hk
  by_cases c : k = o
  · subst c
    refine ⟨Or.inl (upd_eq _ _ _), ?_⟩
    rcases h k (by omega) with ⟨a, -, -⟩ | ⟨-, a1, a2, a3, a4, a5, a6⟩
    · exact absurd a h0
    · unfold frN
      rw [upd_eq, show cl (nI n) = n from nI_clamp (by omega)]
      refine ⟨a1, rfl, by omega, by omega, a5, fun hk0 => ?_⟩
      rw [upd_lt la _ (by omega)]
      exact a6 hk0
  · obtain ⟨a, b⟩ := h.low (k := k) (by omega)
    rw [upd_lt st _ (by omega)]
    exact ⟨a, (b.mono (by omega)).offl (by omega)⟩
theorem frI.st {bg : Bool} {n d o : Nat} {fi la st : Nat → Int32} {s : Int32} (h : frI bg n d (o + 1) fi la st) (h0 : ¬ st o = 0) (hs : s = 2 ∨ s = 3) : frI false n d (o + 1) fi la (upd st o s) := fun k hk => by
  by_cases c : k = o
  · subst c
    rcases h k (by omega) with ⟨a, -, -⟩ | ⟨-, a⟩
    · exact absurd a h0
    · rw [upd_eq]
      refine Or.inr ⟨?_, a⟩
      rcases hs with q | q
      · exact Or.inr (Or.inl q)
      · exact Or.inr (Or.inr (Or.inr ⟨q, rfl, rfl⟩))
  · obtain ⟨a, b⟩ := h.low (k := k) (by omega)
    rw [upd_lt st _ (by omega)]
    refine Or.inr ⟨?_, b⟩
    rcases a with q | q | q
    · exact Or.inl q
    · exact Or.inr (Or.inl q)
    · exact Or.inr (Or.inr (Or.inl q))
theorem frI.push {n d o : Nat} {fi la st : Nat → Int32} (h : frI true n d o fi la st) : frI false n d (o + 1) fi la (upd st o 0) := fun k hk => by
  by_cases c : k = o
  · subst c
    exact Or.inl ⟨upd_eq _ _ _, rfl, rfl⟩
  · obtain ⟨a, b⟩ := h.all (k := k) (by omega)
    rw [upd_lt st _ (by omega)]
    refine Or.inr ⟨?_, b⟩
    rcases a with q | q | q
    · exact Or.inl q
    · exact Or.inr (Or.inl q)
    · exact Or.inr (Or.inr (Or.inl q))
theorem frI.pushQ {n d o : Nat} {fi la st : Nat → Int32} (h : frI true n d o fi la st) (hn : n + 3 ≤ 200) (hd : d ≤ n) : frI false (n + 3) d (o + 1) (upd fi o (nI n)) (upd la o (nI (n + 2))) (upd st o 4) := by
  apply frI.of
  intro k hk
  by_cases c : k = o
  · subst c
    refine ⟨Or.inr (Or.inr (upd_eq _ _ _)), ?_⟩
    unfold frN
    rw [upd_eq, upd_eq, show cl (nI n) = n from nI_clamp (by omega), show cl (nI (n + 2)) = n + 2 from nI_clamp (by omega)]
    refine ⟨rfl, rfl, by omega, by omega, fun _ => hd, fun hk0 => ?_⟩
    rw [upd_lt la _ (by omega)]
    exact (h.all (k := k - 1) (by omega)).2.2.2.2.1
  · obtain ⟨a, b⟩ := h.all (k := k) (by omega)
    rw [upd_lt st _ (by omega)]
    exact ⟨a, (b.mono (by omega)).off (by omega)⟩
