/-! THE STATE OF READING, pure -/
def hpd (bg : Bool) (o : Nat) (la st : Nat → Int32) (x : Nat) : Prop := ∃ k, k < o ∧ la k = nI x ∧ (st k = 4 ∨ (st k = 1 ∧ (k + 1 < o ∨ bg = true)))
def tpd (o : Nat) (la st : Nat → Int32) (x : Nat) : Prop := ∃ k, k < o ∧ la k = nI x ∧ (st k = 1 ∨ st k = 2 ∨ st k = 4)
def SIr (bg : Bool) (n d o : Nat) (kd vl hd tl fi la st : Nat → Int32) : Prop := nodeI n kd vl hd tl (hpd bg o la st) (tpd o la st) ∧ frI bg n d o fi la st ∧ d ≤ n ∧ n ≤ 200
theorem nodeI.vl {n : Nat} {kd vl vl' hd tl : Nat → Int32} {pH pT : Nat → Prop} (h : nodeI n kd vl hd tl pH pT) (hv : ∀ x, x < n → vl' x = vl x) : nodeI n kd vl' hd tl pH pT := fun x hx => by
  obtain ⟨a, b, c⟩ := h x hx
  rw [← hv x hx] at b
  exact ⟨a, b, c⟩
section SIR
variable {bg : Bool} {n d o m : Nat} {kd vl hd tl fi la st : Nat → Int32}
theorem top_l (h : frI bg n d (o + 1) fi la st) (h0 : ¬ st o = 0) : la o = nI (cl (la o)) ∧ cl (la o) < n ∧ fi o = nI (cl (fi o)) ∧ cl (fi o) ≤ cl (la o) ∧ (o = 0 → d ≤ cl (fi o)) ∧ (0 < o → cl (la (o - 1)) < cl (fi o)) := by
  rcases h o (by omega) with ⟨a, -, -⟩ | ⟨-, a1, a2, a3, a4, a5, a6⟩
  · exact absurd a h0
  · exact ⟨a2, a4, a1, a3, a5, a6⟩
theorem l_eq {x : Nat} (h1 : la o = nI (cl (la o))) (h2 : la o = nI x) (hx : x < 200) : x = cl (la o) := by
  rw [h2, show cl (nI x) = x from nI_clamp (by omega)]
theorem S_beg0 (h : SIr false n d (o + 1) kd vl hd tl fi la st) (h0 : st o = 0) (hn : n < 200) : SIr true (n + 1) d (o + 1) (upd kd n 4) (upd vl n 0) (upd hd n (-1)) (upd tl n (-1)) (upd fi o (nI n)) (upd la o (nI n)) (upd st o 1) := by
  obtain ⟨h1, h2, h3, h4⟩ := h
  refine ⟨?_, h2.top hn h3 h0, by omega, by omega⟩
  have q := h1.mono (qH := hpd true (o + 1) (upd la o (nI n)) (upd st o 1)) (qT := tpd (o + 1) (upd la o (nI n)) (upd st o 1)) (fun x hx ⟨k, a, b, c⟩ => by
    have hk : k < o := by
      apply Nat.lt_of_le_of_ne (by omega)
      intro e
      subst e
      rw [h0] at c
      rcases c with c | ⟨c, -⟩ <;> revert c <;> decide
    refine ⟨k, a, by rw [upd_lt la _ hk]; exact b, ?_⟩
    rw [upd_lt st _ hk]
    exact c.imp id (fun z => ⟨z.1, Or.inr rfl⟩)) (fun x hx ⟨k, a, b, c⟩ => by
    have hk : k < o := by
      apply Nat.lt_of_le_of_ne (by omega)
      intro e
      subst e
      rw [h0] at c
      rcases c with c | c | c <;> revert c <;> decide
    refine ⟨k, a, by rw [upd_lt la _ hk]; exact b, ?_⟩
    rw [upd_lt st _ hk]
    exact c)
  exact q.new (Or.inr (Or.inr (Or.inr (Or.inl rfl)))) (fun z => by rcases z with z | z <;> exact absurd z (by decide)) (fun _ => ⟨Or.inr ⟨o, by omega, upd_eq _ _ _, Or.inr ⟨upd_eq _ _ _, Or.inr rfl⟩⟩, Or.inr ⟨o, by omega, upd_eq _ _ _, Or.inl (upd_eq _ _ _)⟩⟩) (fun x hx => upd_lt vl _ hx)
theorem S_beg1 (h : SIr false n d (o + 1) kd vl hd tl fi la st) (h0 : st o = 1) (hn : n < 200) : SIr true (n + 1) d (o + 1) (upd kd n 4) (upd vl n 0) (upd hd n (-1)) (upd (upd tl n (-1)) (cl (la o)) (nI n)) fi (upd la o (nI n)) (upd st o 1) := by
  obtain ⟨h1, h2, h3, h4⟩ := h
  have hs : ¬ st o = 0 := by rw [h0]; decide
  obtain ⟨l1, l2, -⟩ := top_l h2 hs
  refine ⟨?_, h2.top1 hn hs, by omega, by omega⟩
  have q := h1.mono (qH := hpd true (o + 1) (upd la o (nI n)) (upd st o 1)) (qT := fun x => tpd (o + 1) (upd la o (nI n)) (upd st o 1) x ∨ x = cl (la o)) (fun x hx ⟨k, a, b, c⟩ => by
    have hk : k < o := by
      apply Nat.lt_of_le_of_ne (by omega)
      intro e
      subst e
      rw [h0] at c
      rcases c with c | ⟨-, c | c⟩
      · revert c; decide
      · omega
      · cases c
    refine ⟨k, a, by rw [upd_lt la _ hk]; exact b, ?_⟩
    rw [upd_lt st _ hk]
    exact c.imp id (fun z => ⟨z.1, Or.inr rfl⟩)) (fun x hx ⟨k, a, b, c⟩ => by
    by_cases e : k = o
    · subst e
      exact Or.inr (l_eq l1 b (by omega))
    · have hk : k < o := by omega
      refine Or.inl ⟨k, a, by rw [upd_lt la _ hk]; exact b, ?_⟩
      rw [upd_lt st _ hk]
      exact c)
  have q2 := q.new (k := 4) (a := -1) (b := -1) (vl' := upd vl n 0) (Or.inr (Or.inr (Or.inr (Or.inl rfl)))) (fun z => by rcases z with z | z <;> exact absurd z (by decide)) (fun _ => ⟨Or.inr ⟨o, by omega, upd_eq _ _ _, Or.inr ⟨upd_eq _ _ _, Or.inr rfl⟩⟩, Or.inr (Or.inl ⟨o, by omega, upd_eq _ _ _, Or.inl (upd_eq _ _ _)⟩)⟩) (fun x hx => upd_lt vl _ hx)
  have q3 := q2.tail (l := cl (la o)) (w := nI n) ⟨n, rfl, l2, by omega⟩
  exact q3.mono (fun _ _ z => z) (fun x _ z => z.1.resolve_right z.2)
theorem S_begK (h : SIr false n d (o + 1) kd vl hd tl fi la st) (h0 : st o = 2 ∨ st o = 4) : SIr true n d (o + 1) kd vl hd tl fi la st := by
  obtain ⟨h1, h2, h3, h4⟩ := h
  refine ⟨h1.mono (fun x hx ⟨k, a, b, c⟩ => ⟨k, a, b, c.imp id (fun z => ⟨z.1, Or.inr rfl⟩)⟩) (fun x _ z => z), frI.of (fun k hk => ?_), h3, h4⟩
  by_cases e : k = o
  · subst e
    have hs : ¬ st k = 0 := by rcases h0 with q | q <;> rw [q] <;> decide
    rcases h2 k (by omega) with ⟨a, -, -⟩ | ⟨-, a⟩
    · exact absurd a hs
    · exact ⟨h0.elim (fun q => Or.inr (Or.inl q)) (fun q => Or.inr (Or.inr q)), a⟩
  · exact h2.low (by omega)
theorem S_beg00 (h : SIr false n d 0 kd vl hd tl fi la st) : SIr true n d 0 kd vl hd tl fi la st := by
  obtain ⟨h1, h2, h3, h4⟩ := h
  exact ⟨h1.mono (fun x hx ⟨k, a, b, c⟩ => by omega) (fun x _ z => z), fun k hk => by omega, h3, h4⟩
theorem S_new {k a b : Int32} {vl' : Nat → Int32} (h : SIr true n d o kd vl hd tl fi la st) (hk : K5 k) (hk4 : ¬ k = 4) (hv : k = 2 ∨ k = 3 → ∃ v, v ≤ 20 ∧ vl' n = nI v) (hvl : ∀ x, x < n → vl' x = vl x) (hn : n < 200) : SIr true (n + 1) d o (upd kd n k) vl' (upd hd n a) (upd tl n b) fi la st := by
  obtain ⟨h1, h2, h3, h4⟩ := h
  exact ⟨h1.new hk hv (fun z => absurd z hk4) hvl, h2.mono (by omega), by omega, by omega⟩
theorem S_end1 (h : SIr true n d (o + 1) kd vl hd tl fi la st) (h0 : st o = 1) (hm : cl (la o) < m) (hmn : m < n) : SIr false n d (o + 1) kd vl (upd hd (cl (la o)) (nI m)) tl fi la st := by
  obtain ⟨h1, h2, h3, h4⟩ := h
  have hs : ¬ st o = 0 := by rw [h0]; decide
  obtain ⟨l1, l2, -⟩ := top_l h2 hs
  refine ⟨(h1.head (l := cl (la o)) (w := nI m) ⟨m, rfl, hm, hmn⟩).mono (fun x hx ⟨⟨k, a, b, c⟩, e⟩ => ?_) (fun x _ z => z), h2.unbg, h3, h4⟩
  have hk : k < o := by
    apply Nat.lt_of_le_of_ne (by omega)
    intro z
    subst z
    exact e (l_eq l1 b (by omega))
  exact ⟨k, a, b, c.imp id (fun z => ⟨z.1, Or.inl (by omega)⟩)⟩
theorem S_end2 (h : SIr true n d (o + 1) kd vl hd tl fi la st) (h0 : st o = 2) (hm : cl (la o) < m) (hmn : m < n) : SIr false n d (o + 1) kd vl hd (upd tl (cl (la o)) (nI m)) fi la (upd st o 3) := by
  obtain ⟨h1, h2, h3, h4⟩ := h
  have hs : ¬ st o = 0 := by rw [h0]; decide
  obtain ⟨l1, l2, -⟩ := top_l h2 hs
  refine ⟨(h1.tail (l := cl (la o)) (w := nI m) ⟨m, rfl, hm, hmn⟩).mono (fun x hx ⟨k, a, b, c⟩ => ?_) (fun x hx ⟨⟨k, a, b, c⟩, e⟩ => ?_), h2.st hs (Or.inr rfl), h3, h4⟩
  · have hk : k < o := by
      apply Nat.lt_of_le_of_ne (by omega)
      intro z
      subst z
      rw [h0] at c
      rcases c with c | ⟨c, -⟩ <;> revert c <;> decide
    refine ⟨k, a, b, ?_⟩
    rw [upd_lt st _ hk]
    exact c.imp id (fun z => ⟨z.1, Or.inl (by omega)⟩)
  · have hk : k < o := by
      apply Nat.lt_of_le_of_ne (by omega)
      intro z
      subst z
      exact e (l_eq l1 b (by omega))
    refine ⟨k, a, b, ?_⟩
    rw [upd_lt st _ hk]
    exact c
theorem S_end4 (h : SIr true n d (o + 1) kd vl hd tl fi la st) (h0 : st o = 4) (hm : cl (la o) < m) (hmn : m < n) (hn : n < 200) : SIr true (n + 1) d o (upd kd n 5) (upd vl n 0) (upd (upd hd (cl (la o)) (nI m)) n (-1)) (upd (upd tl n (-1)) (cl (la o)) (nI n)) fi la st := by
  obtain ⟨h1, h2, h3, h4⟩ := h
  have hs : ¬ st o = 0 := by rw [h0]; decide
  obtain ⟨l1, l2, -⟩ := top_l h2 hs
  have q1 := h1.head (l := cl (la o)) (w := nI m) ⟨m, rfl, hm, hmn⟩
  have q2 := q1.new (k := 5) (a := -1) (b := -1) (vl' := upd vl n 0) (Or.inr (Or.inr (Or.inr (Or.inr rfl)))) (fun z => by rcases z with z | z <;> exact absurd z (by decide)) (fun z => absurd z (by decide)) (fun x hx => upd_lt vl _ hx)
  have q3 := q2.tail (l := cl (la o)) (w := nI n) ⟨n, rfl, l2, by omega⟩
  have hne : ∀ x, x < n + 1 → la o = nI x → x = cl (la o) := fun x hx b => l_eq l1 b (by omega)
  refine ⟨q3.mono (fun x hx ⟨⟨k, a, b, c⟩, e⟩ => ?_) (fun x hx ⟨⟨k, a, b, c⟩, e⟩ => ?_), (h2.pop).mono (by omega), by omega, by omega⟩
  · have hk : k < o := by
      apply Nat.lt_of_le_of_ne (by omega)
      intro z
      subst z
      exact e (hne x hx b)
    exact ⟨k, hk, b, c.imp id (fun z => ⟨z.1, Or.inr rfl⟩)⟩
  · have hk : k < o := by
      apply Nat.lt_of_le_of_ne (by omega)
      intro z
      subst z
      exact e (hne x hx b)
    exact ⟨k, hk, b, c⟩
theorem S_push (h : SIr true n d o kd vl hd tl fi la st) : SIr false n d (o + 1) kd vl hd tl fi la (upd st o 0) := by
  obtain ⟨h1, h2, h3, h4⟩ := h
  refine ⟨h1.mono (fun x hx ⟨k, a, b, c⟩ => ⟨k, by omega, b, ?_⟩) (fun x hx ⟨k, a, b, c⟩ => ⟨k, by omega, b, ?_⟩), h2.push, h3, h4⟩
  · rw [upd_lt st _ a]
    exact c.imp id (fun z => ⟨z.1, Or.inl (by omega)⟩)
  · rw [upd_lt st _ a]
    exact c
theorem S_pushQ {vl' : Nat → Int32} (h : SIr true n d o kd vl hd tl fi la st) (hn : n + 3 ≤ 200) (hvl : ∀ x, x < n → vl' x = vl x) (hv : vl' (n + 1) = nI 5) : SIr false (n + 3) d (o + 1) (upd (upd (upd kd n 4) (n + 1) 2) (n + 2) 4) vl' (upd (upd (upd (upd hd n (-1)) (n + 1) (-1)) (n + 2) (-1)) n (nI (n + 1))) (upd (upd (upd (upd tl n (-1)) (n + 1) (-1)) (n + 2) (-1)) n (nI (n + 2))) (upd fi o (nI n)) (upd la o (nI (n + 2))) (upd st o 4) := by
  obtain ⟨h1, h2, h3, h4⟩ := h
  refine ⟨?_, h2.pushQ hn h3, by omega, by omega⟩
  have q0 := (h1.vl hvl).mono (qH := fun x => hpd false (o + 1) (upd la o (nI (n + 2))) (upd st o 4) x ∨ x = n) (qT := fun x => tpd (o + 1) (upd la o (nI (n + 2))) (upd st o 4) x ∨ x = n) (fun x hx ⟨k, a, b, c⟩ => by
    refine Or.inl ⟨k, by omega, by rw [upd_lt la _ a]; exact b, ?_⟩
    rw [upd_lt st _ a]
    exact c.imp id (fun z => ⟨z.1, Or.inl (by omega)⟩)) (fun x hx ⟨k, a, b, c⟩ => by
    refine Or.inl ⟨k, by omega, by rw [upd_lt la _ a]; exact b, ?_⟩
    rw [upd_lt st _ a]
    exact c)
  have q1 := q0.new (k := 4) (a := -1) (b := -1) (vl' := vl') (Or.inr (Or.inr (Or.inr (Or.inl rfl)))) (fun z => by rcases z with z | z <;> exact absurd z (by decide)) (fun _ => ⟨Or.inr (Or.inr rfl), Or.inr (Or.inr rfl)⟩) (fun _ _ => rfl)
  have q2 := q1.new (k := 2) (a := -1) (b := -1) (vl' := vl') (Or.inr (Or.inl rfl)) (fun _ => ⟨5, by decide, hv⟩) (fun z => absurd z (by decide)) (fun _ _ => rfl)
  have q3 := q2.new (k := 4) (a := -1) (b := -1) (vl' := vl') (Or.inr (Or.inr (Or.inr (Or.inl rfl)))) (fun z => by rcases z with z | z <;> exact absurd z (by decide)) (fun _ => ⟨Or.inr (Or.inl ⟨o, by omega, upd_eq _ _ _, Or.inl (upd_eq _ _ _)⟩), Or.inr (Or.inl ⟨o, by omega, upd_eq _ _ _, Or.inr (Or.inr (upd_eq _ _ _))⟩)⟩) (fun _ _ => rfl)
  have q4 := q3.head (l := n) (w := nI (n + 1)) ⟨n + 1, rfl, by omega, by omega⟩
  have q5 := q4.tail (l := n) (w := nI (n + 2)) ⟨n + 2, rfl, by omega, by omega⟩
  exact q5.mono (fun x _ z => z.1.resolve_right z.2) (fun x _ z => z.1.resolve_right z.2)
theorem S_cl0 (h : SIr false n d (o + 1) kd vl hd tl fi la st) (h0 : st o = 0) (hn : n < 200) : SIr true (n + 1) d o (upd kd n 5) (upd vl n 0) (upd hd n (-1)) (upd tl n (-1)) fi la st := by
  obtain ⟨h1, h2, h3, h4⟩ := h
  have q := h1.mono (qH := hpd true o la st) (qT := tpd o la st) (fun x hx ⟨k, a, b, c⟩ => by
    have hk : k < o := by
      apply Nat.lt_of_le_of_ne (by omega)
      intro e
      subst e
      rw [h0] at c
      rcases c with c | ⟨c, -⟩ <;> revert c <;> decide
    exact ⟨k, hk, b, c.imp id (fun z => ⟨z.1, Or.inr rfl⟩)⟩) (fun x hx ⟨k, a, b, c⟩ => by
    have hk : k < o := by
      apply Nat.lt_of_le_of_ne (by omega)
      intro e
      subst e
      rw [h0] at c
      rcases c with c | c | c <;> revert c <;> decide
    exact ⟨k, hk, b, c⟩)
  exact ⟨q.new (Or.inr (Or.inr (Or.inr (Or.inr rfl)))) (fun z => by rcases z with z | z <;> exact absurd z (by decide)) (fun z => absurd z (by decide)) (fun x hx => upd_lt vl _ hx), (h2.pop).mono (by omega), by omega, by omega⟩
theorem S_cl1 (h : SIr false n d (o + 1) kd vl hd tl fi la st) (h0 : st o = 1) (hn : n < 200) : SIr true (n + 1) d o (upd kd n 5) (upd vl n 0) (upd hd n (-1)) (upd (upd tl n (-1)) (cl (la o)) (nI n)) fi la st := by
  obtain ⟨h1, h2, h3, h4⟩ := h
  have hs : ¬ st o = 0 := by rw [h0]; decide
  obtain ⟨l1, l2, -⟩ := top_l h2 hs
  have q := h1.mono (qH := hpd true o la st) (qT := fun x => tpd o la st x ∨ x = cl (la o)) (fun x hx ⟨k, a, b, c⟩ => by
    have hk : k < o := by
      apply Nat.lt_of_le_of_ne (by omega)
      intro e
      subst e
      rw [h0] at c
      rcases c with c | ⟨-, c | c⟩
      · revert c; decide
      · omega
      · cases c
    exact ⟨k, hk, b, c.imp id (fun z => ⟨z.1, Or.inr rfl⟩)⟩) (fun x hx ⟨k, a, b, c⟩ => by
    by_cases e : k = o
    · subst e
      exact Or.inr (l_eq l1 b (by omega))
    · exact Or.inl ⟨k, by omega, b, c⟩)
  have q2 := q.new (k := 5) (a := -1) (b := -1) (vl' := upd vl n 0) (Or.inr (Or.inr (Or.inr (Or.inr rfl)))) (fun z => by rcases z with z | z <;> exact absurd z (by decide)) (fun z => absurd z (by decide)) (fun x hx => upd_lt vl _ hx)
  have q3 := q2.tail (l := cl (la o)) (w := nI n) ⟨n, rfl, l2, by omega⟩
  exact ⟨q3.mono (fun _ _ z => z) (fun x _ z => z.1.resolve_right z.2), (h2.pop).mono (by omega), by omega, by omega⟩
theorem S_cl3 (h : SIr false n d (o + 1) kd vl hd tl fi la st) (h0 : st o = 3) : SIr true n d o kd vl hd tl fi la st := by
  obtain ⟨h1, h2, h3, h4⟩ := h
  refine ⟨h1.mono (fun x hx ⟨k, a, b, c⟩ => ?_) (fun x hx ⟨k, a, b, c⟩ => ?_), h2.pop, h3, h4⟩
  · have hk : k < o := by
      apply Nat.lt_of_le_of_ne (by omega)
      intro e
      subst e
      rw [h0] at c
      rcases c with c | ⟨c, -⟩ <;> revert c <;> decide
    exact ⟨k, hk, b, c.imp id (fun z => ⟨z.1, Or.inr rfl⟩)⟩
  · have hk : k < o := by
      apply Nat.lt_of_le_of_ne (by omega)
      intro e
      subst e
      rw [h0] at c
      rcases c with c | c | c <;> revert c <;> decide
    exact ⟨k, hk, b, c⟩
theorem S_pt (h : SIr false n d (o + 1) kd vl hd tl fi la st) (h0 : st o = 1) : SIr false n d (o + 1) kd vl hd tl fi la (upd st o 2) := by
  obtain ⟨h1, h2, h3, h4⟩ := h
  have hs : ¬ st o = 0 := by rw [h0]; decide
  refine ⟨h1.mono (fun x hx ⟨k, a, b, c⟩ => ?_) (fun x hx ⟨k, a, b, c⟩ => ?_), h2.st hs (Or.inl rfl), h3, h4⟩
  · have hk : k < o := by
      apply Nat.lt_of_le_of_ne (by omega)
      intro e
      subst e
      rw [h0] at c
      rcases c with c | ⟨-, c | c⟩
      · revert c; decide
      · omega
      · cases c
    refine ⟨k, a, b, ?_⟩
    rw [upd_lt st _ hk]
    exact c
  · by_cases e : k = o
    · subst e
      exact ⟨k, a, b, Or.inr (Or.inl (upd_eq _ _ _))⟩
    · refine ⟨k, a, b, ?_⟩
      rw [upd_lt st _ (by omega)]
      exact c
theorem S_data (h : SIr true n d 0 kd vl hd tl fi la st) (hd1 : d + 1 ≤ n) : SIr false n (d + 1) 0 kd vl hd tl fi la st := by
  obtain ⟨h1, h2, h3, h4⟩ := h
  exact ⟨h1.mono (fun x hx ⟨k, a, b, c⟩ => by omega) (fun x _ z => z), fun k hk => by omega, hd1, h4⟩
theorem S_tree (h : SIr bg n d 0 kd vl hd tl fi la st) : ∀ x, x < n → K5 (kd x) ∧ (kd x = 2 ∨ kd x = 3 → ∃ v, v ≤ 20 ∧ vl x = nI v) ∧ (kd x = 4 → HOK n (hd x) x ∧ HOK n (tl x) x) := fun x hx => by
  obtain ⟨a, b, c⟩ := h.1 x hx
  refine ⟨a, b, fun q => ⟨(c q).1.resolve_right (fun ⟨k, z, _⟩ => by omega), (c q).2.resolve_right (fun ⟨k, z, _⟩ => by omega)⟩⟩
end SIR
