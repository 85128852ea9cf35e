section
/-! THE DESK: what its methods leave alone -/
def fr (M N : aM) : Prop := ∀ i, 16 ≤ i → N i = M i
theorem fr.rf (M : aM) : fr M M := fun _ _ => rfl
theorem fr.tr {M N P : aM} (h1 : fr M N) (h2 : fr N P) : fr M P := fun i hi => (h2 i hi).trans (h1 i hi)
theorem fr.up {M N : aM} (h : fr M N) {c j : Nat} {x : Int32} (hc : c < 16) : fr M (am_up N c j x) := fun i hi => by
  rw [am_up_ne (by omega)]
  exact h i hi
theorem fr_clr (M : aM) : fr M (clrM M) := ((((fr.rf M).up (by decide)).up (by decide)).up (by decide))
theorem fr_add (M : aM) (k : Int32) : fr M (n_add M k).2 := by
  unfold n_add
  split
  · exact fr.rf M
  split
  · exact ((((((fr.rf M).up (by decide)).up (by decide)).up (by decide)).up (by decide)).up (by decide)).up (by decide)
  · exact fr.rf M
theorem fr_flt (M : aM) : fr M (r_fltM M) := (fr.rf M).up (by decide)
theorem fr_radd (M : aM) (k : Int32) : fr M (r_add M k).2 := by
  unfold r_add
  split
  · exact (fr_add M k).tr (fr_flt _)
  · exact fr_add M k
theorem fr_nx (M : aM) : fr M (r_nx M) := (fr.rf M).up (by decide)
theorem fr_set {c : Nat} (hc : c < 16) (M : aM) (x v : Int32) : fr M (n_set c M x v) := by
  unfold n_set
  split
  · exact (fr.rf M).up hc
  · exact fr.rf M
theorem fr_ltr (M : aM) (x b : Int32) : fr M (n_ltr M x b) := by
  unfold n_ltr
  split
  · split
    · exact fr.rf M
    split
    · exact (((fr.rf M).up (by decide)).up (by decide)).up (by decide)
    · exact fr.rf M
  · exact fr.rf M
theorem fr_addD (M : aM) (x : Int32) : fr M (n_addD M x) := by
  unfold n_addD
  split
  · exact fr.rf M
  split
  · exact ((fr.rf M).up (by decide)).up (by decide)
  · exact fr.rf M
theorem fr_nmL (nd e : Int32) : ∀ (k : Nat) (i : Int32) (M : aM), fr M (nmL nd e k i M)
  | 0, _, M => fr.rf M
  | k + 1, i, M => by
    unfold nmL
    split
    · exact (fr_ltr _ _ _).tr (fr_nmL nd e k _ _)
    · exact fr.rf M
theorem fr_stL (nd e : Int32) : ∀ (k : Nat) (i : Int32) (M : aM), fr M (stL nd e k i M)
  | 0, _, M => fr.rf M
  | k + 1, i, M => by
    unfold stL
    split
    · split
      · exact (fr_ltr _ _ _).tr (fr_stL nd e k _ _)
      · exact (fr_ltr _ _ _).tr (fr_stL nd e k _ _)
    · exact fr.rf M
theorem fr_num (M : aM) : fr M (r_num M).2 := (fr_radd M 1).tr (fr_set (by decide) _ _ _)
theorem fr_name (M : aM) : fr M (r_name M).2 := (fr_radd M 2).tr (fr_nmL _ _ _ _ _)
theorem fr_str (M : aM) : fr M (r_str M).2 := (fr_radd M 3).tr (fr_stL _ _ _ _ _)
theorem fr_qM (a b c : Int32) (M : aM) : fr M (q_M a b c M) := by
  unfold q_M
  have h : fr M (if hasN M b = true then nqM M b else M) := by
    split
    · exact ((fr.rf M).up (by decide)).up (by decide)
    · exact fr.rf M
  exact ((h.tr (fr_set (by decide) _ _ _)).tr (fr_set (by decide) _ _ _)).tr (fr_nx _)
theorem fr_qA (a b : Int32) (M : aM) (q : Int32) : fr M (q_A a b M q).2 := by
  unfold q_A
  have h1 := fr_set (c := 7) (by decide) M b q
  generalize n_set 7 M b q = N at h1 ⊢
  have h2 := fr_radd N 5
  generalize r_add N 5 = P at h2 ⊢
  exact (h1.tr h2).tr (fr_set (by decide) _ _ _)
theorem fr_qB {f : aM → Int32 × aM} (hf : ∀ M, fr M (f M).2) (a b c : Int32) (M : aM) : fr M (q_B f a b c M).2 := by
  unfold q_B
  have h1 := fr_qM a b c M
  generalize q_M a b c M = N at h1 ⊢
  have h2 := hf N
  generalize f N = P at h2 ⊢
  by_cases q : P.1 = -1
  · rw [if_pos q]; exact h1.tr h2
  · rw [if_neg q]; exact (h1.tr h2).tr (fr_qA _ _ _ _)
theorem fr_quo {f : aM → Int32 × aM} (hf : ∀ M, fr M (f M).2) (M : aM) : fr M (r_quo f M).2 := by
  unfold r_quo
  have h1 := fr_radd M 4
  generalize r_add M 4 = p1 at h1 ⊢
  have h2 := fr_radd p1.2 2
  generalize r_add p1.2 2 = p2 at h2 ⊢
  have h3 := fr_radd p2.2 4
  generalize r_add p2.2 4 = p3 at h3 ⊢
  by_cases q : p3.1 = -1
  · rw [if_pos q]; exact (h1.tr h2).tr h3
  · rw [if_neg q]; exact ((h1.tr h2).tr h3).tr (fr_qB hf _ _ _ _)
theorem fr_dot {f : aM → Int32 × aM} (hf : ∀ M, fr M (f M).2) (M : aM) : fr M (r_dot f M).2 := by
  have h1 := (fr_nx M).tr (hf (r_nx M))
  unfold r_dot
  split
  · exact h1
  split
  · exact h1.tr (fr_nx _)
  · exact (h1.tr (fr_nx _)).tr (fr_flt _)
theorem fr_lE {M : aM} {p : Int32 × aM} {a b : Int32} (h : fr M p.2) : fr M (r_lE p a b).2 := h.tr (fr_set (by decide) _ _ _)
theorem fr_ll {f : aM → Int32 × aM} (hf : ∀ M, fr M (f M).2) (first : Int32) : ∀ (r : Nat) (last : Int32) (M : aM), fr M (r_ll f first r last M).2
  | 0, _, M => fr.rf M
  | r + 1, last, M => by
    have hh : fr M (r_hd f last M) := ((hf M).tr (fr_set (by decide) _ _ _)).tr (fr_nx _)
    unfold r_ll
    split
    · exact fr.rf M
    split
    · exact hf M
    split
    · exact fr_lE (hh.tr (fr_radd _ 5))
    split
    · exact fr_lE (hh.tr (fr_dot hf _))
    · exact ((hh.tr (fr_radd _ 4)).tr (fr_set (by decide) _ _ _)).tr (fr_ll hf first r _ _)
theorem fr_lst {f : aM → Int32 × aM} (hf : ∀ M, fr M (f M).2) (M : aM) : fr M (r_lst f M).2 := by
  unfold r_lst
  split
  · exact (fr_nx M).tr (fr_radd _ 5)
  · exact ((fr_radd M 4).tr (fr_nx _)).tr (fr_ll hf _ _ _ _)
theorem fr_rdD : ∀ (j : Nat) (M : aM), fr M (rdD j M).2
  | 0, M => by
    unfold rdD
    split
    · exact fr_num M
    split
    · exact fr_name M
    split
    · exact fr_str M
    · exact fr_flt M
  | j + 1, M => by
    unfold rdD
    split
    · exact fr_num M
    split
    · exact fr_name M
    split
    · exact fr_str M
    split
    · exact fr_lst (fr_rdD j) M
    split
    · exact fr_quo (fr_rdD j) M
    · exact fr_flt M
theorem fr_scan (M0 : aM) : ∀ (k i pos : Nat) (M : aM), fr M (scanM M0 k i pos M)
  | 0, _, _, M => fr.rf M
  | k + 1, i, pos, M => by
    have h : fr M (sc_put M0 M i pos) := (((((fr.rf M).up (by decide)).up (by decide)).up (by decide)).up (by decide))
    unfold scanM
    split
    · exact h
    split
    · exact h
    · exact h.tr (fr_scan M0 k _ _ _)
theorem fr_rdL : ∀ (r : Nat) (M : aM), fr M (rdL r M)
  | 0, M => fr.rf M
  | r + 1, M => by
    unfold rdL
    split
    · exact fr.rf M
    split
    · exact (fr_rdD 15 M).tr (fr_clr _)
    · exact (((fr_rdD 15 M).tr (fr_addD _ _)).tr (fr_nx _)).tr (fr_rdL r _)
theorem fr_rdT (M : aM) : fr M (rdT M) := by
  unfold rdT
  refine fr.tr ?_ (fr_rdL 401 _)
  unfold rd0
  exact (((((fr_clr M).up (by decide)).tr (fr_scan _ _ _ _ _)).up (by decide)).up (by decide))
theorem fr_read (M : aM) : fr M (am_up (rdT M) 1 1 0) := (fr_rdT M).up (by decide)
def fr9 (M N : aM) : Prop := ∀ i, ¬ i = 16 → ¬ i = 17 → N i = M i
theorem fr9_say (M : aM) (b : Int32) : fr9 M (sayM M b) := fun i h1 h2 => by
  unfold sayM
  split
  · rfl
  · rw [am_up_ne h1, am_up_ne h2]
theorem fr9_says : ∀ (bs : List Int32) (M : aM), fr9 M (saysM M bs)
  | [], M => fun _ _ _ => rfl
  | b :: bs, M => fun i h1 h2 => by
    rw [saysM_cons, fr9_says bs (sayM M b) i h1 h2]
    exact fr9_say M b i h1 h2
theorem fr9_tak (M : aM) : fr9 M (takM M) := fun i h1 _ => by
  unfold takM
  rw [am_up_ne h1, am_up_ne h1]
theorem fr9_ft (n : Nat) : ∀ (r k : Nat) (v : Int64) (M : aM), n ≤ ww M + k → wt_ok M → fr9 M (d_ft n r k v M).2 ∧ wt_ok (d_ft n r k v M).2
  | 0, _, _, M, _, h => ⟨fun _ _ _ => rfl, h⟩
  | r + 1, k, v, M, hn, h => by
    unfold d_ft
    split
    · have q := fr9_ft n r (k + 1) (sh8 v ||| (M 17 (wf M)).toInt64) (takM M) (by rw [takM_ww h]; omega) (takM_ok h)
      exact ⟨fun i h1 h2 => (q.1 i h1 h2).trans (fr9_tak M i h1 h2), q.2⟩
    · exact fr9_ft n r (k + 1) _ M (by omega) h
theorem fr_put (v : Int64) : ∀ (k : Nat) (M : aM), (∀ i, 3 ≤ i → d_putL v k M i = M i) ∧ (tl M + k ≤ 400 → tx_ok M → tx_ok (d_putL v k M) ∧ tl (d_putL v k M) = tl M + k)
  | 0, M => ⟨fun _ _ => rfl, fun _ h => ⟨h, rfl⟩⟩
  | k + 1, M => by
    have q := fr_put v k (apd M (pb v k))
    unfold d_putL
    refine ⟨fun i hi => ?_, fun h1 h2 => ?_⟩
    · rw [q.1 i hi]
      unfold apd
      rw [am_up_ne (by omega), am_up_ne (by omega)]
    · have e := apd_tl (M := M) (b := pb v k) (by omega)
      have := q.2 (by rw [e]; omega) (apd_ok (by omega))
      refine ⟨this.1, ?_⟩
      rw [this.2, e]
      omega
theorem fm_put (v : Int64) : ∀ (k : Nat) (M : aM), (∀ i, ¬ i = 19 → ¬ i = 20 → m_putL v k M i = M i) ∧ (∀ j, ¬ j = 1 → m_putL v k M 19 j = M 19 j) ∧ (m_tl M + k ≤ 400 → mt_ok M → tb_ok M → mt_ok (m_putL v k M) ∧ tb_ok (m_putL v k M) ∧ m_tl (m_putL v k M) = m_tl M + k)
  | 0, M => ⟨fun _ _ _ => rfl, fun _ _ => rfl, fun _ h hb => ⟨h, hb, rfl⟩⟩
  | k + 1, M => by
    have q := fm_put v k (m_apd M (mpb v k))
    unfold m_putL
    refine ⟨fun i h1 h2 => ?_, fun j h1 => ?_, fun h1 h2 h3 => ?_⟩
    · rw [q.1 i h1 h2]
      unfold m_apd
      rw [am_up_ne h1, am_up_ne h2]
    · rw [q.2.1 j h1]
      unfold m_apd
      simp only [am_up_ap, h1, ↓reduceIte, Nat.reduceEqDiff]
    · have e := m_apd_tl (M := M) (b := mpb v k) (by omega)
      have hb : tb_ok (m_apd M (mpb v k)) := by
        intro i hi
        rw [e] at hi
        have e20 : m_apd M (mpb v k) 20 i = if i = m_tl M then mpb v k else M 20 i := by
          unfold m_apd
          simp only [am_up_ap, ↓reduceIte, Nat.reduceEqDiff]
        rw [e20]
        split
        · unfold mpb
          generalize (v >>> ((8 * nI k).toInt64 &&& 63)).toInt32 = z
          intro hlt
          have h5 := Int32.lt_iff_toInt_lt.mp hlt
          have h6 : (0 : Int) ≤ (z &&& 255).toInt := by
            rw [← Int32.toInt_toBitVec, Int32.toBitVec_and]
            rw [BitVec.toInt_eq_toNat_of_msb]
            · exact Int.natCast_nonneg _
            · rw [BitVec.msb_and]
              have : (255 : Int32).toBitVec.msb = false := by decide
              rw [this, Bool.and_false]
          have h7 : (0 : Int32).toInt = 0 := by decide
          omega
        · exact h3 i (by omega)
      have := q.2.2 (by rw [e]; omega) (m_apd_ok (by omega)) hb
      refine ⟨this.1, this.2.1, ?_⟩
      rw [this.2.2, e]
      omega
end
section
/-! TREES BEING MADE: pure -/
def HOK (n : Nat) (w : Int32) (x : Nat) : Prop := ∃ h, w = nI h ∧ x < h ∧ h < n
theorem HOK.mono {n n' x : Nat} {w : Int32} (h : HOK n w x) (hn : n ≤ n') : HOK n' w x := by
  obtain ⟨a, b, c, d⟩ := h
  exact ⟨a, b, c, by omega⟩
def K5 (k : Int32) : Prop := k = 1 ∨ k = 2 ∨ k = 3 ∨ k = 4 ∨ k = 5
def nodeI (n : Nat) (kd vl hd tl : Nat → Int32) (pH pT : Nat → Prop) : Prop := ∀ x, x < n → K5 (kd x) ∧ (kd x = 2 ∨ kd x = 3 → ∃ v, v ≤ 20 ∧ vl x = nI v) ∧ (kd x = 4 → (HOK n (hd x) x ∨ pH x) ∧ (HOK n (tl x) x ∨ pT x))
theorem nodeI.mono {n : Nat} {kd vl hd tl : Nat → Int32} {pH pT qH qT : Nat → Prop} (h : nodeI n kd vl hd tl pH pT) (h1 : ∀ x, x < n → pH x → qH x) (h2 : ∀ x, x < n → pT x → qT x) : nodeI n kd vl hd tl qH qT := fun x hx => by
  obtain ⟨a, b, c⟩ := h x hx
  exact ⟨a, b, fun q => ⟨(c q).1.imp id (h1 x hx), (c q).2.imp id (h2 x hx)⟩⟩
theorem nodeI.new {n : Nat} {kd vl vl' hd tl : Nat → Int32} {pH pT : Nat → Prop} {k a b : Int32} (h : nodeI n kd vl hd tl pH pT) (hk : K5 k) (hv : k = 2 ∨ k = 3 → ∃ v, v ≤ 20 ∧ vl' n = nI v) (hp : k = 4 → (HOK (n + 1) a n ∨ pH n) ∧ (HOK (n + 1) b n ∨ pT n)) (hvl : ∀ x, x < n → vl' x = vl x) : nodeI (n + 1) (upd kd n k) vl' (upd hd n a) (upd tl n b) pH pT := fun x hx => by
  by_cases c : x = n
  · subst c
    simp only [upd, ↓reduceIte]
    exact ⟨hk, hv, hp⟩
  · obtain ⟨p, q, r⟩ := h x (by omega)
    simp only [upd, c, ↓reduceIte]
    rw [hvl x (by omega)]
    exact ⟨p, q, fun z => ⟨(r z).1.imp (fun w => w.mono (by omega)) id, (r z).2.imp (fun w => w.mono (by omega)) id⟩⟩
theorem nodeI.head {n l : Nat} {kd vl hd tl : Nat → Int32} {pH pT : Nat → Prop} {w : Int32} (h : nodeI n kd vl hd tl pH pT) (hw : HOK n w l) : nodeI n kd vl (upd hd l w) tl (fun x => pH x ∧ ¬ x = l) pT := fun x hx => by
  obtain ⟨a, b, c⟩ := h x hx
  refine ⟨a, b, fun q => ⟨?_, (c q).2⟩⟩
  by_cases e : x = l
  · subst e
    left
    simp only [upd, ↓reduceIte]
    exact hw
  · simp only [upd, e, ↓reduceIte]
    exact (c q).1.imp id (fun z => ⟨z, fun y => y.elim⟩)
theorem nodeI.tail {n l : Nat} {kd vl hd tl : Nat → Int32} {pH pT : Nat → Prop} {w : Int32} (h : nodeI n kd vl hd tl pH pT) (hw : HOK n w l) : nodeI n kd vl hd (upd tl l w) pH (fun x => pT x ∧ ¬ x = l) := fun x hx => by
  obtain ⟨a, b, c⟩ := h x hx
  refine ⟨a, b, fun q => ⟨(c q).1, ?_⟩⟩
  by_cases e : x = l
  · subst e
    left
    simp only [upd, ↓reduceIte]
    exact hw
  · simp only [upd, e, ↓reduceIte]
    exact (c q).2.imp id (fun z => ⟨z, fun y => y.elim⟩)
/-- a frame that has nodes -/
def frN (n d k : Nat) (fi la : Nat → Int32) : Prop := fi k = nI (cl (fi k)) ∧ la k = nI (cl (la k)) ∧ cl (fi k) ≤ cl (la k) ∧ cl (la k) < n ∧ (k = 0 → d ≤ cl (fi k)) ∧ (0 < k → cl (la (k - 1)) < cl (fi k))
def frI (bg : Bool) (n d o : Nat) (fi la st : Nat → Int32) : Prop := ∀ k, k < o → (st k = 0 ∧ k + 1 = o ∧ bg = false) ∨ ((st k = 1 ∨ st k = 2 ∨ st k = 4 ∨ (st k = 3 ∧ k + 1 = o ∧ bg = false)) ∧ frN n d k fi la)
theorem frN.mono {n n' d k : Nat} {fi la : Nat → Int32} (h : frN n d k fi la) (hn : n ≤ n') : frN n' d k fi la := by
  obtain ⟨a, b, c, e, f, g⟩ := h
  exact ⟨a, b, c, by omega, f, g⟩
theorem frN.off {n d k o : Nat} {fi la : Nat → Int32} {x y : Int32} (h : frN n d k fi la) (hk : k < o) : frN n d k (upd fi o x) (upd la o y) := by
  have e1 : upd fi o x k = fi k := by simp only [upd]; rw [if_neg (by omega)]
  have e2 : upd la o y k = la k := by simp only [upd]; rw [if_neg (by omega)]
  have e3 : upd la o y (k - 1) = la (k - 1) := by simp only [upd]; rw [if_neg (by omega)]
  unfold frN
  rw [e1, e2, e3]
  exact h
theorem frN.offl {n d k o : Nat} {fi la : Nat → Int32} {y : Int32} (h : frN n d k fi la) (hk : k < o) : frN n d k fi (upd la o y) := by
  have e2 : upd la o y k = la k := by simp only [upd]; rw [if_neg (by omega)]
  have e3 : upd la o y (k - 1) = la (k - 1) := by simp only [upd]; rw [if_neg (by omega)]
  unfold frN
  rw [e2, e3]
  exact h
theorem frI.mono {bg : Bool} {n n' d o : Nat} {fi la st : Nat → Int32} (h : frI bg n d o fi la st) (hn : n ≤ n') : frI bg n' d o fi la st := fun k hk => (h k hk).imp id (fun z => ⟨z.1, z.2.mono hn⟩)
/-- the frames below the top -/
theorem frI.low {bg : Bool} {n d o : Nat} {fi la st : Nat → Int32} (h : frI bg n d (o + 1) fi la st) {k : Nat} (hk : k < o) : (st k = 1 ∨ st k = 2 ∨ st k = 4) ∧ frN n d k fi la := by
  rcases h k (by omega) with ⟨a, b, c⟩ | ⟨a, b⟩
  · omega
  · refine ⟨?_, b⟩
    rcases a with q | q | q | ⟨q, r, s⟩
    · exact Or.inl q
    · exact Or.inr (Or.inl q)
    · exact Or.inr (Or.inr q)
    · omega
theorem frI.pop {bg : Bool} {n d o : Nat} {fi la st : Nat → Int32} (h : frI bg n d (o + 1) fi la st) : frI true n d o fi la st := fun k hk => by
  obtain ⟨a, b⟩ := h.low hk
  refine Or.inr ⟨?_, b⟩
  rcases a with q | q | q
  · exact Or.inl q
  · exact Or.inr (Or.inl q)
  · exact Or.inr (Or.inr (Or.inl q))
theorem frI.all {n d o : Nat} {fi la st : Nat → Int32} (h : frI true n d o fi la st) {k : Nat} (hk : k < o) : (st k = 1 ∨ st k = 2 ∨ st k = 4) ∧ frN n d k fi la := by
  rcases h k hk with ⟨a, b, c⟩ | ⟨a, b⟩
  · cases c
  · refine ⟨?_, b⟩
    rcases a with q | q | q | ⟨q, r, s⟩
    · exact Or.inl q
    · exact Or.inr (Or.inl q)
    · exact Or.inr (Or.inr q)
    · cases s
theorem frI.of {bg : Bool} {n d o : Nat} {fi la st : Nat → Int32} (h : ∀ k, k < o → (st k = 1 ∨ st k = 2 ∨ st k = 4) ∧ frN n d k fi la) : frI bg n d o fi la st := fun k hk => by
  obtain ⟨a, b⟩ := h k hk
  refine Or.inr ⟨?_, b⟩
  rcases a with q | q | q
  · exact Or.inl q
  · exact Or.inr (Or.inl q)
  · exact Or.inr (Or.inr (Or.inl q))
theorem frI.unbg {n d o : Nat} {fi la st : Nat → Int32} (h : frI true n d o fi la st) : frI false n d o fi la st := frI.of (fun _ hk => h.all hk)
theorem upd_lt (f : Nat → Int32) {o k : Nat} (x : Int32) (h : k < o) : upd f o x k = f k := by
  simp only [upd]
  rw [if_neg (by omega)]
theorem upd_eq (f : Nat → Int32) (o : Nat) (x : Int32) : upd f o x o = x := by simp only [upd, ↓reduceIte]
/-- a new pair at the top -/
theorem frI.top {bg : Bool} {n d o : Nat} {fi la st : Nat → Int32} (h : frI bg n d (o + 1) fi la st) (hn : n < 200) (hd : d ≤ n) (h0 : st o = 0) : frI true (n + 1) d (o + 1) (upd fi o (nI n)) (upd la o (nI n)) (upd st o 1) := by
  apply frI.of
  intro k hk
  by_cases c : k = o
  · subst c
    refine ⟨Or.inl (upd_eq _ _ _), ?_⟩
    unfold frN
    rw [upd_eq, upd_eq, show cl (nI n) = n from nI_clamp (by omega)]
    refine ⟨rfl, rfl, Nat.le_refl n, by omega, fun _ => hd, fun hk0 => ?_⟩
    rw [upd_lt la _ (by omega)]
    have := (h.low (k := k - 1) (by omega)).2.2.2.2.1
    exact this
  · obtain ⟨a, b⟩ := h.low (k := k) (by omega)
    rw [upd_lt st _ (by omega)]
    exact ⟨a, (b.mono (by omega)).off (by omega)⟩
theorem frI.top1 {bg : Bool} {n d o : Nat} {fi la st : Nat → Int32} (h : frI bg n d (o + 1) fi la st) (hn : n < 200) (h0 : ¬ st o = 0) : frI true (n + 1) d (o + 1) fi (upd la o (nI n)) (upd st o 1) := by
  apply frI.of
  intro k hk
  by_cases c : k = o
  · subst c
    refine ⟨Or.inl (upd_eq _ _ _), ?_⟩
    rcases h k (by omega) with ⟨a, -, -⟩ | ⟨-, a1, a2, a3, a4, a5, a6⟩
    · exact absurd a h0
    · unfold frN
      rw [upd_eq, show cl (nI n) = n from nI_clamp (by omega)]
      refine ⟨a1, rfl, by omega, by omega, a5, fun hk0 => ?_⟩
      rw [upd_lt la _ (by omega)]
      exact a6 hk0
  · obtain ⟨a, b⟩ := h.low (k := k) (by omega)
    rw [upd_lt st _ (by omega)]
    exact ⟨a, (b.mono (by omega)).offl (by omega)⟩
theorem frI.st {bg : Bool} {n d o : Nat} {fi la st : Nat → Int32} {s : Int32} (h : frI bg n d (o + 1) fi la st) (h0 : ¬ st o = 0) (hs : s = 2 ∨ s = 3) : frI false n d (o + 1) fi la (upd st o s) := fun k hk => by
  by_cases c : k = o
  · subst c
    rcases h k (by omega) with ⟨a, -, -⟩ | ⟨-, a⟩
    · exact absurd a h0
    · rw [upd_eq]
      refine Or.inr ⟨?_, a⟩
      rcases hs with q | q
      · exact Or.inr (Or.inl q)
      · exact Or.inr (Or.inr (Or.inr ⟨q, rfl, rfl⟩))
  · obtain ⟨a, b⟩ := h.low (k := k) (by omega)
    rw [upd_lt st _ (by omega)]
    refine Or.inr ⟨?_, b⟩
    rcases a with q | q | q
    · exact Or.inl q
    · exact Or.inr (Or.inl q)
    · exact Or.inr (Or.inr (Or.inl q))
theorem frI.push {n d o : Nat} {fi la st : Nat → Int32} (h : frI true n d o fi la st) : frI false n d (o + 1) fi la (upd st o 0) := fun k hk => by
  by_cases c : k = o
  · subst c
    exact Or.inl ⟨upd_eq _ _ _, rfl, rfl⟩
  · obtain ⟨a, b⟩ := h.all (k := k) (by omega)
    rw [upd_lt st _ (by omega)]
    refine Or.inr ⟨?_, b⟩
    rcases a with q | q | q
    · exact Or.inl q
    · exact Or.inr (Or.inl q)
    · exact Or.inr (Or.inr (Or.inl q))
theorem frI.pushQ {n d o : Nat} {fi la st : Nat → Int32} (h : frI true n d o fi la st) (hn : n + 3 ≤ 200) (hd : d ≤ n) : frI false (n + 3) d (o + 1) (upd fi o (nI n)) (upd la o (nI (n + 2))) (upd st o 4) := by
  apply frI.of
  intro k hk
  by_cases c : k = o
  · subst c
    refine ⟨Or.inr (Or.inr (upd_eq _ _ _)), ?_⟩
    unfold frN
    rw [upd_eq, upd_eq, show cl (nI n) = n from nI_clamp (by omega), show cl (nI (n + 2)) = n + 2 from nI_clamp (by omega)]
    refine ⟨rfl, rfl, by omega, by omega, fun _ => hd, fun hk0 => ?_⟩
    rw [upd_lt la _ (by omega)]
    exact (h.all (k := k - 1) (by omega)).2.2.2.2.1
  · obtain ⟨a, b⟩ := h.all (k := k) (by omega)
    rw [upd_lt st _ (by omega)]
    exact ⟨a, (b.mono (by omega)).off (by omega)⟩
end
section
/-! THE STATE OF READING, pure -/
def hpd (bg : Bool) (o : Nat) (la st : Nat → Int32) (x : Nat) : Prop := ∃ k, k < o ∧ la k = nI x ∧ (st k = 4 ∨ (st k = 1 ∧ (k + 1 < o ∨ bg = true)))
def tpd (o : Nat) (la st : Nat → Int32) (x : Nat) : Prop := ∃ k, k < o ∧ la k = nI x ∧ (st k = 1 ∨ st k = 2 ∨ st k = 4)
def SIr (bg : Bool) (n d o : Nat) (kd vl hd tl fi la st : Nat → Int32) : Prop := nodeI n kd vl hd tl (hpd bg o la st) (tpd o la st) ∧ frI bg n d o fi la st ∧ d ≤ n ∧ n ≤ 200
theorem nodeI.vl {n : Nat} {kd vl vl' hd tl : Nat → Int32} {pH pT : Nat → Prop} (h : nodeI n kd vl hd tl pH pT) (hv : ∀ x, x < n → vl' x = vl x) : nodeI n kd vl' hd tl pH pT := fun x hx => by
  obtain ⟨a, b, c⟩ := h x hx
  rw [← hv x hx] at b
  exact ⟨a, b, c⟩
section SIR
variable {bg : Bool} {n d o m : Nat} {kd vl hd tl fi la st : Nat → Int32}
theorem top_l (h : frI bg n d (o + 1) fi la st) (h0 : ¬ st o = 0) : la o = nI (cl (la o)) ∧ cl (la o) < n ∧ fi o = nI (cl (fi o)) ∧ cl (fi o) ≤ cl (la o) ∧ (o = 0 → d ≤ cl (fi o)) ∧ (0 < o → cl (la (o - 1)) < cl (fi o)) := by
  rcases h o (by omega) with ⟨a, -, -⟩ | ⟨-, a1, a2, a3, a4, a5, a6⟩
  · exact absurd a h0
  · exact ⟨a2, a4, a1, a3, a5, a6⟩
theorem l_eq {x : Nat} (h1 : la o = nI (cl (la o))) (h2 : la o = nI x) (hx : x < 200) : x = cl (la o) := by
  rw [h2, show cl (nI x) = x from nI_clamp (by omega)]
theorem S_beg0 (h : SIr false n d (o + 1) kd vl hd tl fi la st) (h0 : st o = 0) (hn : n < 200) : SIr true (n + 1) d (o + 1) (upd kd n 4) (upd vl n 0) (upd hd n (-1)) (upd tl n (-1)) (upd fi o (nI n)) (upd la o (nI n)) (upd st o 1) := by
  obtain ⟨h1, h2, h3, h4⟩ := h
  refine ⟨?_, h2.top hn h3 h0, by omega, by omega⟩
  have q := h1.mono (qH := hpd true (o + 1) (upd la o (nI n)) (upd st o 1)) (qT := tpd (o + 1) (upd la o (nI n)) (upd st o 1)) (fun x hx ⟨k, a, b, c⟩ => by
    have hk : k < o := by
      apply Nat.lt_of_le_of_ne (by omega)
      intro e
      subst e
      rw [h0] at c
      rcases c with c | ⟨c, -⟩ <;> revert c <;> decide
    refine ⟨k, a, by rw [upd_lt la _ hk]; exact b, ?_⟩
    rw [upd_lt st _ hk]
    exact c.imp id (fun z => ⟨z.1, Or.inr rfl⟩)) (fun x hx ⟨k, a, b, c⟩ => by
    have hk : k < o := by
      apply Nat.lt_of_le_of_ne (by omega)
      intro e
      subst e
      rw [h0] at c
      rcases c with c | c | c <;> revert c <;> decide
    refine ⟨k, a, by rw [upd_lt la _ hk]; exact b, ?_⟩
    rw [upd_lt st _ hk]
    exact c)
  exact q.new (Or.inr (Or.inr (Or.inr (Or.inl rfl)))) (fun z => by rcases z with z | z <;> exact absurd z (by decide)) (fun _ => ⟨Or.inr ⟨o, by omega, upd_eq _ _ _, Or.inr ⟨upd_eq _ _ _, Or.inr rfl⟩⟩, Or.inr ⟨o, by omega, upd_eq _ _ _, Or.inl (upd_eq _ _ _)⟩⟩) (fun x hx => upd_lt vl _ hx)
theorem S_beg1 (h : SIr false n d (o + 1) kd vl hd tl fi la st) (h0 : st o = 1) (hn : n < 200) : SIr true (n + 1) d (o + 1) (upd kd n 4) (upd vl n 0) (upd hd n (-1)) (upd (upd tl n (-1)) (cl (la o)) (nI n)) fi (upd la o (nI n)) (upd st o 1) := by
  obtain ⟨h1, h2, h3, h4⟩ := h
  have hs : ¬ st o = 0 := by rw [h0]; decide
  obtain ⟨l1, l2, -⟩ := top_l h2 hs
  refine ⟨?_, h2.top1 hn hs, by omega, by omega⟩
  have q := h1.mono (qH := hpd true (o + 1) (upd la o (nI n)) (upd st o 1)) (qT := fun x => tpd (o + 1) (upd la o (nI n)) (upd st o 1) x ∨ x = cl (la o)) (fun x hx ⟨k, a, b, c⟩ => by
    have hk : k < o := by
      apply Nat.lt_of_le_of_ne (by omega)
      intro e
      subst e
      rw [h0] at c
      rcases c with c | ⟨-, c | c⟩
      · revert c; decide
      · omega
      · cases c
    refine ⟨k, a, by rw [upd_lt la _ hk]; exact b, ?_⟩
    rw [upd_lt st _ hk]
    exact c.imp id (fun z => ⟨z.1, Or.inr rfl⟩)) (fun x hx ⟨k, a, b, c⟩ => by
    by_cases e : k = o
    · subst e
      exact Or.inr (l_eq l1 b (by omega))
    · have hk : k < o := by omega
      refine Or.inl ⟨k, a, by rw [upd_lt la _ hk]; exact b, ?_⟩
      rw [upd_lt st _ hk]
      exact c)
  have q2 := q.new (k := 4) (a := -1) (b := -1) (vl' := upd vl n 0) (Or.inr (Or.inr (Or.inr (Or.inl rfl)))) (fun z => by rcases z with z | z <;> exact absurd z (by decide)) (fun _ => ⟨Or.inr ⟨o, by omega, upd_eq _ _ _, Or.inr ⟨upd_eq _ _ _, Or.inr rfl⟩⟩, Or.inr (Or.inl ⟨o, by omega, upd_eq _ _ _, Or.inl (upd_eq _ _ _)⟩)⟩) (fun x hx => upd_lt vl _ hx)
  have q3 := q2.tail (l := cl (la o)) (w := nI n) ⟨n, rfl, l2, by omega⟩
  exact q3.mono (fun _ _ z => z) (fun x _ z => z.1.resolve_right z.2)
theorem S_begK (h : SIr false n d (o + 1) kd vl hd tl fi la st) (h0 : st o = 2 ∨ st o = 4) : SIr true n d (o + 1) kd vl hd tl fi la st := by
  obtain ⟨h1, h2, h3, h4⟩ := h
  refine ⟨h1.mono (fun x hx ⟨k, a, b, c⟩ => ⟨k, a, b, c.imp id (fun z => ⟨z.1, Or.inr rfl⟩)⟩) (fun x _ z => z), frI.of (fun k hk => ?_), h3, h4⟩
  by_cases e : k = o
  · subst e
    have hs : ¬ st k = 0 := by rcases h0 with q | q <;> rw [q] <;> decide
    rcases h2 k (by omega) with ⟨a, -, -⟩ | ⟨-, a⟩
    · exact absurd a hs
    · exact ⟨h0.elim (fun q => Or.inr (Or.inl q)) (fun q => Or.inr (Or.inr q)), a⟩
  · exact h2.low (by omega)
theorem S_beg00 (h : SIr false n d 0 kd vl hd tl fi la st) : SIr true n d 0 kd vl hd tl fi la st := by
  obtain ⟨h1, h2, h3, h4⟩ := h
  exact ⟨h1.mono (fun x hx ⟨k, a, b, c⟩ => by omega) (fun x _ z => z), fun k hk => by omega, h3, h4⟩
theorem S_new {k a b : Int32} {vl' : Nat → Int32} (h : SIr true n d o kd vl hd tl fi la st) (hk : K5 k) (hk4 : ¬ k = 4) (hv : k = 2 ∨ k = 3 → ∃ v, v ≤ 20 ∧ vl' n = nI v) (hvl : ∀ x, x < n → vl' x = vl x) (hn : n < 200) : SIr true (n + 1) d o (upd kd n k) vl' (upd hd n a) (upd tl n b) fi la st := by
  obtain ⟨h1, h2, h3, h4⟩ := h
  exact ⟨h1.new hk hv (fun z => absurd z hk4) hvl, h2.mono (by omega), by omega, by omega⟩
theorem S_end1 (h : SIr true n d (o + 1) kd vl hd tl fi la st) (h0 : st o = 1) (hm : cl (la o) < m) (hmn : m < n) : SIr false n d (o + 1) kd vl (upd hd (cl (la o)) (nI m)) tl fi la st := by
  obtain ⟨h1, h2, h3, h4⟩ := h
  have hs : ¬ st o = 0 := by rw [h0]; decide
  obtain ⟨l1, l2, -⟩ := top_l h2 hs
  refine ⟨(h1.head (l := cl (la o)) (w := nI m) ⟨m, rfl, hm, hmn⟩).mono (fun x hx ⟨⟨k, a, b, c⟩, e⟩ => ?_) (fun x _ z => z), h2.unbg, h3, h4⟩
  have hk : k < o := by
    apply Nat.lt_of_le_of_ne (by omega)
    intro z
    subst z
    exact e (l_eq l1 b (by omega))
  exact ⟨k, a, b, c.imp id (fun z => ⟨z.1, Or.inl (by omega)⟩)⟩
theorem S_end2 (h : SIr true n d (o + 1) kd vl hd tl fi la st) (h0 : st o = 2) (hm : cl (la o) < m) (hmn : m < n) : SIr false n d (o + 1) kd vl hd (upd tl (cl (la o)) (nI m)) fi la (upd st o 3) := by
  obtain ⟨h1, h2, h3, h4⟩ := h
  have hs : ¬ st o = 0 := by rw [h0]; decide
  obtain ⟨l1, l2, -⟩ := top_l h2 hs
  refine ⟨(h1.tail (l := cl (la o)) (w := nI m) ⟨m, rfl, hm, hmn⟩).mono (fun x hx ⟨k, a, b, c⟩ => ?_) (fun x hx ⟨⟨k, a, b, c⟩, e⟩ => ?_), h2.st hs (Or.inr rfl), h3, h4⟩
  · have hk : k < o := by
      apply Nat.lt_of_le_of_ne (by omega)
      intro z
      subst z
      rw [h0] at c
      rcases c with c | ⟨c, -⟩ <;> revert c <;> decide
    refine ⟨k, a, b, ?_⟩
    rw [upd_lt st _ hk]
    exact c.imp id (fun z => ⟨z.1, Or.inl (by omega)⟩)
  · have hk : k < o := by
      apply Nat.lt_of_le_of_ne (by omega)
      intro z
      subst z
      exact e (l_eq l1 b (by omega))
    refine ⟨k, a, b, ?_⟩
    rw [upd_lt st _ hk]
    exact c
theorem S_end4 (h : SIr true n d (o + 1) kd vl hd tl fi la st) (h0 : st o = 4) (hm : cl (la o) < m) (hmn : m < n) (hn : n < 200) : SIr true (n + 1) d o (upd kd n 5) (upd vl n 0) (upd (upd hd (cl (la o)) (nI m)) n (-1)) (upd (upd tl n (-1)) (cl (la o)) (nI n)) fi la st := by
  obtain ⟨h1, h2, h3, h4⟩ := h
  have hs : ¬ st o = 0 := by rw [h0]; decide
  obtain ⟨l1, l2, -⟩ := top_l h2 hs
  have q1 := h1.head (l := cl (la o)) (w := nI m) ⟨m, rfl, hm, hmn⟩
  have q2 := q1.new (k := 5) (a := -1) (b := -1) (vl' := upd vl n 0) (Or.inr (Or.inr (Or.inr (Or.inr rfl)))) (fun z => by rcases z with z | z <;> exact absurd z (by decide)) (fun z => absurd z (by decide)) (fun x hx => upd_lt vl _ hx)
  have q3 := q2.tail (l := cl (la o)) (w := nI n) ⟨n, rfl, l2, by omega⟩
  have hne : ∀ x, x < n + 1 → la o = nI x → x = cl (la o) := fun x hx b => l_eq l1 b (by omega)
  refine ⟨q3.mono (fun x hx ⟨⟨k, a, b, c⟩, e⟩ => ?_) (fun x hx ⟨⟨k, a, b, c⟩, e⟩ => ?_), (h2.pop).mono (by omega), by omega, by omega⟩
  · have hk : k < o := by
      apply Nat.lt_of_le_of_ne (by omega)
      intro z
      subst z
      exact e (hne x hx b)
    exact ⟨k, hk, b, c.imp id (fun z => ⟨z.1, Or.inr rfl⟩)⟩
  · have hk : k < o := by
      apply Nat.lt_of_le_of_ne (by omega)
      intro z
      subst z
      exact e (hne x hx b)
    exact ⟨k, hk, b, c⟩
theorem S_push (h : SIr true n d o kd vl hd tl fi la st) : SIr false n d (o + 1) kd vl hd tl fi la (upd st o 0) := by
  obtain ⟨h1, h2, h3, h4⟩ := h
  refine ⟨h1.mono (fun x hx ⟨k, a, b, c⟩ => ⟨k, by omega, b, ?_⟩) (fun x hx ⟨k, a, b, c⟩ => ⟨k, by omega, b, ?_⟩), h2.push, h3, h4⟩
  · rw [upd_lt st _ a]
    exact c.imp id (fun z => ⟨z.1, Or.inl (by omega)⟩)
  · rw [upd_lt st _ a]
    exact c
theorem S_pushQ {vl' : Nat → Int32} (h : SIr true n d o kd vl hd tl fi la st) (hn : n + 3 ≤ 200) (hvl : ∀ x, x < n → vl' x = vl x) (hv : vl' (n + 1) = nI 5) : SIr false (n + 3) d (o + 1) (upd (upd (upd kd n 4) (n + 1) 2) (n + 2) 4) vl' (upd (upd (upd (upd hd n (-1)) (n + 1) (-1)) (n + 2) (-1)) n (nI (n + 1))) (upd (upd (upd (upd tl n (-1)) (n + 1) (-1)) (n + 2) (-1)) n (nI (n + 2))) (upd fi o (nI n)) (upd la o (nI (n + 2))) (upd st o 4) := by
  obtain ⟨h1, h2, h3, h4⟩ := h
  refine ⟨?_, h2.pushQ hn h3, by omega, by omega⟩
  have q0 := (h1.vl hvl).mono (qH := fun x => hpd false (o + 1) (upd la o (nI (n + 2))) (upd st o 4) x ∨ x = n) (qT := fun x => tpd (o + 1) (upd la o (nI (n + 2))) (upd st o 4) x ∨ x = n) (fun x hx ⟨k, a, b, c⟩ => by
    refine Or.inl ⟨k, by omega, by rw [upd_lt la _ a]; exact b, ?_⟩
    rw [upd_lt st _ a]
    exact c.imp id (fun z => ⟨z.1, Or.inl (by omega)⟩)) (fun x hx ⟨k, a, b, c⟩ => by
    refine Or.inl ⟨k, by omega, by rw [upd_lt la _ a]; exact b, ?_⟩
    rw [upd_lt st _ a]
    exact c)
  have q1 := q0.new (k := 4) (a := -1) (b := -1) (vl' := vl') (Or.inr (Or.inr (Or.inr (Or.inl rfl)))) (fun z => by rcases z with z | z <;> exact absurd z (by decide)) (fun _ => ⟨Or.inr (Or.inr rfl), Or.inr (Or.inr rfl)⟩) (fun _ _ => rfl)
  have q2 := q1.new (k := 2) (a := -1) (b := -1) (vl' := vl') (Or.inr (Or.inl rfl)) (fun _ => ⟨5, by decide, hv⟩) (fun z => absurd z (by decide)) (fun _ _ => rfl)
  have q3 := q2.new (k := 4) (a := -1) (b := -1) (vl' := vl') (Or.inr (Or.inr (Or.inr (Or.inl rfl)))) (fun z => by rcases z with z | z <;> exact absurd z (by decide)) (fun _ => ⟨Or.inr (Or.inl ⟨o, by omega, upd_eq _ _ _, Or.inl (upd_eq _ _ _)⟩), Or.inr (Or.inl ⟨o, by omega, upd_eq _ _ _, Or.inr (Or.inr (upd_eq _ _ _))⟩)⟩) (fun _ _ => rfl)
  have q4 := q3.head (l := n) (w := nI (n + 1)) ⟨n + 1, rfl, by omega, by omega⟩
  have q5 := q4.tail (l := n) (w := nI (n + 2)) ⟨n + 2, rfl, by omega, by omega⟩
  exact q5.mono (fun x _ z => z.1.resolve_right z.2) (fun x _ z => z.1.resolve_right z.2)
theorem S_cl0 (h : SIr false n d (o + 1) kd vl hd tl fi la st) (h0 : st o = 0) (hn : n < 200) : SIr true (n + 1) d o (upd kd n 5) (upd vl n 0) (upd hd n (-1)) (upd tl n (-1)) fi la st := by
  obtain ⟨h1, h2, h3, h4⟩ := h
  have q := h1.mono (qH := hpd true o la st) (qT := tpd o la st) (fun x hx ⟨k, a, b, c⟩ => by
    have hk : k < o := by
      apply Nat.lt_of_le_of_ne (by omega)
      intro e
      subst e
      rw [h0] at c
      rcases c with c | ⟨c, -⟩ <;> revert c <;> decide
    exact ⟨k, hk, b, c.imp id (fun z => ⟨z.1, Or.inr rfl⟩)⟩) (fun x hx ⟨k, a, b, c⟩ => by
    have hk : k < o := by
      apply Nat.lt_of_le_of_ne (by omega)
      intro e
      subst e
      rw [h0] at c
      rcases c with c | c | c <;> revert c <;> decide
    exact ⟨k, hk, b, c⟩)
  exact ⟨q.new (Or.inr (Or.inr (Or.inr (Or.inr rfl)))) (fun z => by rcases z with z | z <;> exact absurd z (by decide)) (fun z => absurd z (by decide)) (fun x hx => upd_lt vl _ hx), (h2.pop).mono (by omega), by omega, by omega⟩
theorem S_cl1 (h : SIr false n d (o + 1) kd vl hd tl fi la st) (h0 : st o = 1) (hn : n < 200) : SIr true (n + 1) d o (upd kd n 5) (upd vl n 0) (upd hd n (-1)) (upd (upd tl n (-1)) (cl (la o)) (nI n)) fi la st := by
  obtain ⟨h1, h2, h3, h4⟩ := h
  have hs : ¬ st o = 0 := by rw [h0]; decide
  obtain ⟨l1, l2, -⟩ := top_l h2 hs
  have q := h1.mono (qH := hpd true o la st) (qT := fun x => tpd o la st x ∨ x = cl (la o)) (fun x hx ⟨k, a, b, c⟩ => by
    have hk : k < o := by
      apply Nat.lt_of_le_of_ne (by omega)
      intro e
      subst e
      rw [h0] at c
      rcases c with c | ⟨-, c | c⟩
      · revert c; decide
      · omega
      · cases c
    exact ⟨k, hk, b, c.imp id (fun z => ⟨z.1, Or.inr rfl⟩)⟩) (fun x hx ⟨k, a, b, c⟩ => by
    by_cases e : k = o
    · subst e
      exact Or.inr (l_eq l1 b (by omega))
    · exact Or.inl ⟨k, by omega, b, c⟩)
  have q2 := q.new (k := 5) (a := -1) (b := -1) (vl' := upd vl n 0) (Or.inr (Or.inr (Or.inr (Or.inr rfl)))) (fun z => by rcases z with z | z <;> exact absurd z (by decide)) (fun z => absurd z (by decide)) (fun x hx => upd_lt vl _ hx)
  have q3 := q2.tail (l := cl (la o)) (w := nI n) ⟨n, rfl, l2, by omega⟩
  exact ⟨q3.mono (fun _ _ z => z) (fun x _ z => z.1.resolve_right z.2), (h2.pop).mono (by omega), by omega, by omega⟩
theorem S_cl3 (h : SIr false n d (o + 1) kd vl hd tl fi la st) (h0 : st o = 3) : SIr true n d o kd vl hd tl fi la st := by
  obtain ⟨h1, h2, h3, h4⟩ := h
  refine ⟨h1.mono (fun x hx ⟨k, a, b, c⟩ => ?_) (fun x hx ⟨k, a, b, c⟩ => ?_), h2.pop, h3, h4⟩
  · have hk : k < o := by
      apply Nat.lt_of_le_of_ne (by omega)
      intro e
      subst e
      rw [h0] at c
      rcases c with c | ⟨c, -⟩ <;> revert c <;> decide
    exact ⟨k, hk, b, c.imp id (fun z => ⟨z.1, Or.inr rfl⟩)⟩
  · have hk : k < o := by
      apply Nat.lt_of_le_of_ne (by omega)
      intro e
      subst e
      rw [h0] at c
      rcases c with c | c | c <;> revert c <;> decide
    exact ⟨k, hk, b, c⟩
theorem S_pt (h : SIr false n d (o + 1) kd vl hd tl fi la st) (h0 : st o = 1) : SIr false n d (o + 1) kd vl hd tl fi la (upd st o 2) := by
  obtain ⟨h1, h2, h3, h4⟩ := h
  have hs : ¬ st o = 0 := by rw [h0]; decide
  refine ⟨h1.mono (fun x hx ⟨k, a, b, c⟩ => ?_) (fun x hx ⟨k, a, b, c⟩ => ?_), h2.st hs (Or.inl rfl), h3, h4⟩
  · have hk : k < o := by
      apply Nat.lt_of_le_of_ne (by omega)
      intro e
      subst e
      rw [h0] at c
      rcases c with c | ⟨-, c | c⟩
      · revert c; decide
      · omega
      · cases c
    refine ⟨k, a, b, ?_⟩
    rw [upd_lt st _ hk]
    exact c
  · by_cases e : k = o
    · subst e
      exact ⟨k, a, b, Or.inr (Or.inl (upd_eq _ _ _))⟩
    · refine ⟨k, a, b, ?_⟩
      rw [upd_lt st _ (by omega)]
      exact c
theorem S_data (h : SIr true n d 0 kd vl hd tl fi la st) (hd1 : d + 1 ≤ n) : SIr false n (d + 1) 0 kd vl hd tl fi la st := by
  obtain ⟨h1, h2, h3, h4⟩ := h
  exact ⟨h1.mono (fun x hx ⟨k, a, b, c⟩ => by omega) (fun x _ z => z), fun k hk => by omega, hd1, h4⟩
theorem S_tree (h : SIr bg n d 0 kd vl hd tl fi la st) : ∀ x, x < n → K5 (kd x) ∧ (kd x = 2 ∨ kd x = 3 → ∃ v, v ≤ 20 ∧ vl x = nI v) ∧ (kd x = 4 → HOK n (hd x) x ∧ HOK n (tl x) x) := fun x hx => by
  obtain ⟨a, b, c⟩ := h.1 x hx
  refine ⟨a, b, fun q => ⟨(c q).1.resolve_right (fun ⟨k, z, _⟩ => by omega), (c q).2.resolve_right (fun ⟨k, z, _⟩ => by omega)⟩⟩
end SIR
end
section
/-! READING KEEPS ITS STATE -/
def SI (bg : Bool) (M : aM) : Prop := SIr bg (mN M) (mD M) (mO M) (M 21) (M 22) (M 24) (M 25) (M 27) (M 28) (M 29)
def bs_ok (M : aM) : Prop := mc_ok M ∧ md_ok M ∧ op_ok M
def frm (M N : aM) : Prop := (∀ i, i < 19 ∨ i = 20 ∨ 30 ≤ i → N i = M i) ∧ (∀ j, j = 1 ∨ j = 2 ∨ j = 3 ∨ j = 18 → N 19 j = M 19 j)
theorem frm.rf (M : aM) : frm M M := ⟨fun _ _ => rfl, fun _ _ => rfl⟩
theorem frm.tr {M N P : aM} (h1 : frm M N) (h2 : frm N P) : frm M P := ⟨fun i hi => (h2.1 i hi).trans (h1.1 i hi), fun j hj => (h2.2 j hj).trans (h1.2 j hj)⟩
theorem frm.up {M N : aM} (h : frm M N) {c j : Nat} {x : Int32} (hc : 21 ≤ c ∧ c ≤ 29) : frm M (am_up N c j x) := by
  refine ⟨fun i hi => ?_, fun k hk => ?_⟩
  · rw [am_up_ne (by omega)]; exact h.1 i hi
  · rw [am_up_ne (by omega)]; exact h.2 k hk
theorem frm.u9 {M N : aM} (h : frm M N) {j : Nat} {x : Int32} (hj : j = 4 ∨ j = 5 ∨ j = 11 ∨ j = 13) : frm M (am_up N 19 j x) := by
  refine ⟨fun i hi => ?_, fun k hk => ?_⟩
  · rw [am_up_ne (by omega)]; exact h.1 i hi
  · rw [am_up_ap, if_pos rfl, if_neg (by omega)]; exact h.2 k hk
theorem frm_fail (M : aM) (w : Int32) : frm M (failM M w) := (frm.rf M).u9 (Or.inl rfl)
theorem frm_new (M : aM) (k : Int32) : frm M (m_new M k) := (((((frm.rf M).up (by decide)).up (by decide)).up (by decide)).up (by decide)).u9 (Or.inr (Or.inl rfl))
theorem frm_nd (M : aM) (k : Int32) : frm M (m_nd M k).2 := by
  unfold m_nd
  split
  · exact frm_fail M _
  · exact frm_new M k
theorem frm_beg (M : aM) : frm M (m_beg M) := by
  unfold m_beg
  split
  · exact frm.rf M
  split
  · exact frm_fail M _
  split
  · have h := frm_nd M 4
    unfold m_begP
    split
    · exact ((h.up (by decide)).up (by decide)).up (by decide)
    · exact ((h.up (by decide)).up (by decide)).up (by decide)
  · exact frm.rf M
theorem frm_let (M : aM) (x : Nat) (c : Int32) : frm M (m_let M x c) := ((frm.rf M).up (by decide)).up (by decide)
theorem frm_A2 (t : Nat → Int32) (x : Nat) : ∀ (f k : Nat) (M : aM), frm M (mA2 t x f k M)
  | 0, _, M => frm.rf M
  | f + 1, k, M => (frm_let M x _).tr (frm_A2 t x f _ _)
theorem frm_A3 (t : Nat → Int32) (N x : Nat) : ∀ (c i : Nat) (M : aM), frm M (mA3 t N x c i M)
  | 0, _, M => frm.rf M
  | c + 1, i, M => by
    unfold mA3
    split
    · exact frm.rf M
    split
    · exact (frm_let M x _).tr (frm_A3 t N x c _ _)
    · exact (frm_let M x _).tr (frm_A3 t N x c _ _)
theorem frm_atom (M : aM) (k : Int32) : frm M (m_atom M k).2 := by
  unfold m_atom
  split
  · exact frm_fail M _
  · show frm M (m_atmM M k)
    unfold m_atmM
    split
    · exact (frm_new M k).up (by decide)
    split
    · exact (frm_new M k).tr (frm_A2 _ _ _ _ _)
    · exact (frm_new M k).tr (frm_A3 _ _ _ _ _ _)
theorem frm_endQ (M : aM) (n : Int32) : frm M (m_endQ M n) := (((((frm.rf M).up (by decide)).tr (frm_nd _ 5)).up (by decide)).u9 (Or.inr (Or.inr (Or.inr rfl))))
theorem frm_end : ∀ (f : Nat) (n : Int32) (M : aM), frm M (m_end f n M)
  | 0, _, M => frm.rf M
  | f + 1, n, M => by
    unfold m_end
    split
    · exact frm.rf M
    split
    · exact ((frm.rf M).up (by decide)).u9 (Or.inr (Or.inr (Or.inl rfl)))
    split
    · exact (frm_endQ M n).tr (frm_end f _ _)
    split
    · exact ((frm.rf M).up (by decide)).up (by decide)
    · exact (frm.rf M).up (by decide)
theorem frm_qL (x : Nat) : ∀ (f k : Nat) (M : aM), frm M (mqL x f k M)
  | 0, _, M => frm.rf M
  | f + 1, k, M => (frm_let M x _).tr (frm_qL x f _ _)
theorem frm_q3 (M : aM) : frm M (m_q3 M) := ((frm_nd M 4).tr (frm_nd _ 2)).tr (frm_nd _ 4)
theorem frm_opA (M : aM) : frm M (m_opA M) := by
  unfold m_opA
  split
  · exact (frm_beg M).tr (frm_fail _ _)
  · exact frm_beg M
theorem frm_opP (q : Bool) (o : Nat) (M : aM) : frm M (m_opP q o M) := ((frm.rf M).up (by decide)).u9 (Or.inr (Or.inr (Or.inr rfl)))
theorem frm_opL (x o : Nat) (M : aM) : frm M (m_opL x o M) := ((((frm.rf M).up (by decide)).up (by decide)).up (by decide)).up (by decide)
theorem frm_open (q : Bool) (M : aM) : frm M (m_open q M) := by
  have hA := frm_opA M
  unfold m_open
  generalize m_opA M = A at hA ⊢
  split
  · split
    · refine (hA.tr (frm_opP true (mO M) A)).tr ?_
      generalize m_opP true (mO M) A = B
      unfold m_opQ
      split
      · exact ((frm_q3 B).tr (frm_qL _ _ _ _)).tr (frm_opL _ _ _)
      · exact frm_q3 B
    · exact hA.tr (frm_opP _ _ _)
  · exact hA
theorem frm_clN (M : aM) : frm M (m_clN M).2 := by
  unfold m_clN
  split
  · split
    · exact frm_nd M 5
    · exact (frm_nd M 5).up (by decide)
  · exact frm.rf M
theorem frm_close (M : aM) : frm M (m_close M) := by
  have h := frm_clN M
  unfold m_close
  generalize m_clN M = p at h ⊢
  split
  · exact frm_fail M _
  split
  · exact (h.u9 (Or.inr (Or.inr (Or.inr rfl)))).tr (frm_end _ _ _)
  · exact h
theorem frm_dat (M : aM) (k : Int32) : frm M (m_dat M k) := by
  have h := frm_beg M
  unfold m_dat
  generalize m_beg M = B at h ⊢
  split
  · exact (h.tr (frm_atom B k)).tr (frm_end _ _ _)
  · exact h
theorem frm_pt (M : aM) : frm M (m_pt M) := by
  unfold m_pt
  split
  · exact frm_fail M _
  split
  · exact (frm.rf M).up (by decide)
  · exact frm_fail M _
theorem frm_act (M : aM) (k : Int32) : frm M (m_act M k) := by
  unfold m_act
  split
  · exact frm_open false M
  split
  · exact frm_open true M
  split
  · exact frm_close M
  split
  · exact frm_pt M
  · exact frm_dat M k
theorem failM_ge {M : aM} {w : Int32} (hw : ¬ w < 0) : ¬ failM M w 19 4 < 0 := by
  unfold failM
  simp only [am_up_ap, ↓reduceIte]
  by_cases c : 0 ≤ M 19 4
  · rw [if_pos c]; exact Int32.not_lt.mpr c
  · rw [if_neg c]; exact hw
theorem bs_new {M : aM} {k : Int32} (h : bs_ok M) (hn : ¬ mN M = 200) : bs_ok (m_new M k) := by
  have := mc_nd (k := k) h.1
  rw [nd_s hn] at this
  exact ⟨this, h.2.1, h.2.2⟩
theorem T_beg {M : aM} (h : SI false M) (hb : bs_ok M) (hp : ¬ M 19 3 < 0) (hf : m_beg M 19 4 < 0) : SI true (m_beg M) ∧ bs_ok (m_beg M) ∧ mO (m_beg M) = mO M ∧ mD (m_beg M) = mD M ∧ M 19 4 < 0 := by
  unfold m_beg at hf ⊢
  by_cases c0 : mO M = 0
  · rw [if_pos c0] at hf ⊢
    refine ⟨?_, hb, rfl, rfl, hf⟩
    unfold SI at h ⊢
    rw [c0] at h ⊢
    exact S_beg00 h
  rw [if_neg c0] at hf ⊢
  obtain ⟨o, ho⟩ : ∃ o, mO M = o + 1 := ⟨mO M - 1, by omega⟩
  have ho1 : mO M - 1 = o := by omega
  rw [ho1] at hf ⊢
  unfold SI at h
  rw [ho] at h
  by_cases c3 : M 29 o = 3
  · rw [if_pos c3] at hf
    exact absurd hf (failM_ge hp)
  rw [if_neg c3] at hf ⊢
  have hst : M 29 o = 0 ∨ M 29 o = 1 ∨ M 29 o = 2 ∨ M 29 o = 4 := by
    rcases h.2.1 o (by omega) with ⟨a, -, -⟩ | ⟨a, -⟩
    · exact Or.inl a
    · rcases a with a | a | a | ⟨a, -, -⟩
      · exact Or.inr (Or.inl a)
      · exact Or.inr (Or.inr (Or.inl a))
      · exact Or.inr (Or.inr (Or.inr a))
      · exact absurd a c3
  by_cases c2 : M 29 o < 2
  · rw [if_pos c2] at hf ⊢
    have hnf : (m_nd M 4).2 19 4 < 0 := by
      unfold m_begP at hf
      split at hf
      · exact hf
      · exact hf
    obtain ⟨hn, hM4⟩ := nd_4 hp hnf
    have hn2 : mN M < 200 := by have := hb.1.2; omega
    rw [nd_s hn]
    have eN := mN_new (k := 4) hb.1
    unfold m_begP
    have hbn := bs_new (k := 4) hb hn
    by_cases c5 : M 29 o = 0
    · rw [if_pos c5]
      refine ⟨?_, hbn, rfl, rfl, hM4⟩
      have q := S_beg0 h c5 hn2
      show SIr true (mN (m_new M 4)) (mD M) (mO M) _ _ _ _ _ _ _
      rw [eN, ho]
      exact q
    · rw [if_neg c5]
      have c6 : M 29 o = 1 := by
        rcases hst with q | q | q | q
        · exact absurd q c5
        · exact q
        · rw [q] at c2; exact absurd c2 (by decide)
        · rw [q] at c2; exact absurd c2 (by decide)
      refine ⟨?_, hbn, rfl, rfl, hM4⟩
      have q := S_beg1 h c6 hn2
      show SIr true (mN (m_new M 4)) (mD M) (mO M) _ _ _ _ _ _ _
      rw [eN, ho]
      exact q
  · rw [if_neg c2] at hf ⊢
    refine ⟨?_, hb, rfl, rfl, hf⟩
    unfold SI
    rw [ho]
    refine S_begK h ?_
    rcases hst with q | q | q | q
    · rw [q] at c2; exact absurd (by decide) c2
    · rw [q] at c2; exact absurd (by decide) c2
    · exact Or.inl q
    · exact Or.inr q
end
section
/-! READING KEEPS ITS STATE: data, ends, brackets -/
theorem A2_22 (t : Nat → Int32) (x : Nat) : ∀ (f k v : Nat) (M : aM), M 22 x = nI v → v + f ≤ 20 → (∀ i, ¬ i = 22 → ¬ i = 23 → mA2 t x f k M i = M i) ∧ (∀ y, ¬ y = x → mA2 t x f k M 22 y = M 22 y) ∧ mA2 t x f k M 22 x = nI (v + f)
  | 0, _, v, M, hv, _ => ⟨fun _ _ _ => rfl, fun _ _ => rfl, hv⟩
  | f + 1, k, v, M, hv, hf => by
    have hv2 : m_let M x (t k) 22 x = nI (v + 1) := by rw [m_let_22, hv, show cl (nI v) = v from nI_clamp (by omega)]
    obtain ⟨a, b, c⟩ := A2_22 t x f (k + 1) (v + 1) (m_let M x (t k)) hv2 (by omega)
    unfold mA2
    refine ⟨fun i h1 h2 => ?_, fun y hy => ?_, ?_⟩
    · rw [a i h1 h2]
      unfold m_let
      rw [am_up_ne h1, am_up_ne h2]
    · rw [b y hy]
      unfold m_let
      simp only [am_up_ap, ↓reduceIte, hy, Nat.reduceEqDiff]
    · rw [c]
      congr 1
      omega
theorem A3_22 (t : Nat → Int32) (N x : Nat) : ∀ (c i v : Nat) (M : aM), M 22 x = nI v → v + c ≤ 21 → (∀ a, ¬ a = 22 → ¬ a = 23 → mA3 t N x c i M a = M a) ∧ (∀ y, ¬ y = x → mA3 t N x c i M 22 y = M 22 y) ∧ ∃ w, w ≤ v + c ∧ mA3 t N x c i M 22 x = nI w
  | 0, _, v, M, hv, _ => ⟨fun _ _ _ => rfl, fun _ _ => rfl, v, by omega, hv⟩
  | c + 1, i, v, M, hv, hc => by
    have hv2 : ∀ z, m_let M x z 22 x = nI (v + 1) := fun z => by rw [m_let_22, hv, show cl (nI v) = v from nI_clamp (by omega)]
    have hl1 : ∀ z a, ¬ a = 22 → ¬ a = 23 → m_let M x z a = M a := fun z a h1 h2 => by unfold m_let; rw [am_up_ne h1, am_up_ne h2]
    have hl2 : ∀ z y, ¬ y = x → m_let M x z 22 y = M 22 y := fun z y hy => by
      unfold m_let
      simp only [am_up_ap, ↓reduceIte, hy, Nat.reduceEqDiff]
    unfold mA3
    split
    · exact ⟨fun _ _ _ => rfl, fun _ _ => rfl, v, by omega, hv⟩
    split
    · obtain ⟨p, q, w, r, s⟩ := A3_22 t N x c (i + 2) (v + 1) (m_let M x (t (i + 1))) (hv2 _) (by omega)
      exact ⟨fun a h1 h2 => (p a h1 h2).trans (hl1 _ a h1 h2), fun y hy => (q y hy).trans (hl2 _ y hy), w, by omega, s⟩
    · obtain ⟨p, q, w, r, s⟩ := A3_22 t N x c (i + 1) (v + 1) (m_let M x (t i)) (hv2 _) (by omega)
      exact ⟨fun a h1 h2 => (p a h1 h2).trans (hl1 _ a h1 h2), fun y hy => (q y hy).trans (hl2 _ y hy), w, by omega, s⟩
theorem A3_20 (t : Nat → Int32) (N x e : Nat) (he : e < 2 ^ 31) : ∀ (c i v : Nat) (M : aM), M 22 x = nI v → v + c = 20 → stE t N (c + 1) i = nI e → ∃ w, w ≤ 20 ∧ mA3 t N x (c + 1) i M 22 x = nI w := by
  have hne : ¬ (-1 : Int32) = nI e := fun q => nI_ne he q.symm
  intro c
  induction c with
  | zero =>
    intro i v M hv hc h
    by_cases c1 : bt t N i = 34
    · rw [mA3, if_pos c1]
      exact ⟨v, by omega, hv⟩
    · exfalso
      rw [stE, if_neg c1] at h
      (repeat' split at h) <;> exact hne h
  | succ c ih =>
    intro i v M hv hc h
    have hv2 : ∀ z, m_let M x z 22 x = nI (v + 1) := fun z => by rw [m_let_22, hv, show cl (nI v) = v from nI_clamp (by omega)]
    rw [stE] at h
    by_cases c1 : bt t N i = 34
    · rw [mA3, if_pos c1]
      exact ⟨v, by omega, hv⟩
    rw [if_neg c1] at h
    rw [mA3, if_neg c1]
    by_cases c2 : bt t N i = 92
    · rw [if_pos c2] at h ⊢
      have h2 : stE t N (c + 1) (i + 2) = nI e := by
        by_cases c3 : bt t N (i + 1) = 34
        · rw [if_pos c3] at h; exact h
        rw [if_neg c3] at h
        by_cases c4 : bt t N (i + 1) = 92
        · rw [if_pos c4] at h; exact h
        · rw [if_neg c4] at h; exact absurd h hne
      exact ih (i + 2) (v + 1) _ (hv2 _) (by omega) h2
    · rw [if_neg c2] at h ⊢
      have h2 : stE t N (c + 1) (i + 1) = nI e := by
        by_cases c5 : bt t N i < 32
        · rw [if_pos c5] at h; exact absurd h hne
        rw [if_neg c5] at h
        by_cases c6 : 126 < bt t N i
        · rw [if_pos c6] at h; exact absurd h hne
        · rw [if_neg c6] at h; exact h
      exact ih (i + 1) (v + 1) _ (hv2 _) (by omega) h2
theorem T_atom {M : aM} {k : Int32} (h : SI true M) (hb : bs_ok M) (hn : ¬ mN M = 200) (hk : at_kd M k) (h400 : m_e M ≤ 400) : SI true (m_atmM M k) ∧ bs_ok (m_atmM M k) ∧ mN (m_atmM M k) = mN M + 1 ∧ mO (m_atmM M k) = mO M ∧ mD (m_atmM M k) = mD M ∧ m_atmM M k 28 = M 28 ∧ m_atmM M k 19 4 = M 19 4 := by
  have hn2 : mN M < 200 := by have := hb.1.2; omega
  have eN := mN_new (k := k) hb.1
  have hbn := bs_new (k := k) hb hn
  have n22 : m_new M k 22 (mN M) = nI 0 := by
    unfold m_new
    simp only [am_up_ap, ↓reduceIte, Nat.reduceEqDiff]
    rfl
  have nvl : ∀ y, ¬ y = mN M → m_new M k 22 y = M 22 y := fun y hy => by
    unfold m_new
    simp only [am_up_ap, ↓reduceIte, Nat.reduceEqDiff, hy]
  -- any memory that differs from the new one in 22 at the node, and in 23
  have key : ∀ N : aM, (∀ i, ¬ i = 22 → ¬ i = 23 → N i = m_new M k i) → (∀ y, ¬ y = mN M → N 22 y = m_new M k 22 y) → (k = 2 ∨ k = 3 → ∃ v, v ≤ 20 ∧ N 22 (mN M) = nI v) → K5 k → ¬ k = 4 → SI true N ∧ bs_ok N ∧ mN N = mN M + 1 ∧ mO N = mO M ∧ mD N = mD M ∧ N 28 = M 28 ∧ N 19 4 = M 19 4 := by
    intro N h1 h2 h3 h4 h5
    have e19 : N 19 = m_new M k 19 := h1 19 (by decide) (by decide)
    have eN2 : mN N = mN M + 1 := by unfold mN; rw [e19]; exact eN
    have eO : mO N = mO M := by unfold mO; rw [e19]; rfl
    have eD : mD N = mD M := by unfold mD; rw [e19]; rfl
    refine ⟨?_, ?_, eN2, eO, eD, by rw [h1 28 (by decide) (by decide)]; rfl, by rw [e19]; rfl⟩
    · unfold SI at h ⊢
      rw [eN2, eO, eD, h1 21 (by decide) (by decide), h1 24 (by decide) (by decide), h1 25 (by decide) (by decide), h1 27 (by decide) (by decide), h1 28 (by decide) (by decide), h1 29 (by decide) (by decide)]
      exact S_new h h4 h5 h3 (fun x hx => by rw [h2 x (by omega), nvl x (by omega)]) hn2
    · unfold bs_ok mc_ok md_ok op_ok mN mD mO at hbn ⊢
      rw [e19]
      exact hbn
  unfold m_atmM
  rcases hk with hk | ⟨hk, hk2⟩ | ⟨hk, hk2⟩
  · subst hk
    rw [if_pos rfl]
    refine key _ (fun i h1 h2 => by rw [am_up_ne h1]) (fun y hy => by simp only [am_up_ap, hy, ↓reduceIte]) (fun z => by rcases z with z | z <;> exact absurd z (by decide)) (Or.inl rfl) (by decide)
  · subst hk
    rw [if_neg (by decide), if_pos rfl]
    obtain ⟨a, b, c⟩ := A2_22 (M 20) (mN M) (m_e M - m_pl M) (m_pl M) 0 (m_new M 2) n22 (by omega)
    exact key _ a b (fun _ => ⟨_, by omega, c⟩) (Or.inr (Or.inl rfl)) (by decide)
  · subst hk
    rw [if_neg (by decide), if_neg (by decide)]
    obtain ⟨a, b, -⟩ := A3_22 (M 20) (m_tl M) (mN M) 21 (m_pl M + 1) 0 (m_new M 3) n22 (by omega)
    exact key _ a b (fun _ => A3_20 (M 20) (m_tl M) (mN M) (m_e M) (by omega) 20 (m_pl M + 1) 0 (m_new M 3) n22 rfl hk2) (Or.inr (Or.inr (Or.inl rfl))) (by decide)
/-- a datum that may end -/
def dt_ok (M : aM) (m : Nat) : Prop := m < mN M ∧ (mO M = 0 → mD M ≤ m) ∧ (0 < mO M → cl (M 28 (mO M - 1)) < m)
theorem T_en {M : aM} {m : Nat} (h : SI true M) (hb : bs_ok M) (hm : dt_ok M m) : en_ok M := by
  have h200 := hb.1.2
  refine ⟨hb.1, hb.2.2, fun o ho => ?_, hb.2.1, ?_⟩
  · have := (h.2.1.all ho).2
    rw [this.2.1]
    exact vp_in_nI (by have := this.2.2.2.1; omega) (by decide)
  · by_cases c : mO M = 0
    · have := hm.2.1 c
      have := hm.1
      omega
    · have q := (h.2.1.all (k := 0) (by omega)).2
      have a1 := q.2.2.2.2.1 rfl
      have a2 := q.2.2.1
      have a3 := q.2.2.2.1
      omega
theorem E_0 {M : aM} {m : Nat} (h : SI true M) (hb : bs_ok M) (hd2 : mD M < 200) (c1 : mO M = 0) (hq : mD M ≤ m) (hq2 : m < mN M) : SI false (am_up (am_up M 26 (mD M) (nI m)) 19 11 (nI (mD M + 1))) ∧ bs_ok (am_up (am_up M 26 (mD M) (nI m)) 19 11 (nI (mD M + 1))) := by
  have e11 : am_up (am_up M 26 (mD M) (nI m)) 19 11 (nI (mD M + 1)) 19 11 = nI (mD M + 1) := by simp only [am_up_ap, ↓reduceIte]
  have e5 : am_up (am_up M 26 (mD M) (nI m)) 19 11 (nI (mD M + 1)) 19 5 = M 19 5 := by simp only [am_up_ap, ↓reduceIte, Nat.reduceEqDiff]
  have e13 : am_up (am_up M 26 (mD M) (nI m)) 19 11 (nI (mD M + 1)) 19 13 = M 19 13 := by simp only [am_up_ap, ↓reduceIte, Nat.reduceEqDiff]
  have eo : ∀ i, ¬ i = 19 → ¬ i = 26 → am_up (am_up M 26 (mD M) (nI m)) 19 11 (nI (mD M + 1)) i = M i := fun i h1 h2 => by rw [am_up_ne h1, am_up_ne h2]
  generalize am_up (am_up M 26 (mD M) (nI m)) 19 11 (nI (mD M + 1)) = N at e11 e5 e13 eo ⊢
  have eD : mD N = mD M + 1 := by unfold mD; rw [e11]; exact nI_clamp (by have : mD M = cl (M 19 11) := rfl; omega)
  have eN : mN N = mN M := by unfold mN; rw [e5]
  have eO : mO N = mO M := by unfold mO; rw [e13]
  refine ⟨?_, ⟨by rw [eN, e5]; exact hb.1.1, by rw [eN]; exact hb.1.2⟩, ⟨by rw [eD, e11], by rw [eD]; omega⟩, ⟨by rw [eO, e13]; exact hb.2.2.1, by rw [eO]; exact hb.2.2.2⟩⟩
  unfold SI at h ⊢
  rw [eN, eD, eO, eo 21 (by decide) (by decide), eo 22 (by decide) (by decide), eo 24 (by decide) (by decide), eo 25 (by decide) (by decide), eo 27 (by decide) (by decide), eo 28 (by decide) (by decide), eo 29 (by decide) (by decide), c1]
  rw [c1] at h
  exact S_data h (by omega)
theorem endQ_eq {M : aM} {m o : Nat} (ho1 : mO M - 1 = o) (hn : ¬ mN M = 200) : m_endQ M (nI m) = am_up (am_up (m_new (am_up M 24 (cl (M 28 o)) (nI m)) 5) 25 (cl (M 28 o)) (nI (mN M))) 19 13 (nI o) := by
  have e : mN (am_up M 24 (cl (M 28 o)) (nI m)) = mN M := by unfold mN; rw [am_up_ne (by decide)]
  unfold m_endQ
  rw [ho1, nd_s (by rw [e]; exact hn), e]
theorem E_4 {M : aM} {m o : Nat} (h : SIr true (mN M) (mD M) (o + 1) (M 21) (M 22) (M 24) (M 25) (M 27) (M 28) (M 29)) (hb : bs_ok M) (ho : mO M = o + 1) (hn : ¬ mN M = 200) (c4 : M 29 o = 4) (hml : cl (M 28 o) < m) (hmn : m < mN M) : SI true (m_endQ M (nI m)) ∧ bs_ok (m_endQ M (nI m)) ∧ mO (m_endQ M (nI m)) = o ∧ mN (m_endQ M (nI m)) = mN M + 1 ∧ mD (m_endQ M (nI m)) = mD M ∧ m_endQ M (nI m) 28 = M 28 := by
  have h200 := hb.1.2
  have h15 := hb.2.2.2
  have q := S_end4 h c4 hml hmn (by omega)
  have e := endQ_eq (M := M) (m := m) (o := o) (by omega) hn
  have eM : mN (am_up M 24 (cl (M 28 o)) (nI m)) = mN M := by unfold mN; rw [am_up_ne (by decide)]
  have e5 : m_endQ M (nI m) 19 5 = nI (mN M + 1) := by rw [e]; unfold m_new; simp only [am_up_ap, ↓reduceIte, Nat.reduceEqDiff]; rw [eM]
  have e13 : m_endQ M (nI m) 19 13 = nI o := by rw [e]; simp only [am_up_ap, ↓reduceIte]
  have e11 : m_endQ M (nI m) 19 11 = M 19 11 := by rw [e]; unfold m_new; simp only [am_up_ap, ↓reduceIte, Nat.reduceEqDiff]
  have ei : ∀ (A : aM) (i j : Nat) (x : Int32) (a : Nat), am_up A i j x a = if a = i then upd (A i) j x else A a := fun A i j x a => by rfl
  have c21 : m_endQ M (nI m) 21 = upd (M 21) (mN M) 5 := by rw [e]; unfold m_new; simp only [ei, ↓reduceIte, Nat.reduceEqDiff]; rw [eM]
  have c22 : m_endQ M (nI m) 22 = upd (M 22) (mN M) 0 := by rw [e]; unfold m_new; simp only [ei, ↓reduceIte, Nat.reduceEqDiff]; rw [eM]
  have c24 : m_endQ M (nI m) 24 = upd (upd (M 24) (cl (M 28 o)) (nI m)) (mN M) (-1) := by rw [e]; unfold m_new; simp only [ei, ↓reduceIte, Nat.reduceEqDiff]; rw [eM]
  have c25 : m_endQ M (nI m) 25 = upd (upd (M 25) (mN M) (-1)) (cl (M 28 o)) (nI (mN M)) := by rw [e]; unfold m_new; simp only [ei, ↓reduceIte, Nat.reduceEqDiff]; rw [eM]
  have c27 : m_endQ M (nI m) 27 = M 27 := by rw [e]; unfold m_new; simp only [ei, ↓reduceIte, Nat.reduceEqDiff]
  have c28 : m_endQ M (nI m) 28 = M 28 := by rw [e]; unfold m_new; simp only [ei, ↓reduceIte, Nat.reduceEqDiff]
  have c29 : m_endQ M (nI m) 29 = M 29 := by rw [e]; unfold m_new; simp only [ei, ↓reduceIte, Nat.reduceEqDiff]
  generalize m_endQ M (nI m) = N at e5 e13 e11 c21 c22 c24 c25 c27 c28 c29 ⊢
  have eN : mN N = mN M + 1 := by unfold mN; rw [e5]; exact nI_clamp (by have : mN M = cl (M 19 5) := rfl; omega)
  have eO : mO N = o := by unfold mO; rw [e13]; exact nI_clamp (by omega)
  have eD : mD N = mD M := by unfold mD; rw [e11]
  refine ⟨?_, ⟨⟨by rw [eN, e5], by rw [eN]; omega⟩, ⟨by rw [eD, e11]; exact hb.2.1.1, by rw [eD]; exact hb.2.1.2⟩, ⟨by rw [eO, e13], by rw [eO]; omega⟩⟩, eO, eN, eD, c28⟩
  unfold SI
  rw [eN, eO, eD, c21, c22, c24, c25, c27, c28, c29]
  exact q
theorem E_2 {M : aM} {m o : Nat} (h : SIr true (mN M) (mD M) (o + 1) (M 21) (M 22) (M 24) (M 25) (M 27) (M 28) (M 29)) (hb : bs_ok M) (ho : mO M = o + 1) (c2 : M 29 o = 2) (hml : cl (M 28 o) < m) (hmn : m < mN M) : SI false (am_up (am_up M 25 (cl (M 28 o)) (nI m)) 29 o 3) ∧ bs_ok (am_up (am_up M 25 (cl (M 28 o)) (nI m)) 29 o 3) := by
  have q := S_end2 h c2 hml hmn
  refine ⟨?_, hb⟩
  rw [← ho] at q
  exact q
theorem E_1 {M : aM} {m o : Nat} (h : SIr true (mN M) (mD M) (o + 1) (M 21) (M 22) (M 24) (M 25) (M 27) (M 28) (M 29)) (hb : bs_ok M) (ho : mO M = o + 1) (c2 : M 29 o = 1) (hml : cl (M 28 o) < m) (hmn : m < mN M) : SI false (am_up M 24 (cl (M 28 o)) (nI m)) ∧ bs_ok (am_up M 24 (cl (M 28 o)) (nI m)) := by
  have q := S_end1 h c2 hml hmn
  refine ⟨?_, hb⟩
  rw [← ho] at q
  exact q
theorem endQ_3 (M : aM) (n : Int32) : m_endQ M n 19 3 = M 19 3 := (frm_endQ M n).2 3 (Or.inr (Or.inr (Or.inl rfl)))
theorem endQ_4 {M : aM} {m : Nat} (hp : ¬ M 19 3 < 0) (cf : m_endQ M (nI m) 19 4 < 0) : ¬ mN M = 200 := by
  have e : m_endQ M (nI m) 19 4 = (m_nd (am_up M 24 (cl (M 28 (mO M - 1))) (nI m)) 5).2 19 4 := by
    unfold m_endQ
    simp only [am_up_ap, ↓reduceIte, Nat.reduceEqDiff]
  rw [e] at cf
  have q := (nd_4 (M := am_up M 24 (cl (M 28 (mO M - 1))) (nI m)) (by rw [am_up_ne (by decide)]; exact hp) cf).1
  have eM : mN (am_up M 24 (cl (M 28 (mO M - 1))) (nI m)) = mN M := by unfold mN; rw [am_up_ne (by decide)]
  rw [eM] at q
  exact q
theorem T_end : ∀ (f : Nat) (M : aM) (m : Nat), mO M < f → SI true M → bs_ok M → M 19 4 < 0 → ¬ M 19 3 < 0 → dt_ok M m → 0 ≤ m_end f (nI m) M 19 4 ∨ (SI false (m_end f (nI m) M) ∧ bs_ok (m_end f (nI m) M)) := by
  intro f
  induction f with
  | zero =>
    intro M m h
    omega
  | succ f ih =>
    intro M m hf h hb h4 hp hm
    have hen := T_en h hb hm
    have c0 : ¬ 0 ≤ M 19 4 := Int32.not_le.mpr h4
    rw [m_end, if_neg c0]
    by_cases c1 : mO M = 0
    · rw [if_pos c1]
      exact Or.inr (E_0 h hb hen.2.2.2.2 c1 (hm.2.1 c1) hm.1)
    rw [if_neg c1]
    obtain ⟨o, ho⟩ : ∃ o, mO M = o + 1 := ⟨mO M - 1, by omega⟩
    have ho1 : mO M - 1 = o := by omega
    have hml := hm.2.2 (by omega)
    have hmn := hm.1
    rw [ho1] at hml ⊢
    unfold SI at h
    rw [ho] at h
    have hal := h.2.1.all (k := o) (by omega)
    have hs : ¬ M 29 o = 0 := by rcases hal.1 with q | q | q <;> rw [q] <;> decide
    obtain ⟨l1, l2, l3, l4, l5, l6⟩ := top_l h.2.1 hs
    by_cases c4 : M 29 o = 4
    · rw [if_pos c4]
      by_cases cf : m_endQ M (nI m) 19 4 < 0
      · have hn := endQ_4 hp cf
        obtain ⟨g1, g2, g3, g4, g5, g6⟩ := E_4 h hb ho hn c4 hml hmn
        have g7 := endQ_3 M (nI m)
        generalize m_endQ M (nI m) = N at cf g1 g2 g3 g4 g5 g6 g7 ⊢
        rw [l3]
        refine ih N (cl (M 27 o)) (by omega) g1 g2 cf (by rw [g7]; exact hp) ⟨by omega, fun z => ?_, fun z => ?_⟩
        · rw [g3] at z
          rw [g5]
          exact l5 z
        · rw [g3] at z ⊢
          rw [g6]
          exact l6 z
      · left
        have cg : 0 ≤ m_endQ M (nI m) 19 4 := Int32.not_lt.mp cf
        cases f with
        | zero => exact cg
        | succ f => rw [m_end, if_pos cg]; exact cg
    rw [if_neg c4]
    by_cases c2 : M 29 o = 2
    · rw [if_pos c2]
      exact Or.inr (E_2 h hb ho c2 hml hmn)
    · rw [if_neg c2]
      have c9 : M 29 o = 1 := by
        rcases hal.1 with q | q | q
        · exact q
        · exact absurd q c2
        · exact absurd q c4
      exact Or.inr (E_1 h hb ho c9 hml hmn)
end
section
/-! READING KEEPS ITS STATE: brackets, quotes, every token -/
theorem am_up_i (A : aM) (i j : Nat) (x : Int32) (a : Nat) : am_up A i j x a = if a = i then upd (A i) j x else A a := by rfl
theorem qL_22 (x : Nat) : ∀ (f k v : Nat) (M : aM), M 22 x = nI v → v + f ≤ 20 → (∀ i, ¬ i = 22 → ¬ i = 23 → mqL x f k M i = M i) ∧ (∀ y, ¬ y = x → mqL x f k M 22 y = M 22 y) ∧ mqL x f k M 22 x = nI (v + f)
  | 0, _, v, M, hv, _ => ⟨fun _ _ _ => rfl, fun _ _ => rfl, hv⟩
  | f + 1, k, v, M, hv, hf => by
    have hv2 : m_let M x (QF k) 22 x = nI (v + 1) := by rw [m_let_22, hv, show cl (nI v) = v from nI_clamp (by omega)]
    obtain ⟨a, b, c⟩ := qL_22 x f (k + 1) (v + 1) (m_let M x (QF k)) hv2 (by omega)
    unfold mqL
    refine ⟨fun i h1 h2 => ?_, fun y hy => ?_, ?_⟩
    · rw [a i h1 h2]
      unfold m_let
      rw [am_up_ne h1, am_up_ne h2]
    · rw [b y hy]
      unfold m_let
      simp only [am_up_ap, ↓reduceIte, hy, Nat.reduceEqDiff]
    · rw [c]
      congr 1
      omega
/-- three new nodes -/
theorem new3 {B : aM} (hb : mc_ok B) (hn : mN B + 3 ≤ 200) : (∀ i, ¬ i = 19 → ¬ i = 21 → ¬ i = 22 → ¬ i = 24 → ¬ i = 25 → m_new (m_new (m_new B 4) 2) 4 i = B i) ∧ (∀ j, ¬ j = 5 → m_new (m_new (m_new B 4) 2) 4 19 j = B 19 j) ∧ m_new (m_new (m_new B 4) 2) 4 19 5 = nI (mN B + 3) ∧ m_new (m_new (m_new B 4) 2) 4 21 = upd (upd (upd (B 21) (mN B) 4) (mN B + 1) 2) (mN B + 2) 4 ∧ m_new (m_new (m_new B 4) 2) 4 22 = upd (upd (upd (B 22) (mN B) 0) (mN B + 1) 0) (mN B + 2) 0 ∧ m_new (m_new (m_new B 4) 2) 4 24 = upd (upd (upd (B 24) (mN B) (-1)) (mN B + 1) (-1)) (mN B + 2) (-1) ∧ m_new (m_new (m_new B 4) 2) 4 25 = upd (upd (upd (B 25) (mN B) (-1)) (mN B + 1) (-1)) (mN B + 2) (-1) := by
  have n1 := mN_new (k := 4) hb
  have hb1 : mc_ok (m_new B 4) := by have := mc_nd (k := 4) hb; rw [nd_s (by omega)] at this; exact this
  have n2 := mN_new (k := 2) hb1
  rw [n1] at n2
  have eC : ∀ (A : aM) (k : Int32) (i : Nat), ¬ i = 19 → ¬ i = 21 → ¬ i = 22 → ¬ i = 24 → ¬ i = 25 → m_new A k i = A i := fun A k i a b c d e => by
    unfold m_new
    rw [am_up_ne a, am_up_ne e, am_up_ne d, am_up_ne c, am_up_ne b]
  have e9 : ∀ (A : aM) (k : Int32) (j : Nat), ¬ j = 5 → m_new A k 19 j = A 19 j := fun A k j h => by
    unfold m_new
    simp only [am_up_ap, h, ↓reduceIte, Nat.reduceEqDiff]
  have e5 : ∀ (A : aM) (k : Int32), m_new A k 19 5 = nI (mN A + 1) := fun A k => by unfold m_new; simp only [am_up_ap, ↓reduceIte]
  have e21 : ∀ (A : aM) (k : Int32), m_new A k 21 = upd (A 21) (mN A) k := fun A k => by unfold m_new; simp only [am_up_i, ↓reduceIte, Nat.reduceEqDiff]
  have e22 : ∀ (A : aM) (k : Int32), m_new A k 22 = upd (A 22) (mN A) 0 := fun A k => by unfold m_new; simp only [am_up_i, ↓reduceIte, Nat.reduceEqDiff]
  have e24 : ∀ (A : aM) (k : Int32), m_new A k 24 = upd (A 24) (mN A) (-1) := fun A k => by unfold m_new; simp only [am_up_i, ↓reduceIte, Nat.reduceEqDiff]
  have e25 : ∀ (A : aM) (k : Int32), m_new A k 25 = upd (A 25) (mN A) (-1) := fun A k => by unfold m_new; simp only [am_up_i, ↓reduceIte, Nat.reduceEqDiff]
  refine ⟨fun i a b c d e => ?_, fun j h => ?_, ?_, ?_, ?_, ?_, ?_⟩
  · rw [eC _ _ _ a b c d e, eC _ _ _ a b c d e, eC _ _ _ a b c d e]
  · rw [e9 _ _ _ h, e9 _ _ _ h, e9 _ _ _ h]
  · rw [e5, n2]
  · rw [e21, e21, e21, n1, n2]
  · rw [e22, e22, e22, n1, n2]
  · rw [e24, e24, e24, n1, n2]
  · rw [e25, e25, e25, n1, n2]
theorem O_p {A : aM} {o : Nat} {s : Bool} (h : SI true A) (hb : bs_ok A) (ho : mO A = o) (h15 : o < 15) (hs : s = false) : SI false (m_opP s o A) ∧ bs_ok (m_opP s o A) := by
  subst hs
  have e13 : m_opP false o A 19 13 = nI (o + 1) := by unfold m_opP; simp only [am_up_ap, ↓reduceIte]
  have e5 : m_opP false o A 19 5 = A 19 5 := by unfold m_opP; simp only [am_up_ap, ↓reduceIte, Nat.reduceEqDiff]
  have e11 : m_opP false o A 19 11 = A 19 11 := by unfold m_opP; simp only [am_up_ap, ↓reduceIte, Nat.reduceEqDiff]
  have eo : ∀ i, ¬ i = 19 → ¬ i = 29 → m_opP false o A i = A i := fun i h1 h2 => by unfold m_opP; rw [am_up_ne h1, am_up_ne h2]
  have e29 : m_opP false o A 29 = upd (A 29) o 0 := by unfold m_opP; simp only [am_up_i, ↓reduceIte, Nat.reduceEqDiff, Bool.false_eq_true]
  generalize m_opP false o A = N at e13 e5 e11 eo e29 ⊢
  have eN : mN N = mN A := by unfold mN; rw [e5]
  have eD : mD N = mD A := by unfold mD; rw [e11]
  have eO : mO N = o + 1 := by unfold mO; rw [e13]; exact nI_clamp (by omega)
  refine ⟨?_, ⟨by rw [eN, e5]; exact hb.1.1, by rw [eN]; exact hb.1.2⟩, ⟨by rw [eD, e11]; exact hb.2.1.1, by rw [eD]; exact hb.2.1.2⟩, ⟨by rw [eO, e13], by rw [eO]; omega⟩⟩
  unfold SI at h ⊢
  rw [eN, eD, eO, eo 21 (by decide) (by decide), eo 22 (by decide) (by decide), eo 24 (by decide) (by decide), eo 25 (by decide) (by decide), eo 27 (by decide) (by decide), eo 28 (by decide) (by decide), e29]
  rw [ho] at h
  exact S_push h
theorem O_q {A : aM} {o : Nat} (h : SI true A) (hb : bs_ok A) (ho : mO A = o) (h15 : o < 15) (hp : ¬ A 19 3 < 0) (hf : m_q3 (m_opP true o A) 19 4 < 0) : SI false (m_opQ o (m_opP true o A)) ∧ bs_ok (m_opQ o (m_opP true o A)) := by
  have e13 : m_opP true o A 19 13 = nI (o + 1) := by unfold m_opP; simp only [am_up_ap, ↓reduceIte]
  have e5 : m_opP true o A 19 5 = A 19 5 := by unfold m_opP; simp only [am_up_ap, ↓reduceIte, Nat.reduceEqDiff]
  have e3 : m_opP true o A 19 3 = A 19 3 := by unfold m_opP; simp only [am_up_ap, ↓reduceIte, Nat.reduceEqDiff]
  have e11 : m_opP true o A 19 11 = A 19 11 := by unfold m_opP; simp only [am_up_ap, ↓reduceIte, Nat.reduceEqDiff]
  have eo : ∀ i, ¬ i = 19 → ¬ i = 29 → m_opP true o A i = A i := fun i h1 h2 => by unfold m_opP; rw [am_up_ne h1, am_up_ne h2]
  have e29 : m_opP true o A 29 = upd (A 29) o 4 := by unfold m_opP; simp only [am_up_i, ↓reduceIte, Nat.reduceEqDiff]
  unfold m_opQ
  rw [if_pos hf]
  generalize m_opP true o A = B at e13 e5 e3 e11 eo e29 hf ⊢
  have eN : mN B = mN A := by unfold mN; rw [e5]
  have hcB : mc_ok B := ⟨by rw [eN, e5]; exact hb.1.1, by rw [eN]; exact hb.1.2⟩
  obtain ⟨x1, -, -, -, x5⟩ := nd_3 hcB (by rw [e3]; exact hp) hf
  obtain ⟨n1, n2, n3, n4, n5, n6, n7⟩ := new3 hcB x1
  rw [x5]
  generalize m_new (m_new (m_new B 4) 2) 4 = C at n1 n2 n3 n4 n5 n6 n7 ⊢
  rw [eN] at x1 n3 n4 n5 n6 n7 ⊢
  have v0 : C 22 (mN A + 1) = nI 0 := by
    rw [n5, upd_lt _ _ (by omega), upd_eq]
    rfl
  obtain ⟨q1, q2, q3⟩ := qL_22 (mN A + 1) 5 0 0 C v0 (by omega)
  generalize mqL (mN A + 1) 5 0 C = D at q1 q2 q3 ⊢
  have f13 : m_opL (mN A) o D 19 = C 19 := by unfold m_opL; rw [am_up_ne (by decide), am_up_ne (by decide), am_up_ne (by decide), am_up_ne (by decide), q1 19 (by decide) (by decide)]
  have f21 : m_opL (mN A) o D 21 = C 21 := by unfold m_opL; rw [am_up_ne (by decide), am_up_ne (by decide), am_up_ne (by decide), am_up_ne (by decide), q1 21 (by decide) (by decide)]
  have f22 : m_opL (mN A) o D 22 = D 22 := by unfold m_opL; rw [am_up_ne (by decide), am_up_ne (by decide), am_up_ne (by decide), am_up_ne (by decide)]
  have f24 : m_opL (mN A) o D 24 = upd (C 24) (mN A) (nI (mN A + 1)) := by
    unfold m_opL
    simp only [am_up_i, ↓reduceIte, Nat.reduceEqDiff]
    rw [q1 24 (by decide) (by decide)]
  have f25 : m_opL (mN A) o D 25 = upd (C 25) (mN A) (nI (mN A + 2)) := by
    unfold m_opL
    simp only [am_up_i, ↓reduceIte, Nat.reduceEqDiff]
    rw [q1 25 (by decide) (by decide)]
  have f27 : m_opL (mN A) o D 27 = upd (A 27) o (nI (mN A)) := by
    unfold m_opL
    simp only [am_up_i, ↓reduceIte, Nat.reduceEqDiff]
    rw [q1 27 (by decide) (by decide), n1 27 (by decide) (by decide) (by decide) (by decide) (by decide), eo 27 (by decide) (by decide)]
  have f28 : m_opL (mN A) o D 28 = upd (A 28) o (nI (mN A + 2)) := by
    unfold m_opL
    simp only [am_up_i, ↓reduceIte, Nat.reduceEqDiff]
    rw [q1 28 (by decide) (by decide), n1 28 (by decide) (by decide) (by decide) (by decide) (by decide), eo 28 (by decide) (by decide)]
  have f29 : m_opL (mN A) o D 29 = upd (A 29) o 4 := by
    unfold m_opL
    rw [am_up_ne (by decide), am_up_ne (by decide), am_up_ne (by decide), am_up_ne (by decide), q1 29 (by decide) (by decide), n1 29 (by decide) (by decide) (by decide) (by decide) (by decide), e29]
  generalize m_opL (mN A) o D = N at f13 f21 f22 f24 f25 f27 f28 f29 ⊢
  have g13 : N 19 13 = nI (o + 1) := by rw [f13, n2 13 (by decide), e13]
  have g5 : N 19 5 = nI (mN A + 3) := by rw [f13, n3]
  have g11 : N 19 11 = A 19 11 := by rw [f13, n2 11 (by decide), e11]
  have eN2 : mN N = mN A + 3 := by unfold mN; rw [g5]; exact nI_clamp (by have : mN A = cl (A 19 5) := rfl; omega)
  have eD : mD N = mD A := by unfold mD; rw [g11]
  have eO : mO N = o + 1 := by unfold mO; rw [g13]; exact nI_clamp (by omega)
  refine ⟨?_, ⟨by rw [eN2, g5], by rw [eN2]; omega⟩, ⟨by rw [eD, g11]; exact hb.2.1.1, by rw [eD]; exact hb.2.1.2⟩, ⟨by rw [eO, g13], by rw [eO]; omega⟩⟩
  unfold SI at h ⊢
  rw [eN2, eD, eO, f21, f22, f24, f25, f27, f28, f29, n4, n6, n7, eo 21 (by decide) (by decide), eo 24 (by decide) (by decide), eo 25 (by decide) (by decide)]
  rw [ho] at h
  refine S_pushQ h x1 (fun x hx => ?_) q3
  rw [q2 x (by omega), n5, upd_lt _ _ (by omega), upd_lt _ _ (by omega), upd_lt _ _ hx, eo 22 (by decide) (by decide)]
theorem T_open {M : aM} (q : Bool) (h : SI false M) (hb : bs_ok M) (hp : ¬ M 19 3 < 0) : 0 ≤ m_open q M 19 4 ∨ (SI false (m_open q M) ∧ bs_ok (m_open q M)) := by
  have h15 := hb.2.2.2
  unfold m_open
  by_cases cf : m_opA M 19 4 < 0
  · rw [if_pos cf]
    have c15 : ¬ mO M = 15 := fun c => by
      unfold m_opA at cf
      rw [if_pos c] at cf
      exact failM_ge (by rw [beg_19 M 3 (by decide) (by decide)]; exact hp) cf
    have eA : m_opA M = m_beg M := by unfold m_opA; rw [if_neg c15]
    rw [eA] at cf ⊢
    obtain ⟨g1, g2, g3, g4, g5⟩ := T_beg h hb hp cf
    have g6 : m_beg M 19 3 = M 19 3 := beg_19 M 3 (by decide) (by decide)
    generalize m_beg M = A at cf g1 g2 g3 g4 g6 ⊢
    cases q
    · rw [if_neg (by decide)]
      exact Or.inr (O_p g1 g2 g3 (by omega) rfl)
    · rw [if_pos rfl]
      by_cases cg : m_q3 (m_opP true (mO M) A) 19 4 < 0
      · exact Or.inr (O_q g1 g2 g3 (by omega) (by rw [g6]; exact hp) cg)
      · left
        unfold m_opQ
        rw [if_neg cg]
        exact Int32.not_lt.mp cg
  · rw [if_neg cf]
    exact Or.inl (Int32.not_lt.mp cf)
theorem T_pt {M : aM} (h : SI false M) (hb : bs_ok M) (hp : ¬ M 19 3 < 0) : 0 ≤ m_pt M 19 4 ∨ (SI false (m_pt M) ∧ bs_ok (m_pt M)) := by
  unfold m_pt
  by_cases c : mO M = 0
  · rw [if_pos c]
    exact Or.inl (Int32.not_lt.mp (failM_ge hp))
  rw [if_neg c]
  obtain ⟨o, ho⟩ : ∃ o, mO M = o + 1 := ⟨mO M - 1, by omega⟩
  have ho1 : mO M - 1 = o := by omega
  rw [ho1]
  by_cases c1 : M 29 o = 1
  · rw [if_pos c1]
    right
    refine ⟨?_, hb⟩
    unfold SI at h
    rw [ho] at h
    have q := S_pt h c1
    rw [← ho] at q
    exact q
  · rw [if_neg c1]
    exact Or.inl (Int32.not_lt.mp (failM_ge hp))
end
section
/-! READING KEEPS ITS STATE: closing, data, the loop -/
theorem new_c (A : aM) (k : Int32) : (∀ i, ¬ i = 19 → ¬ i = 21 → ¬ i = 22 → ¬ i = 24 → ¬ i = 25 → m_new A k i = A i) ∧ (∀ j, ¬ j = 5 → m_new A k 19 j = A 19 j) ∧ m_new A k 19 5 = nI (mN A + 1) ∧ m_new A k 21 = upd (A 21) (mN A) k ∧ m_new A k 22 = upd (A 22) (mN A) 0 ∧ m_new A k 24 = upd (A 24) (mN A) (-1) ∧ m_new A k 25 = upd (A 25) (mN A) (-1) := by
  refine ⟨fun i a b c d e => ?_, fun j h => ?_, ?_, ?_, ?_, ?_, ?_⟩
  · unfold m_new
    rw [am_up_ne a, am_up_ne e, am_up_ne d, am_up_ne c, am_up_ne b]
  · unfold m_new
    simp only [am_up_ap, h, ↓reduceIte, Nat.reduceEqDiff]
  · unfold m_new; simp only [am_up_ap, ↓reduceIte]
  · unfold m_new; simp only [am_up_i, ↓reduceIte, Nat.reduceEqDiff]
  · unfold m_new; simp only [am_up_i, ↓reduceIte, Nat.reduceEqDiff]
  · unfold m_new; simp only [am_up_i, ↓reduceIte, Nat.reduceEqDiff]
  · unfold m_new; simp only [am_up_i, ↓reduceIte, Nat.reduceEqDiff]
/-- the state behind a bracket's end, before the datum ends -/
def cl_st (M : aM) (p : Int32 × aM) (o : Nat) : Prop := SI true (am_up p.2 19 13 (nI o)) ∧ bs_ok (am_up p.2 19 13 (nI o)) ∧ mO (am_up p.2 19 13 (nI o)) = o ∧ ∃ m, p.1 = nI m ∧ dt_ok (am_up p.2 19 13 (nI o)) m
theorem cl_mk {M N : aM} {n' o : Nat} {w : Int32} {m : Nat} (hb : bs_ok M) (ho : mO M = o + 1) (hn : n' ≤ 200) (e5 : N 19 5 = nI n') (e11 : N 19 11 = M 19 11) (e28 : N 28 = M 28) (hw : w = nI m) (hS : SIr true n' (mD M) o (N 21) (N 22) (N 24) (N 25) (N 27) (M 28) (N 29)) (hm : m < n') (h0 : o = 0 → mD M ≤ m) (h1 : 0 < o → cl (M 28 (o - 1)) < m) : cl_st M (w, N) o := by
  have h15 := hb.2.2.2
  have f13 : am_up N 19 13 (nI o) 19 13 = nI o := by simp only [am_up_ap, ↓reduceIte]
  have f5 : am_up N 19 13 (nI o) 19 5 = nI n' := by simp only [am_up_ap, ↓reduceIte, Nat.reduceEqDiff]; exact e5
  have f11 : am_up N 19 13 (nI o) 19 11 = M 19 11 := by simp only [am_up_ap, ↓reduceIte, Nat.reduceEqDiff]; exact e11
  have fo : ∀ i, ¬ i = 19 → am_up N 19 13 (nI o) i = N i := fun i h => by rw [am_up_ne h]
  unfold cl_st
  show SI true (am_up N 19 13 (nI o)) ∧ bs_ok (am_up N 19 13 (nI o)) ∧ mO (am_up N 19 13 (nI o)) = o ∧ ∃ m, w = nI m ∧ dt_ok (am_up N 19 13 (nI o)) m
  generalize am_up N 19 13 (nI o) = P at f13 f5 f11 fo ⊢
  have eN : mN P = n' := by unfold mN; rw [f5]; exact nI_clamp (by omega)
  have eD : mD P = mD M := by unfold mD; rw [f11]
  have eO : mO P = o := by unfold mO; rw [f13]; exact nI_clamp (by omega)
  refine ⟨?_, ⟨⟨by rw [eN, f5], by rw [eN]; exact hn⟩, ⟨by rw [eD, f11]; exact hb.2.1.1, by rw [eD]; exact hb.2.1.2⟩, ⟨by rw [eO, f13], by rw [eO]; omega⟩⟩, eO, m, hw, ?_⟩
  · unfold SI
    rw [eN, eD, eO, fo 21 (by decide), fo 22 (by decide), fo 24 (by decide), fo 25 (by decide), fo 27 (by decide), fo 28 (by decide), fo 29 (by decide), e28]
    exact hS
  · refine ⟨by rw [eN]; exact hm, fun z => ?_, fun z => ?_⟩
    · rw [eD]; exact h0 (by omega)
    · rw [eO, fo 28 (by decide), e28]; exact h1 (by omega)
theorem C_cl {M : aM} {o : Nat} (h : SI false M) (hb : bs_ok M) (hp : ¬ M 19 3 < 0) (ho : mO M = o + 1) (hno : cl_no M = false) (hcf : (m_clN M).2 19 4 < 0) : cl_st M (m_clN M) o := by
  have ho1 : mO M - 1 = o := by omega
  have h200 := hb.1.2
  have n4 : ¬ M 29 o = 4 ∧ ¬ M 29 o = 2 := by
    unfold cl_no at hno
    rw [ho1] at hno
    simp only [Bool.or_eq_false_iff, decide_eq_false_iff_not] at hno
    exact ⟨hno.1.2, hno.2⟩
  unfold SI at h
  rw [ho] at h
  have hl : 0 < o → cl (M 28 (o - 1)) < mN M := fun z => (h.2.1.low (k := o - 1) (by omega)).2.2.2.2.1
  unfold m_clN at hcf ⊢
  rw [ho1] at hcf ⊢
  rcases h.2.1 o (by omega) with ⟨a, -, -⟩ | ⟨a, hN⟩
  · have lt : M 29 o < 2 := by rw [a]; decide
    rw [if_pos lt, if_pos a] at hcf ⊢
    obtain ⟨hn, -⟩ := nd_4 hp hcf
    have q := S_cl0 h a (by omega)
    rw [nd_s hn]
    obtain ⟨n1, n2, n3, n4, n5, n6, n7⟩ := new_c M 5
    refine cl_mk (n' := mN M + 1) (m := mN M) hb ho (by omega) n3 (n2 11 (by decide)) (n1 28 (by decide) (by decide) (by decide) (by decide) (by decide)) rfl ?_ (by omega) (fun _ => h.2.2.1) hl
    rw [n4, n5, n6, n7, n1 27 (by decide) (by decide) (by decide) (by decide) (by decide), n1 29 (by decide) (by decide) (by decide) (by decide) (by decide)]
    exact q
  · obtain ⟨f1, f2, f3, f4, f5, f6⟩ := hN
    rcases a with a | a | a | ⟨a, -, -⟩
    · have lt : M 29 o < 2 := by rw [a]; decide
      have ne : ¬ M 29 o = 0 := by rw [a]; decide
      rw [if_pos lt, if_neg ne] at hcf ⊢
      have hcf2 : (m_nd M 5).2 19 4 < 0 := by
        have e : am_up (m_nd M 5).2 25 (cl (M 28 o)) (m_nd M 5).1 19 4 = (m_nd M 5).2 19 4 := by rw [am_up_ne (by decide)]
        rw [← e]
        exact hcf
      obtain ⟨hn, -⟩ := nd_4 hp hcf2
      have q := S_cl1 h a (by omega)
      rw [nd_s hn]
      obtain ⟨n1, n2, n3, n4, n5, n6, n7⟩ := new_c M 5
      have g : ∀ i, ¬ i = 25 → am_up (m_new M 5) 25 (cl (M 28 o)) (nI (mN M)) i = m_new M 5 i := fun i hi => by rw [am_up_ne hi]
      have g25 : am_up (m_new M 5) 25 (cl (M 28 o)) (nI (mN M)) 25 = upd (m_new M 5 25) (cl (M 28 o)) (nI (mN M)) := by simp only [am_up_i, ↓reduceIte]
      refine cl_mk (n' := mN M + 1) (m := cl (M 27 o)) hb ho (by omega) (by rw [g 19 (by decide)]; exact n3) (by rw [g 19 (by decide)]; exact n2 11 (by decide)) (by rw [g 28 (by decide)]; exact n1 28 (by decide) (by decide) (by decide) (by decide) (by decide)) f1 ?_ (by omega) f5 f6
      rw [g 21 (by decide), g 22 (by decide), g 24 (by decide), g 27 (by decide), g 29 (by decide), g25, n4, n5, n6, n7, n1 27 (by decide) (by decide) (by decide) (by decide) (by decide), n1 29 (by decide) (by decide) (by decide) (by decide) (by decide)]
      exact q
    · exact absurd a n4.2
    · exact absurd a n4.1
    · have lt : ¬ M 29 o < 2 := by rw [a]; decide
      rw [if_neg lt]
      exact cl_mk (n' := mN M) (m := cl (M 27 o)) hb ho (by omega) hb.1.1 rfl rfl f1 (S_cl3 h a) (by omega) f5 f6
theorem T_closeP {M : aM} (h : SI false M) (hb : bs_ok M) (hp : ¬ M 19 3 < 0) : cl_no M = false → (m_clN M).2 19 4 < 0 → en_ok (am_up (m_clN M).2 19 13 (nI (mO M - 1))) := by
  intro h1 h2
  have c0 : ¬ mO M = 0 := fun c => by
    unfold cl_no at h1
    rw [decide_eq_true c] at h1
    simp at h1
  obtain ⟨o, ho⟩ : ∃ o, mO M = o + 1 := ⟨mO M - 1, by omega⟩
  obtain ⟨a, b, -, m, -, d⟩ := C_cl h hb hp ho h1 h2
  rw [show mO M - 1 = o by omega]
  exact T_en a b d
theorem T_close {M : aM} (h : SI false M) (hb : bs_ok M) (hp : ¬ M 19 3 < 0) : 0 ≤ m_close M 19 4 ∨ (SI false (m_close M) ∧ bs_ok (m_close M)) := by
  unfold m_close
  by_cases c : cl_no M = true
  · rw [if_pos c]
    exact Or.inl (Int32.not_lt.mp (failM_ge hp))
  rw [if_neg c]
  have h1 : cl_no M = false := Bool.eq_false_iff.mpr c
  by_cases cf : (m_clN M).2 19 4 < 0
  · rw [if_pos cf]
    have c0 : ¬ mO M = 0 := fun c => by
      unfold cl_no at h1
      rw [decide_eq_true c] at h1
      simp at h1
    obtain ⟨o, ho⟩ : ∃ o, mO M = o + 1 := ⟨mO M - 1, by omega⟩
    obtain ⟨a, b, e, m, w, d⟩ := C_cl h hb hp ho h1 cf
    have f4 : am_up (m_clN M).2 19 13 (nI o) 19 4 = (m_clN M).2 19 4 := by simp only [am_up_ap, ↓reduceIte, Nat.reduceEqDiff]
    have f3 : am_up (m_clN M).2 19 13 (nI o) 19 3 = M 19 3 := by
      simp only [am_up_ap, ↓reduceIte, Nat.reduceEqDiff]
      exact (frm_clN M).2 3 (Or.inr (Or.inr (Or.inl rfl)))
    rw [show mO M - 1 = o by omega, w]
    exact T_end (mO M) _ m (by omega) a b (by rw [f4]; exact cf) (by rw [f3]; exact hp) d
  · rw [if_neg cf]
    exact Or.inl (Int32.not_lt.mp cf)
theorem m_end_f {M : aM} {f : Nat} {n : Int32} (h : 0 ≤ M 19 4) : m_end (f + 1) n M = M := by
  rw [m_end, if_pos h]
theorem T_dat {M : aM} {k : Int32} (h : SI false M) (hb : bs_ok M) (ht : mt_ok M) (hpl : pl_ok M) (hk : at_kd M k) (h4 : M 19 4 < 0) : d_pre M k ∧ (0 ≤ m_dat M k 19 4 ∨ (SI false (m_dat M k) ∧ bs_ok (m_dat M k))) := by
  obtain ⟨p1, p2, p3, p4⟩ := hpl
  have h400 := ht.2
  have hp : ¬ M 19 3 < 0 := by rw [p1]; exact nI_pos (by omega)
  have hB := frm_beg M
  unfold d_pre m_dat
  by_cases cf : m_beg M 19 4 < 0
  · obtain ⟨g1, g2, g3, g4, -⟩ := T_beg h hb hp cf
    rw [if_pos cf]
    generalize m_beg M = B at cf g1 g2 g3 g4 hB ⊢
    have b1 := hB.2 1 (Or.inl rfl)
    have b2 := hB.2 2 (Or.inr (Or.inl rfl))
    have b3 := hB.2 3 (Or.inr (Or.inr (Or.inl rfl)))
    have b20 := hB.1 20 (Or.inr (Or.inl rfl))
    have eT : m_tl B = m_tl M := by unfold m_tl; rw [b1]
    have eP : m_pl B = m_pl M := by unfold m_pl; rw [b3]
    have eE : m_e B = m_e M := by unfold m_e; rw [b2]
    have htB : mt_ok B := ⟨by rw [eT, b1]; exact ht.1, by rw [eT]; exact ht.2⟩
    have hplB : pl_ok B := ⟨by rw [eP, b3]; exact p1, by rw [eE, b2]; exact p2, by rw [eP, eE]; exact p3, by rw [eE, eT]; exact p4⟩
    have hkB : at_kd B k := by
      unfold at_kd
      rw [eE, eP, eT, b20]
      exact hk
    have hpB : ¬ B 19 3 < 0 := by rw [b3]; exact hp
    by_cases c2 : mN B = 200
    · have ea : m_atom B k = (0, failM B (B 19 3)) := by unfold m_atom; rw [if_pos c2]
      rw [ea]
      have z : 0 ≤ failM B (B 19 3) 19 4 := Int32.not_lt.mp (failM_ge hpB)
      have eO : mO (failM B (B 19 3)) = mO B := by
        unfold mO failM
        simp only [am_up_ap, ↓reduceIte, Nat.reduceEqDiff]
      refine ⟨fun _ => ⟨⟨g2.1, htB, hplB, hkB⟩, Or.inl z, by rw [eO]; exact g3⟩, ?_⟩
      left
      rw [m_end_f z]
      exact z
    · have ea : m_atom B k = (nI (mN B), m_atmM B k) := by unfold m_atom; rw [if_neg c2]
      rw [ea]
      obtain ⟨t1, t2, t3, t4, t5, t6, t7⟩ := T_atom g1 g2 c2 hkB (by rw [eE]; omega)
      have t8 : m_atmM B k 19 3 = B 19 3 := by
        have := (frm_atom B k).2 3 (Or.inr (Or.inr (Or.inl rfl)))
        rw [ea] at this
        exact this
      have hla : 0 < mO B → cl (B 28 (mO B - 1)) < mN B := fun z => (g1.2.1.all (k := mO B - 1) (by omega)).2.2.2.2.1
      have hdn := g1.2.2.1
      generalize m_atmM B k = N at t1 t2 t3 t4 t5 t6 t7 t8 ⊢
      have hdt : dt_ok N (mN B) := ⟨by omega, fun _ => by rw [t5]; exact hdn, fun z => by rw [t4] at z ⊢; rw [t6]; exact hla z⟩
      refine ⟨fun _ => ⟨⟨g2.1, htB, hplB, hkB⟩, Or.inr (T_en t1 t2 hdt), by show mO N = mO M; omega⟩, ?_⟩
      exact T_end (mO M + 1) N (mN B) (by omega) t1 t2 (by rw [t7]; exact cf) (by rw [t8]; exact hpB) hdt
  · rw [if_neg cf]
    exact ⟨fun z => absurd z cf, Or.inl (Int32.not_lt.mp cf)⟩
end
section
/-! READ, AS A WHOLE -/
def frx (M N : aM) : Prop := (∀ i, i < 19 ∨ i = 20 ∨ 30 ≤ i → N i = M i) ∧ N 19 1 = M 19 1 ∧ N 19 18 = M 19 18
theorem frx.tr {M N P : aM} (h1 : frx M N) (h2 : frx N P) : frx M P := ⟨fun i hi => (h2.1 i hi).trans (h1.1 i hi), h2.2.1.trans h1.2.1, h2.2.2.trans h1.2.2⟩
theorem frx.rf (M : aM) : frx M M := ⟨fun _ _ => rfl, rfl, rfl⟩
theorem frm.x {M N : aM} (h : frm M N) : frx M N := ⟨h.1, h.2 1 (Or.inl rfl), h.2 18 (Or.inr (Or.inr (Or.inr rfl)))⟩
theorem tkP_c (M : aM) (s : Nat) : (∀ i, ¬ i = 19 → tkP M s i = M i) ∧ (∀ j, ¬ j = 2 → ¬ j = 3 → tkP M s 19 j = M 19 j) ∧ tkP M s 19 2 = nI s ∧ tkP M s 19 3 = nI s := by
  unfold tkP
  refine ⟨fun i h => by rw [am_up_ne h, am_up_ne h], fun j h1 h2 => ?_, ?_, ?_⟩
  · simp only [am_up_ap, h1, h2, ↓reduceIte]
  · simp only [am_up_ap, ↓reduceIte, Nat.reduceEqDiff]
  · simp only [am_up_ap, ↓reduceIte]
theorem tk2_c (M : aM) (s : Nat) (a : Int32) : (∀ i, ¬ i = 19 → am_up (tkP M s) 19 2 a i = M i) ∧ (∀ j, ¬ j = 2 → ¬ j = 3 → am_up (tkP M s) 19 2 a 19 j = M 19 j) ∧ am_up (tkP M s) 19 2 a 19 2 = a ∧ am_up (tkP M s) 19 2 a 19 3 = nI s := by
  obtain ⟨a1, a2, a3, a4⟩ := tkP_c M s
  refine ⟨fun i h => by rw [am_up_ne h, a1 i h], fun j h1 h2 => ?_, ?_, ?_⟩
  · simp only [am_up_ap, h1, ↓reduceIte]; exact a2 j h1 h2
  · simp only [am_up_ap, ↓reduceIte]
  · simp only [am_up_ap, ↓reduceIte, Nat.reduceEqDiff]; exact a4
/-- a memory that differs in at and place alone -/
def tkx (M N : aM) : Prop := (∀ i, ¬ i = 19 → N i = M i) ∧ (∀ j, ¬ j = 2 → ¬ j = 3 → N 19 j = M 19 j)
theorem tkx.x {M N : aM} (h : tkx M N) : frx M N := ⟨fun i hi => h.1 i (by omega), h.2 1 (by decide) (by decide), h.2 18 (by decide) (by decide)⟩
theorem tkx_N {M N : aM} (h : tkx M N) : mN N = mN M ∧ mD N = mD M ∧ mO N = mO M ∧ m_tl N = m_tl M := by
  unfold mN mD mO m_tl
  rw [h.2 5 (by decide) (by decide), h.2 11 (by decide) (by decide), h.2 13 (by decide) (by decide), h.2 1 (by decide) (by decide)]
  exact ⟨rfl, rfl, rfl, rfl⟩
theorem tkx_SI {M N : aM} (h : tkx M N) {bg : Bool} (hs : SI bg M) : SI bg N := by
  obtain ⟨a, b, c, -⟩ := tkx_N h
  unfold SI at hs ⊢
  rw [a, b, c, h.1 21 (by decide), h.1 22 (by decide), h.1 24 (by decide), h.1 25 (by decide), h.1 27 (by decide), h.1 28 (by decide), h.1 29 (by decide)]
  exact hs
theorem tkx_bs {M N : aM} (h : tkx M N) (hb : bs_ok M) : bs_ok N := by
  obtain ⟨a, b, c, -⟩ := tkx_N h
  unfold bs_ok mc_ok md_ok op_ok
  rw [a, b, c, h.2 5 (by decide) (by decide), h.2 11 (by decide) (by decide), h.2 13 (by decide) (by decide)]
  exact hb
theorem tkx_mt {M N : aM} (h : tkx M N) (ht : mt_ok M) : mt_ok N := by
  unfold mt_ok
  rw [(tkx_N h).2.2.2, h.2 1 (by decide) (by decide)]
  exact ht
theorem ls_of {M : aM} (h : SI false M) (hb : bs_ok M) : ls_ok M := fun o ho hs => by
  have h200 := hb.1.2
  rcases h.2.1 o ho with ⟨a, -, -⟩ | ⟨-, a⟩
  · exact absurd a hs
  · rw [a.2.1]
    exact vp_in_nI (by have := a.2.2.2.1; omega) (by decide)
theorem frm_mt {M N : aM} (h : frm M N) (ht : mt_ok M) (hb : tb_ok M) (ha : at_ok M) : mt_ok N ∧ tb_ok N ∧ at_ok N ∧ m_tl N = m_tl M ∧ cl (N 19 2) = cl (M 19 2) := by
  have e1 := h.2 1 (Or.inl rfl)
  have e2 := h.2 2 (Or.inr (Or.inl rfl))
  have e20 := h.1 20 (Or.inr (Or.inl rfl))
  have eT : m_tl N = m_tl M := by unfold m_tl; rw [e1]
  refine ⟨⟨by rw [eT, e1]; exact ht.1, by rw [eT]; exact ht.2⟩, ?_, ⟨by rw [e2]; exact ha.1, by rw [e2, eT]; exact ha.2⟩, eT, by rw [e2]⟩
  intro i hi
  rw [e20]
  rw [eT] at hi
  exact hb i hi
theorem act_ok {N : aM} {k : Int32} (h : SI false N) (hb : bs_ok N) (ht : mt_ok N) (hpl : pl_ok N) (h4 : N 19 4 < 0) (hk : k = 6 ∨ k = 7 ∨ k = 8 ∨ k = 9 ∨ ((k = 1 ∨ k = 2 ∨ k = 3) ∧ at_kd N k)) : a_pre N k ∧ (0 ≤ m_act N k 19 4 ∨ (SI false (m_act N k) ∧ bs_ok (m_act N k))) := by
  have h400 := ht.2
  have hp : ¬ N 19 3 < 0 := by
    rw [hpl.1]
    have := hpl.2.2.1
    have := hpl.2.2.2
    exact nI_pos (by omega)
  have base : mc_ok N ∧ op_ok N ∧ ls_ok N ∧ ¬ N 19 3 < 0 := ⟨hb.1, hb.2.2, ls_of h hb, hp⟩
  unfold a_pre m_act
  rcases hk with rfl | rfl | rfl | rfl | ⟨hk, ha⟩
  · rw [if_pos rfl]
    exact ⟨⟨base, fun z => absurd z (by decide), fun z => by rcases z with z | z | z <;> exact absurd z (by decide)⟩, T_open false h hb hp⟩
  · rw [if_neg (by decide), if_neg (by decide), if_pos rfl]
    exact ⟨⟨base, fun _ => T_closeP h hb hp, fun z => by rcases z with z | z | z <;> exact absurd z (by decide)⟩, T_close h hb hp⟩
  · rw [if_neg (by decide), if_pos rfl]
    exact ⟨⟨base, fun z => absurd z (by decide), fun z => by rcases z with z | z | z <;> exact absurd z (by decide)⟩, T_open true h hb hp⟩
  · rw [if_neg (by decide), if_neg (by decide), if_neg (by decide), if_pos rfl]
    exact ⟨⟨base, fun z => absurd z (by decide), fun z => by rcases z with z | z | z <;> exact absurd z (by decide)⟩, T_pt h hb hp⟩
  · have q := T_dat h hb ht hpl ha h4
    rcases hk with rfl | rfl | rfl
    · rw [if_neg (by decide), if_neg (by decide), if_neg (by decide), if_neg (by decide)]
      exact ⟨⟨base, fun z => absurd z (by decide), fun _ => q.1⟩, q.2⟩
    · rw [if_neg (by decide), if_neg (by decide), if_neg (by decide), if_neg (by decide)]
      exact ⟨⟨base, fun z => absurd z (by decide), fun _ => q.1⟩, q.2⟩
    · rw [if_neg (by decide), if_neg (by decide), if_neg (by decide), if_neg (by decide)]
      exact ⟨⟨base, fun z => absurd z (by decide), fun _ => q.1⟩, q.2⟩
theorem rd_all {Kf : aM → Prop} : ∀ (f : Nat) (M : aM), m_tl M - cl (M 19 2) < f → (0 ≤ M 19 4 ∨ (SI false M ∧ bs_ok M ∧ mt_ok M ∧ tb_ok M ∧ at_ok M)) → (∀ N, frx M N → (0 ≤ N 19 4 ∨ (SI false N ∧ bs_ok N ∧ mO N = 0)) → Kf N) → m_rd Kf f M := by
  intro f
  induction f with
  | zero =>
    intro M h
    omega
  | succ f ih =>
    intro M hf hM hK
    rw [m_rd]
    by_cases c0 : 0 ≤ M 19 4
    · rw [if_pos c0]
      exact hK M (frx.rf M) (Or.inl c0)
    rw [if_neg c0]
    obtain ⟨hS, hb, ht, htb, hat⟩ := hM.resolve_left c0
    have h4 : M 19 4 < 0 := Int32.not_le.mp c0
    have h400 := ht.2
    refine ⟨⟨ht, htb, hat⟩, ?_⟩
    have htx : tx_ok (vw M) := ht
    have hsl := f_skip_le (M := vw M) (pos := cl (M 19 2)) hat.2
    rw [vw_tl] at hsl
    have hss : sc_s (vw M) (cl (M 19 2)) = f_skip (vw M) (cl (M 19 2)) := by rfl
    rw [← hss] at hsl
    by_cases ce : sc_e (vw M) (cl (M 19 2)) = -1
    · rw [if_pos ce]
      intro a
      obtain ⟨a1, a2, a3, a4⟩ := tk2_c M (sc_s (vw M) (cl (M 19 2))) a
      generalize am_up (tkP M (sc_s (vw M) (cl (M 19 2)))) 19 2 a = N at a1 a2 a3 a4 ⊢
      have hx : tkx M N := ⟨a1, a2⟩
      refine hK _ (hx.x.tr (frm_fail N _).x) (Or.inl ?_)
      exact Int32.not_lt.mp (failM_ge (nI_pos (by omega)))
    rw [if_neg ce]
    by_cases c10 : sc_k (vw M) (cl (M 19 2)) = 10
    · rw [if_pos c10]
      refine ⟨hb.2.2, ?_⟩
      obtain ⟨a1, a2, a3, a4⟩ := tkP_c M (sc_s (vw M) (cl (M 19 2)))
      generalize tkP M (sc_s (vw M) (cl (M 19 2))) = N at a1 a2 a3 a4 ⊢
      have hx : tkx M N := ⟨a1, a2⟩
      unfold m_atEnd
      by_cases cO : mO N = 0
      · rw [if_pos cO]
        exact hK N hx.x (Or.inr ⟨tkx_SI hx hS, tkx_bs hx hb, cO⟩)
      · rw [if_neg cO]
        refine hK _ (hx.x.tr (frm_fail N _).x) (Or.inl ?_)
        refine Int32.not_lt.mp (failM_ge ?_)
        rw [a2 1 (by decide) (by decide), ht.1]
        exact nI_pos (by omega)
    rw [if_neg c10]
    obtain ⟨e, he, hse, hel⟩ := tend_in (M := vw M) htx (i := sc_s (vw M) (cl (M 19 2))) c10 ce
    have he2 : sc_e (vw M) (cl (M 19 2)) = nI e := he
    rw [vw_tl] at hel
    obtain ⟨a1, a2, a3, a4⟩ := tk2_c M (sc_s (vw M) (cl (M 19 2))) (sc_e (vw M) (cl (M 19 2)))
    have hkd : ∀ N : aM, tkx M N → N 19 2 = nI e → N 19 3 = nI (sc_s (vw M) (cl (M 19 2))) → (sc_k (vw M) (cl (M 19 2)) = 6 ∨ sc_k (vw M) (cl (M 19 2)) = 7 ∨ sc_k (vw M) (cl (M 19 2)) = 8 ∨ sc_k (vw M) (cl (M 19 2)) = 9 ∨ ((sc_k (vw M) (cl (M 19 2)) = 1 ∨ sc_k (vw M) (cl (M 19 2)) = 2 ∨ sc_k (vw M) (cl (M 19 2)) = 3) ∧ at_kd N (sc_k (vw M) (cl (M 19 2))))) := by
      intro N hx hN2 hN3
      have eE : m_e N = e := by unfold m_e; rw [hN2]; exact nI_clamp (by omega)
      have eP : m_pl N = sc_s (vw M) (cl (M 19 2)) := by unfold m_pl; rw [hN3]; exact nI_clamp (by omega)
      have hin : srt (bt (vw M 2) (tl (vw M)) (sc_s (vw M) (cl (M 19 2)))) = 10 ∨ _ := srt_in (bt (vw M 2) (tl (vw M)) (sc_s (vw M) (cl (M 19 2))))
      have hck : sc_k (vw M) (cl (M 19 2)) = srt (bt (vw M 2) (tl (vw M)) (sc_s (vw M) (cl (M 19 2)))) := by rfl
      rw [← hck] at hin he
      rcases hin with q | q | q | q | q | q | q | q | q
      · exact absurd q c10
      · rw [q] at he ⊢
        rw [ft_3, vw_2, vw_tl] at he
        refine Or.inr (Or.inr (Or.inr (Or.inr ⟨Or.inr (Or.inr rfl), Or.inr (Or.inr ⟨rfl, ?_⟩)⟩)))
        rw [eE, eP, (tkx_N hx).2.2.2, hx.1 20 (by decide)]
        exact he
      · exact Or.inr (Or.inr (Or.inl q))
      · exact Or.inl q
      · exact Or.inr (Or.inl q)
      · exact Or.inr (Or.inr (Or.inr (Or.inl q)))
      · exact Or.inr (Or.inr (Or.inr (Or.inr ⟨Or.inl q, Or.inl q⟩)))
      · rw [q] at he ⊢
        refine Or.inr (Or.inr (Or.inr (Or.inr ⟨Or.inr (Or.inl rfl), Or.inr (Or.inl ⟨rfl, ?_⟩)⟩)))
        rw [eE, eP]
        have hf : f_tend (vw M) (sc_s (vw M) (cl (M 19 2))) 2 = f_name (vw M) (sc_s (vw M) (cl (M 19 2))) := by
          unfold f_tend
          rw [if_neg (by decide), if_pos rfl]
        rw [hf] at he
        unfold f_name at he
        by_cases z : 12 < f_word (vw M) (sc_s (vw M) (cl (M 19 2))) - sc_s (vw M) (cl (M 19 2))
        · rw [if_pos z] at he
          exact absurd he.symm (nI_ne (by omega))
        · rw [if_neg z] at he
          have hwl := f_word_le htx (i := sc_s (vw M) (cl (M 19 2))) (by omega)
          have := (nI_eq (by omega) (by omega)).mp he
          omega
      · exfalso
        rw [q, ft_11] at he
        exact nI_ne (by omega) he.symm
    have hNe : tkN M = am_up (tkP M (sc_s (vw M) (cl (M 19 2)))) 19 2 (sc_e (vw M) (cl (M 19 2))) := by rfl
    rw [← hNe] at a1 a2 a3 a4
    rw [he2] at a3
    generalize tkN M = N at a1 a2 a3 a4 ⊢
    have hx : tkx M N := ⟨a1, a2⟩
    have hkd2 := hkd N hx a3 a4
    have htN := tkx_mt hx ht
    have eT := (tkx_N hx).2.2.2
    have eE : m_e N = e := by unfold m_e; rw [a3]; exact nI_clamp (by omega)
    have eP : m_pl N = sc_s (vw M) (cl (M 19 2)) := by unfold m_pl; rw [a4]; exact nI_clamp (by omega)
    have hplN : pl_ok N := ⟨by rw [eP, a4], by rw [eE, a3], by rw [eP, eE]; exact hse, by rw [eE, eT]; exact hel⟩
    have h4N : N 19 4 < 0 := by rw [a2 4 (by decide) (by decide)]; exact h4
    have htbN : tb_ok N := by
      intro i hi
      rw [a1 20 (by decide)]
      rw [eT] at hi
      exact htb i hi
    have hce : cl (N 19 2) = e := by rw [a3]; exact nI_clamp (by omega)
    have hatN : at_ok N := ⟨by rw [hce, a3], by rw [hce, eT]; exact hel⟩
    obtain ⟨p1, p2⟩ := act_ok (tkx_SI hx hS) (tkx_bs hx hb) htN hplN h4N hkd2
    refine ⟨p1, ?_⟩
    have hfr := frm_act N (sc_k (vw M) (cl (M 19 2)))
    generalize m_act N (sc_k (vw M) (cl (M 19 2))) = P at p2 hfr ⊢
    obtain ⟨r1, r2, r3, r4, r5⟩ := frm_mt hfr htN htbN hatN
    refine ih P (by rw [r4, r5, hce, eT]; omega) ?_ (fun Q hQ hq => hK Q ((hx.x.tr hfr.x).tr hQ) hq)
    exact p2.imp id (fun z => ⟨z.1, z.2, r1, r2, r3⟩)
end
section
/-! WHAT HOLDS BETWEEN CALLS, as far as safety and the text's length go -/
def I2 (M : aM) : Prop := (tx_ok M ∧ wt_ok M) ∧ (mt_ok M ∧ tb_ok M) ∧ M 1 1 = M 19 1 ∧ (mc_ok M ∧ md_ok M ∧ tr_ok M ∧ mw_ok M)
theorem mb_of {M : aM} (hc : mc_ok M) (h : tr_ok M) : mb_ok M := fun x hx => by
  unfold m_isT at hx
  simp only [Bool.and_eq_true, Bool.or_eq_true, decide_eq_true_eq] at hx
  have q := m_hasD hc hx.1
  obtain ⟨v, hv, e⟩ := (h (cl x) q.2.1).2.1 hx.2
  rw [e, show cl (nI v) = v from nI_clamp (by omega)]
  exact ⟨rfl, hv⟩
theorem I2.wq {M N : aM} (h : I2 M) (hr : wq_rel M N) : I2 N := by
  obtain ⟨⟨a1, a2⟩, ⟨b1, b2⟩, c, d1, d2, d3, d4⟩ := h
  have e1 := hr.1 1 (by decide) (by decide) (by decide) (by decide)
  have e16 := hr.1 16 (by decide) (by decide) (by decide) (by decide)
  have e20 := hr.1 20 (by decide) (by decide) (by decide) (by decide)
  have f1 := hr.2.1 1 (by decide)
  have f11 := hr.2.1 11 (by decide)
  refine ⟨⟨?_, ?_⟩, ⟨?_, ?_⟩, by rw [e1, f1]; exact c, hr.mc d1, ?_, hr.tree d3, hr.2.2⟩
  · unfold tx_ok tl; rw [e1]; exact a1
  · unfold wt_ok wf ww; rw [e16]; exact a2
  · unfold mt_ok m_tl; rw [f1]; exact b1
  · unfold tb_ok m_tl; rw [f1, e20]; exact b2
  · unfold md_ok mD; rw [f11]; exact d2
theorem I2.f9 {M N : aM} (h : I2 M) (hr : fr9 M N) (hw : wt_ok N) : I2 N := by
  obtain ⟨⟨a1, a2⟩, ⟨b1, b2⟩, c, d1, d2, d3, d4⟩ := h
  have e1 := hr 1 (by decide) (by decide)
  have e19 := hr 19 (by decide) (by decide)
  have e20 := hr 20 (by decide) (by decide)
  refine ⟨⟨?_, hw⟩, ⟨?_, ?_⟩, by rw [e1, e19]; exact c, ?_, ?_, ?_, ?_⟩
  · unfold tx_ok tl; rw [e1]; exact a1
  · unfold mt_ok m_tl; rw [e19]; exact b1
  · unfold tb_ok m_tl; rw [e19, e20]; exact b2
  · unfold mc_ok mN; rw [e19]; exact d1
  · unfold md_ok mD; rw [e19]; exact d2
  · unfold tr_ok mN; rw [e19, hr 21 (by decide) (by decide), hr 22 (by decide) (by decide), hr 24 (by decide) (by decide), hr 25 (by decide) (by decide)]; exact d3
  · unfold mw_ok mW; rw [e19]; exact d4
theorem putOk_D {M : aM} {n : Int32} (ht : tx_ok M) (h : d_putOk M n = true) : tl M + cl n ≤ 400 := by
  unfold d_putOk at h
  simp only [Bool.and_eq_true, Bool.not_eq_true', decide_eq_false_iff_not] at h
  have h1 : ¬ n < 0 := fun q => h.1.1 (Int32.lt_trans q (by decide))
  obtain ⟨j, hj, rfl⟩ := nI_of h1
  rw [show cl (nI j) = j from nI_clamp hj]
  have h8 : j ≤ 8 := Nat.le_of_not_lt (fun q => h.1.2 (nI_lt (a := 8) q hj))
  apply Nat.le_of_not_lt
  intro q
  apply h.2
  rw [ht.1, nI_add]
  exact nI_lt (a := 400) q (by have := ht.2; omega)
theorem putOk_M {M : aM} {n : Int32} (ht : mt_ok M) (h : m_putOk M n = true) : m_tl M + cl n ≤ 400 := by
  unfold m_putOk at h
  simp only [Bool.and_eq_true, Bool.not_eq_true', decide_eq_false_iff_not] at h
  have h1 : ¬ n < 0 := fun q => h.1.1 (Int32.lt_trans q (by decide))
  obtain ⟨j, hj, rfl⟩ := nI_of h1
  rw [show cl (nI j) = j from nI_clamp hj]
  have h8 : j ≤ 8 := Nat.le_of_not_lt (fun q => h.1.2 (nI_lt (a := 8) q hj))
  apply Nat.le_of_not_lt
  intro q
  apply h.2
  rw [ht.1, nI_add]
  exact nI_lt (a := 400) q (by have := ht.2; omega)
/-- the two memories of put -/
def p1M (M : aM) (v : Int64) (n : Int32) : aM := if d_putOk M n = true then d_putL v (cl n) M else M
def p2M (M : aM) (v : Int64) (n : Int32) : aM := if m_putOk M n = true then m_putL v (cl n) M else M
theorem p1_fr (M : aM) (v : Int64) (n : Int32) : ∀ i, 3 ≤ i → p1M M v n i = M i := fun i hi => by
  unfold p1M
  split
  · exact (fr_put v _ M).1 i hi
  · rfl
theorem p1_mt {M : aM} {v : Int64} {n : Int32} (h : I2 M) : mt_ok (p1M M v n) := by
  unfold mt_ok m_tl
  rw [p1_fr M v n 19 (by decide)]
  exact h.2.1.1
theorem p_eq {M : aM} {v : Int64} {n : Int32} (h : I2 M) : b2 (d_putOk M n) = b2 (m_putOk (p1M M v n) n) := by
  unfold d_putOk m_putOk
  rw [p1_fr M v n 19 (by decide), h.2.2.1]
theorem p_I2 {M : aM} {v : Int64} {n : Int32} (h : I2 M) : I2 (p2M (p1M M v n) v n) := by
  obtain ⟨⟨a1, a2⟩, ⟨b1, b2⟩, c, d1, d2, d3, d4⟩ := h
  have hfr := p1_fr M v n
  have hb : m_putOk (p1M M v n) n = d_putOk M n := by
    unfold d_putOk m_putOk
    rw [hfr 19 (by decide), c]
  have mt1 : mt_ok (p1M M v n) := by unfold mt_ok m_tl; rw [hfr 19 (by decide)]; exact b1
  have tb1 : tb_ok (p1M M v n) := by unfold tb_ok m_tl; rw [hfr 19 (by decide), hfr 20 (by decide)]; exact b2
  have key : tx_ok (p1M M v n) ∧ (mt_ok (p2M (p1M M v n) v n) ∧ tb_ok (p2M (p1M M v n) v n)) ∧ p1M M v n 1 1 = p2M (p1M M v n) v n 19 1 := by
    cases hq : d_putOk M n
    · have e2 : p2M (p1M M v n) v n = p1M M v n := by unfold p2M; rw [hb, hq]; rfl
      have e1 : p1M M v n = M := by unfold p1M; rw [hq]; rfl
      rw [e2, e1]
      exact ⟨a1, ⟨b1, b2⟩, c⟩
    · have e2 : p2M (p1M M v n) v n = m_putL v (cl n) (p1M M v n) := by unfold p2M; rw [hb, hq]; rfl
      have e1 : p1M M v n = d_putL v (cl n) M := by unfold p1M; rw [hq]; rfl
      have l1 := putOk_D a1 hq
      have l2 := putOk_M mt1 (by rw [hb]; exact hq)
      have g1 := (fr_put v (cl n) M).2 l1 a1
      have g2 := (fm_put v (cl n) (p1M M v n)).2.2 l2 mt1 tb1
      rw [e2]
      refine ⟨by rw [e1]; exact g1.1, ⟨g2.1, g2.2.1⟩, ?_⟩
      rw [g2.1.1, g2.2.2, show p1M M v n 1 1 = d_putL v (cl n) M 1 1 by rw [e1], g1.1.1, g1.2]
      have : tl M = m_tl (p1M M v n) := by
        unfold tl m_tl
        rw [hfr 19 (by decide), c]
      rw [this]
  have hq2 : (∀ i, ¬ i = 19 → ¬ i = 20 → p2M (p1M M v n) v n i = p1M M v n i) ∧ (∀ j, ¬ j = 1 → p2M (p1M M v n) v n 19 j = p1M M v n 19 j) := by
    unfold p2M
    split
    · exact ⟨(fm_put v _ _).1, (fm_put v _ _).2.1⟩
    · exact ⟨fun _ _ _ => rfl, fun _ _ => rfl⟩
  obtain ⟨k1, ⟨k2, k3⟩, k4⟩ := key
  generalize p2M (p1M M v n) v n = N at hq2 k2 k3 k4 ⊢
  have f1 := hq2.1 1 (by decide) (by decide)
  have f16 : N 16 = M 16 := (hq2.1 16 (by decide) (by decide)).trans (hfr 16 (by decide))
  have f5 : N 19 5 = M 19 5 := by rw [hq2.2 5 (by decide), hfr 19 (by decide)]
  have f11 : N 19 11 = M 19 11 := by rw [hq2.2 11 (by decide), hfr 19 (by decide)]
  have f18 : N 19 18 = M 19 18 := by rw [hq2.2 18 (by decide), hfr 19 (by decide)]
  have fo : ∀ i, 21 ≤ i → N i = M i := fun i hi => (hq2.1 i (by omega) (by omega)).trans (hfr i (by omega))
  refine ⟨⟨?_, ?_⟩, ⟨k2, k3⟩, by rw [f1]; exact k4, ?_, ?_, ?_, ?_⟩
  · unfold tx_ok tl; rw [f1]; exact k1
  · unfold wt_ok wf ww; rw [f16]; exact a2
  · unfold mc_ok mN; rw [f5]; exact d1
  · unfold md_ok mD; rw [f11]; exact d2
  · unfold tr_ok mN; rw [f5, fo 21 (by decide), fo 22 (by decide), fo 24 (by decide), fo 25 (by decide)]; exact d3
  · unfold mw_ok mW; rw [f18]; exact d4
theorem SIr_0 (kd vl hd tl fi la st : Nat → Int32) : SIr false 0 0 0 kd vl hd tl fi la st := ⟨fun x hx => by omega, fun k hk => by omega, by omega, by omega⟩
theorem r_I2 {M : aM} (h : I2 M) {K : aR} (hK : ∀ (r : Int32) (N : aM), I2 N → K (some (.int r)) N) : m_rd (fun N => K (some (.int (m_ans N))) (m_fin N)) 402 (m_r0 (am_up (rdT M) 1 1 0)) := by
  obtain ⟨⟨a1, a2⟩, ⟨b1, b2⟩, c, d1, d2, d3, d4⟩ := h
  have hfr := fr_read M
  have h11 : am_up (rdT M) 1 1 0 1 1 = 0 := by simp only [am_up_ap, ↓reduceIte]
  generalize am_up (rdT M) 1 1 0 = M1 at hfr h11 ⊢
  have z : (∀ i, ¬ i = 19 → m_r0 M1 i = M1 i) ∧ (∀ j, ¬ j = 4 → ¬ j = 2 → ¬ j = 5 → ¬ j = 11 → ¬ j = 13 → m_r0 M1 19 j = M1 19 j) ∧ m_r0 M1 19 4 = -1 ∧ m_r0 M1 19 2 = 0 ∧ m_r0 M1 19 5 = 0 ∧ m_r0 M1 19 11 = 0 ∧ m_r0 M1 19 13 = 0 := by
    unfold m_r0
    refine ⟨fun i hi => by rw [am_up_ne hi, am_up_ne hi, am_up_ne hi, am_up_ne hi, am_up_ne hi], fun j g1 g2 g3 g4 g5 => ?_, ?_, ?_, ?_, ?_, ?_⟩
    · simp only [am_up_ap, g1, g2, g3, g4, g5, ↓reduceIte]
    · simp only [am_up_ap, ↓reduceIte, Nat.reduceEqDiff]
    · simp only [am_up_ap, ↓reduceIte, Nat.reduceEqDiff]
    · simp only [am_up_ap, ↓reduceIte, Nat.reduceEqDiff]
    · simp only [am_up_ap, ↓reduceIte, Nat.reduceEqDiff]
    · simp only [am_up_ap, ↓reduceIte]
  generalize m_r0 M1 = R at z ⊢
  obtain ⟨z1, z2, z3, z4, z5, z6, z7⟩ := z
  have e1 : R 19 1 = M 19 1 := by rw [z2 1 (by decide) (by decide) (by decide) (by decide) (by decide), hfr 19 (by decide)]
  have e20 : R 20 = M 20 := by rw [z1 20 (by decide), hfr 20 (by decide)]
  have mtR : mt_ok R := by unfold mt_ok m_tl; rw [e1]; exact b1
  have tbR : tb_ok R := by unfold tb_ok m_tl; rw [e1, e20]; exact b2
  have nR : mN R = 0 := by unfold mN; rw [z5]; rfl
  have dR : mD R = 0 := by unfold mD; rw [z6]; rfl
  have oR : mO R = 0 := by unfold mO; rw [z7]; rfl
  have aR : cl (R 19 2) = 0 := by rw [z4]; rfl
  have hSI : SI false R := by unfold SI; rw [nR, dR, oR]; exact SIr_0 _ _ _ _ _ _ _
  have hbs : bs_ok R := ⟨⟨by rw [nR, z5]; rfl, by rw [nR]; omega⟩, ⟨by rw [dR, z6]; rfl, by rw [dR]; omega⟩, ⟨by rw [oR, z7]; rfl, by rw [oR]; omega⟩⟩
  refine rd_all 402 R (by rw [aR]; have := mtR.2; omega) (Or.inr ⟨hSI, hbs, mtR, tbR, ⟨by rw [aR, z4]; rfl, by rw [aR]; omega⟩⟩) ?_
  intro N hN hp
  apply hK
  have y : (∀ i, ¬ i = 19 → m_fin N i = N i) ∧ m_fin N 19 1 = 0 ∧ m_fin N 19 5 = (if 0 ≤ N 19 4 then 0 else N 19 5) ∧ m_fin N 19 11 = (if 0 ≤ N 19 4 then 0 else N 19 11) ∧ m_fin N 19 18 = N 19 18 := by
    unfold m_fin
    refine ⟨fun i hi => by rw [am_up_ne hi, am_up_ne hi, am_up_ne hi], ?_, ?_, ?_, ?_⟩
    · simp only [am_up_ap, ↓reduceIte, Nat.reduceEqDiff]
    · simp only [am_up_ap, ↓reduceIte, Nat.reduceEqDiff]
    · simp only [am_up_ap, ↓reduceIte]
    · simp only [am_up_ap, ↓reduceIte, Nat.reduceEqDiff]
  generalize m_fin N = F at y ⊢
  obtain ⟨y1, y2, y3, y4, y5⟩ := y
  have f1 : F 1 = M1 1 := by rw [y1 1 (by decide), hN.1 1 (by omega), z1 1 (by decide)]
  have f16 : F 16 = M 16 := by rw [y1 16 (by decide), hN.1 16 (by omega), z1 16 (by decide), hfr 16 (by decide)]
  have f18 : F 19 18 = M 19 18 := by rw [y5, hN.2.2, z2 18 (by decide) (by decide) (by decide) (by decide) (by decide), hfr 19 (by decide)]
  have m0 : m_tl F = 0 := by unfold m_tl; rw [y2]; rfl
  have t0 : tl F = 0 := by unfold tl; rw [f1, h11]; rfl
  have keyF : mc_ok F ∧ md_ok F ∧ tr_ok F := by
    by_cases cf : 0 ≤ N 19 4
    · rw [if_pos cf] at y3 y4
      have nF : mN F = 0 := by unfold mN; rw [y3]; rfl
      have dF : mD F = 0 := by unfold mD; rw [y4]; rfl
      exact ⟨⟨by rw [nF, y3]; rfl, by rw [nF]; omega⟩, ⟨by rw [dF, y4]; rfl, by rw [dF]; omega⟩, fun x hx => by omega⟩
    · rw [if_neg cf] at y3 y4
      obtain ⟨s1, s2, s3⟩ := hp.resolve_left cf
      have nF : mN F = mN N := by unfold mN; rw [y3]
      have dF : mD F = mD N := by unfold mD; rw [y4]
      refine ⟨⟨by rw [nF, y3]; exact s2.1.1, by rw [nF]; exact s2.1.2⟩, ⟨by rw [dF, y4]; exact s2.2.1.1, by rw [dF]; exact s2.2.1.2⟩, ?_⟩
      unfold SI at s1
      rw [s3] at s1
      have q := S_tree s1
      intro x hx
      rw [nF] at hx ⊢
      rw [y1 21 (by decide), y1 22 (by decide), y1 24 (by decide), y1 25 (by decide)]
      obtain ⟨q1, q2, q3⟩ := q x hx
      refine ⟨q1, q2, fun w => ?_⟩
      obtain ⟨⟨hh, u1, u2, u3⟩, ⟨tt, w1, w2, w3⟩⟩ := q3 w
      exact ⟨hh, tt, u1, w1, u2, u3, w2, w3⟩
  refine ⟨⟨⟨by rw [t0, f1, h11]; rfl, by rw [t0]; omega⟩, ?_⟩, ⟨⟨by rw [m0, y2]; rfl, by rw [m0]; omega⟩, fun i hi => by omega⟩, by rw [f1, h11, y2], keyF.1, keyF.2.1, keyF.2.2, ?_⟩
  · unfold wt_ok wf ww; rw [f16]; exact a2
  · unfold mw_ok mW; rw [f18]; exact d4
end
section
/-! the bytes that are put are the same on both sides -/
theorem pb_core (v A B : Int64) (s : Nat) (hs : s ≤ 56) (hA : A.toBitVec = v.toBitVec >>> s) (hB : B.toBitVec = v.toBitVec.sshiftRight s) : A.toInt32 &&& 255 = B.toInt32 &&& 255 := by
  apply Int32.toBitVec_inj.1
  rw [Int32.toBitVec_and, Int32.toBitVec_and, Int64.toBitVec_toInt32, Int64.toBitVec_toInt32, hA, hB]
  apply BitVec.eq_of_getLsbD_eq
  intro i hi
  rw [BitVec.getLsbD_and, BitVec.getLsbD_and]
  by_cases c : i < 8
  · rw [BitVec.getLsbD_signExtend, BitVec.getLsbD_signExtend, if_pos (by omega), if_pos (by omega), BitVec.getLsbD_ushiftRight, BitVec.getLsbD_sshiftRight, if_pos (by omega)]
    have : decide (64 ≤ i) = false := decide_eq_false (by omega)
    rw [this]
    simp
  · have q : ∀ j : Fin 32, 8 ≤ j.val → (255 : Int32).toBitVec.getLsbD j.val = false := by decide
    rw [q ⟨i, hi⟩ (by show 8 ≤ i; omega), Bool.and_false, Bool.and_false]
theorem pb_eq (v : Int64) {k : Nat} (hk : k < 8) : pb v k = mpb v k := by
  unfold pb mpb
  rcases (show k = 0 ∨ k = 1 ∨ k = 2 ∨ k = 3 ∨ k = 4 ∨ k = 5 ∨ k = 6 ∨ k = 7 by omega) with rfl | rfl | rfl | rfl | rfl | rfl | rfl | rfl
  · exact pb_core v _ _ 0 (by decide) rfl rfl
  · exact pb_core v _ _ 8 (by decide) rfl rfl
  · exact pb_core v _ _ 16 (by decide) rfl rfl
  · exact pb_core v _ _ 24 (by decide) rfl rfl
  · exact pb_core v _ _ 32 (by decide) rfl rfl
  · exact pb_core v _ _ 40 (by decide) rfl rfl
  · exact pb_core v _ _ 48 (by decide) rfl rfl
  · exact pb_core v _ _ 56 (by decide) rfl rfl
end
section
/-! THE ROW OF TOKENS, as the desk keeps it -/
theorem put_txt (v : Int64) : ∀ (k : Nat) (M N : aM), k ≤ 8 → M 2 = N 20 → tl M = m_tl N → tl M + k ≤ 400 → d_putL v k M 2 = m_putL v k N 20
  | 0, _, _, _, h, _, _ => h
  | k + 1, M, N, hk, h, ht, hl => by
    unfold d_putL m_putL
    have e1 : apd M (pb v k) 2 = upd (M 2) (tl M) (pb v k) := by unfold apd; simp only [am_up_i, ↓reduceIte, Nat.reduceEqDiff]
    have e2 : m_apd N (mpb v k) 20 = upd (N 20) (m_tl N) (mpb v k) := by unfold m_apd; simp only [am_up_i, ↓reduceIte, Nat.reduceEqDiff]
    refine put_txt v k _ _ (by omega) ?_ ?_ ?_
    · rw [e1, e2, h, ht, pb_eq v (by omega)]
    · rw [apd_tl (by omega), m_apd_tl (by omega), ht]
    · rw [apd_tl (by omega)]
      omega
/-- what tokens depend on -/
theorem sc_same {V M : aM} (h1 : V 1 1 = M 1 1) (h2 : V 2 = M 2) (p : Nat) : sc_s V p = sc_s M p ∧ sc_k V p = sc_k M p ∧ sc_e V p = sc_e M p := by
  have et : tl V = tl M := by unfold tl; rw [h1]
  have es : ∀ i, f_skip V i = f_skip M i := fun i => by unfold f_skip; rw [h2, et]
  have ea : ∀ i, f_at V i = f_at M i := fun i => by unfold f_at; rw [h1, h2]
  have ew : ∀ i, f_word V i = f_word M i := fun i => by unfold f_word; rw [h2, et]
  have en : ∀ i, f_num V i = f_num M i := fun i => by unfold f_num; rw [ew, h2]
  have em : ∀ i, f_name V i = f_name M i := fun i => by unfold f_name; rw [ew]
  have eq : ∀ i, f_str V i = f_str M i := fun i => by unfold f_str; rw [h2, et]
  have ef : ∀ i s, f_tend V i s = f_tend M i s := fun i s => by unfold f_tend; rw [en, em, eq, ea, h2, et]
  have k1 : sc_s V p = sc_s M p := es p
  have k2 : sc_k V p = sc_k M p := by unfold sc_k; rw [k1, h2, et]
  refine ⟨k1, k2, ?_⟩
  unfold sc_e
  rw [k1, k2, ef]
def pos (V : aM) : Nat → Nat
  | 0 => 0
  | i + 1 => cl (sc_e V (pos V i))
/-- all tokens before i are tokens, and none is the end -/
def okT (V : aM) (i : Nat) : Prop := ∀ j, j < i → ¬ sc_e V (pos V j) = -1 ∧ ¬ sc_k V (pos V j) = 10
theorem sc_in {V : aM} (h : tx_ok V) {p : Nat} (hp : p ≤ tl V) (h1 : ¬ sc_e V p = -1) (h2 : ¬ sc_k V p = 10) : ∃ e, sc_e V p = nI e ∧ p ≤ sc_s V p ∧ sc_s V p < e ∧ e ≤ tl V := by
  obtain ⟨e, a, b, c⟩ := tend_in (M := V) h (i := sc_s V p) h2 h1
  exact ⟨e, a, (f_skip_le (M := V) hp).1, b, c⟩
theorem pos_le {V : aM} (h : tx_ok V) : ∀ i, okT V i → i ≤ pos V i ∧ pos V i ≤ tl V
  | 0, _ => ⟨Nat.zero_le _, Nat.zero_le _⟩
  | i + 1, ho => by
    obtain ⟨a, b⟩ := pos_le h i (fun j hj => ho j (by omega))
    obtain ⟨c1, c2⟩ := ho i (by omega)
    obtain ⟨e, e1, e2, e3, e4⟩ := sc_in h b c1 c2
    have : pos V (i + 1) = e := by
      show cl (sc_e V (pos V i)) = e
      rw [e1]
      exact nI_clamp (by have := h.2; omega)
    rw [this]
    omega
/-- token i stands in the rows -/
def tok_at (V S : aM) (i : Nat) : Prop := S 13 i = (if sc_e V (pos V i) = -1 then 11 else sc_k V (pos V i)) ∧ S 14 i = nI (sc_s V (pos V i)) ∧ S 15 i = sc_e V (pos V i) ∧ ∃ c, S 12 3 = nI c ∧ i < c ∧ c ≤ 401
theorem scan_keep (V : aM) : ∀ (k i p : Nat) (M : aM) (j : Nat), j < i → scanM V k i p M 13 j = M 13 j ∧ scanM V k i p M 14 j = M 14 j ∧ scanM V k i p M 15 j = M 15 j
  | 0, _, _, M, _, _ => ⟨rfl, rfl, rfl⟩
  | k + 1, i, p, M, j, hj => by
    have h : sc_put V M i p 13 j = M 13 j ∧ sc_put V M i p 14 j = M 14 j ∧ sc_put V M i p 15 j = M 15 j := by
      have ne : ¬ j = i := by omega
      unfold sc_put
      simp only [am_up_ap, ne, ↓reduceIte, Nat.reduceEqDiff, and_self]
    unfold scanM
    split
    · exact h
    split
    · exact h
    · obtain ⟨a, b, c⟩ := scan_keep V k (i + 1) (cl (sc_e V p)) (sc_put V M i p) j (by omega)
      rw [a, b, c]
      exact h
theorem scan_cnt (V : aM) : ∀ (k i p : Nat) (M : aM), i + (k + 1) ≤ 401 → ∃ c, scanM V (k + 1) i p M 12 3 = nI c ∧ i < c ∧ c ≤ 401
  | 0, i, p, M, h => by
    have e : sc_put V M i p 12 3 = nI (i + 1) := by unfold sc_put; simp only [am_up_ap, ↓reduceIte]
    refine ⟨i + 1, ?_, by omega, by omega⟩
    unfold scanM
    split
    · exact e
    split
    · exact e
    · exact e
  | k + 1, i, p, M, h => by
    have e : sc_put V M i p 12 3 = nI (i + 1) := by unfold sc_put; simp only [am_up_ap, ↓reduceIte]
    unfold scanM
    split
    · exact ⟨i + 1, e, by omega, by omega⟩
    split
    · exact ⟨i + 1, e, by omega, by omega⟩
    · obtain ⟨c, a, b, d⟩ := scan_cnt V k (i + 1) (cl (sc_e V p)) (sc_put V M i p) (by omega)
      exact ⟨c, a, by omega, d⟩
theorem scan_put (V : aM) (k i p : Nat) (M : aM) : scanM V (k + 1) i p M 13 i = (if sc_e V p = -1 then 11 else sc_k V p) ∧ scanM V (k + 1) i p M 14 i = nI (sc_s V p) ∧ scanM V (k + 1) i p M 15 i = sc_e V p := by
  have h : sc_put V M i p 13 i = (if sc_e V p = -1 then 11 else sc_k V p) ∧ sc_put V M i p 14 i = nI (sc_s V p) ∧ sc_put V M i p 15 i = sc_e V p := by
    unfold sc_put
    simp only [am_up_ap, ↓reduceIte, Nat.reduceEqDiff, and_self]
  unfold scanM
  by_cases c1 : sc_e V p = -1
  · rw [if_pos c1]; exact h
  rw [if_neg c1]
  by_cases c2 : sc_k V p = 10
  · rw [if_pos c2]; exact h
  rw [if_neg c2]
  obtain ⟨a, b, c⟩ := scan_keep V k (i + 1) (cl (sc_e V p)) (sc_put V M i p) i (by omega)
  rw [a, b, c]
  exact h
theorem scan_spec {V : aM} : ∀ (k i : Nat) (M : aM), i + k = 401 → okT V i → ∀ j, i ≤ j → j < 401 → okT V j → tok_at V (scanM V k i (pos V i) M) j
  | 0, i, M, hk, _, j, h1, h2, _ => by omega
  | k + 1, i, M, hk, ho, j, h1, h2, hj => by
    by_cases c : j = i
    · subst c
      obtain ⟨a, b, d⟩ := scan_put V k j (pos V j) M
      obtain ⟨n, e, f, g⟩ := scan_cnt V k j (pos V j) M (by omega)
      exact ⟨a, b, d, n, e, f, g⟩
    · obtain ⟨c1, c2⟩ := hj i (by omega)
      have ho2 : okT V (i + 1) := fun q hq => hj q (by omega)
      have := scan_spec k (i + 1) (sc_put V M i (pos V i)) (by omega) ho2 j (by omega) h2 hj
      unfold scanM
      rw [if_neg c1, if_neg c2]
      exact this
theorem tok_read {V S : aM} {i : Nat} (hi : i < 401) (h : tok_at V S i) : tk S 13 11 (nI i) = (if sc_e V (pos V i) = -1 then 11 else sc_k V (pos V i)) ∧ tk S 14 (-1) (nI i) = nI (sc_s V (pos V i)) ∧ tk S 15 (-1) (nI i) = sc_e V (pos V i) := by
  obtain ⟨a, b, d, c, e, f, g⟩ := h
  have h1 : ¬ nI i < 0 := nI_pos (by omega)
  have h2 : nI i < S 12 3 := by rw [e]; exact nI_lt f (by omega)
  have h3 : nI i < 401 := nI_lt (b := 401) hi (by decide)
  have h4 : (nI i).toNatClampNeg = i := nI_clamp (by omega)
  unfold tk
  rw [if_neg h1, if_pos h2, if_pos h3, h4, if_neg h1, if_pos h2, if_pos h3, if_neg h1, if_pos h2, if_pos h3]
  exact ⟨a, b, d⟩
end
section
/-! TWO STORES OF NODES, the desk's and the reference's -/
def StN (C R : aM) (n : Nat) : Prop := C 3 5 = nI n ∧ R 19 5 = nI n ∧ n ≤ 200 ∧ ∀ x, x < n → C 4 x = R 21 x ∧ C 5 x = R 22 x ∧ C 7 x = R 24 x ∧ C 8 x = R 25 x
def ltrs (C R : aM) (x lc : Nat) : Prop := ∃ s a, C 6 x = nI s ∧ C 5 x = nI a ∧ a ≤ 20 ∧ s + a ≤ lc ∧ ∀ k, k < a → C 10 (s + k) = R 23 (20 * x + k)
def StL (C R : aM) (n lc : Nat) : Prop := C 3 9 = nI lc ∧ 5 ≤ lc ∧ lc ≤ 405 ∧ (∀ k, k < 5 → C 10 k = QF k) ∧ ∀ x, x < n → C 4 x = 2 ∨ C 4 x = 3 → ltrs C R x lc
theorem StN_mN {C R : aM} {n : Nat} (h : StN C R n) : mN R = n := by
  unfold mN
  rw [h.2.1]
  exact nI_clamp (by have := h.2.2.1; omega)
theorem StN_has {C R : aM} {n l : Nat} (h : StN C R n) (hl : l < n) : hasN C (nI l) = true := by
  have h2 := h.2.2.1
  unfold hasN
  rw [h.1]
  have a1 : ¬ nI l < 0 := nI_pos (by omega)
  have a2 : nI l < nI n := nI_lt hl (by omega)
  have a3 : nI l < 200 := nI_lt (b := 200) (by omega) (by decide)
  simp [a1, a2, a3]
/-- the desk's new node -/
def n_newM (C : aM) (n : Nat) (k : Int32) : aM := am_up (am_up (am_up (am_up (am_up (am_up C 4 n k) 5 n 0) 6 n (C 3 9)) 7 n (-1)) 8 n (-1)) 3 5 (nI (n + 1))
theorem add_lt {C : aM} {n : Nat} {k : Int32} (h : C 3 5 = nI n) (hn : n < 200) : n_add C k = (nI n, n_newM C n k) ∧ r_add C k = (nI n, n_newM C n k) := by
  have e : n_add C k = (nI n, n_newM C n k) := by
    unfold n_add n_newM
    rw [h, if_neg (nI_pos (by omega)), if_pos (show nI n < 200 from nI_lt (b := 200) hn (by decide)), show cl (nI n) = n from nI_clamp (by omega), nI_1]
  refine ⟨e, ?_⟩
  unfold r_add
  rw [e]
  rw [if_neg (nI_ne (by omega))]
theorem add_200 {C : aM} {k : Int32} (h : C 3 5 = nI 200) : n_add C k = (-1, C) ∧ r_add C k = (-1, r_fltM C) := by
  have e : n_add C k = (-1, C) := by
    unfold n_add
    rw [h, if_neg (nI_pos (by omega)), if_neg (show ¬ nI 200 < 200 from nI_nlt (a := 200) (b := 200) (by omega) (by omega))]
  refine ⟨e, ?_⟩
  unfold r_add
  rw [e]
  rw [if_pos rfl]
theorem newM_c (C : aM) (n : Nat) (k : Int32) : (∀ i, ¬ i = 3 → ¬ i = 4 → ¬ i = 5 → ¬ i = 6 → ¬ i = 7 → ¬ i = 8 → n_newM C n k i = C i) ∧ (∀ j, ¬ j = 5 → n_newM C n k 3 j = C 3 j) ∧ n_newM C n k 3 5 = nI (n + 1) ∧ n_newM C n k 4 = upd (C 4) n k ∧ n_newM C n k 5 = upd (C 5) n 0 ∧ n_newM C n k 6 = upd (C 6) n (C 3 9) ∧ n_newM C n k 7 = upd (C 7) n (-1) ∧ n_newM C n k 8 = upd (C 8) n (-1) := by
  unfold n_newM
  refine ⟨fun i a b c d e f => ?_, fun j h => ?_, ?_, ?_, ?_, ?_, ?_, ?_⟩
  · rw [am_up_ne a, am_up_ne f, am_up_ne e, am_up_ne d, am_up_ne c, am_up_ne b]
  · simp only [am_up_ap, h, ↓reduceIte, Nat.reduceEqDiff]
  · simp only [am_up_ap, ↓reduceIte]
  · simp only [am_up_i, ↓reduceIte, Nat.reduceEqDiff]
  · simp only [am_up_i, ↓reduceIte, Nat.reduceEqDiff]
  · simp only [am_up_i, ↓reduceIte, Nat.reduceEqDiff]
  · simp only [am_up_i, ↓reduceIte, Nat.reduceEqDiff]
  · simp only [am_up_i, ↓reduceIte, Nat.reduceEqDiff]
theorem StN_new {C R : aM} {n : Nat} (k : Int32) (h : StN C R n) (hn : n < 200) : StN (n_newM C n k) (m_new R k) (n + 1) := by
  obtain ⟨h1, h2, h3, h4⟩ := h
  have eN : mN R = n := by unfold mN; rw [h2]; exact nI_clamp (by omega)
  obtain ⟨a1, a2, a3, a4, a5, a6, a7, a8⟩ := newM_c C n k
  obtain ⟨b1, b2, b3, b4, b5, b6, b7⟩ := new_c R k
  rw [eN] at b3 b4 b5 b6 b7
  refine ⟨a3, b3, by omega, fun x hx => ?_⟩
  rw [a4, a5, a7, a8, b4, b5, b6, b7]
  by_cases c : x = n
  · subst c
    rw [upd_eq, upd_eq, upd_eq, upd_eq, upd_eq, upd_eq, upd_eq, upd_eq]
    exact ⟨rfl, rfl, rfl, rfl⟩
  · have hx2 : x < n := by omega
    rw [upd_lt _ _ hx2, upd_lt _ _ hx2, upd_lt _ _ hx2, upd_lt _ _ hx2, upd_lt _ _ hx2, upd_lt _ _ hx2, upd_lt _ _ hx2, upd_lt _ _ hx2]
    exact h4 x hx2
theorem StL_new {C R : aM} {n lc : Nat} (k : Int32) (hN : StN C R n) (h : StL C R n lc) (hn : n < 200) : StL (n_newM C n k) (m_new R k) (n + 1) lc := by
  obtain ⟨h1, h2, h3, h4, h5⟩ := h
  obtain ⟨a1, a2, a3, a4, a5, a6, a7, a8⟩ := newM_c C n k
  obtain ⟨b1, b2, b3, b4, b5, b6, b7⟩ := new_c R k
  have c10 : n_newM C n k 10 = C 10 := a1 10 (by decide) (by decide) (by decide) (by decide) (by decide) (by decide)
  have r23 : m_new R k 23 = R 23 := b1 23 (by decide) (by decide) (by decide) (by decide) (by decide)
  refine ⟨by rw [a2 9 (by decide)]; exact h1, h2, h3, fun j hj => by rw [c10]; exact h4 j hj, fun x hx hk => ?_⟩
  by_cases c : x = n
  · subst c
    refine ⟨lc, 0, ?_, ?_, by omega, by omega, fun j hj => by omega⟩
    · rw [a6, upd_eq]; exact h1
    · rw [a5, upd_eq]; rfl
  · have hx2 : x < n := by omega
    rw [a4, upd_lt _ _ hx2] at hk
    obtain ⟨s, a, e1, e2, e3, e4, e5⟩ := h5 x hx2 hk
    refine ⟨s, a, by rw [a6, upd_lt _ _ hx2]; exact e1, by rw [a5, upd_lt _ _ hx2]; exact e2, e3, e4, fun j hj => ?_⟩
    rw [c10, r23]
    exact e5 j hj
theorem set_lt {C R : aM} {n l c : Nat} {v : Int32} (h : StN C R n) (hl : l < n) : n_set c C (nI l) v = am_up C c l v := by
  unfold n_set
  rw [if_pos (StN_has h hl), show cl (nI l) = l from nI_clamp (by have := h.2.2.1; omega)]
/-- heads and tails are set alike; w, z: the cells of the two sides -/
theorem StN_head {C R : aM} {n l : Nat} {v : Int32} (h : StN C R n) : StN (am_up C 7 l v) (am_up R 24 l v) n := by
  obtain ⟨h1, h2, h3, h4⟩ := h
  refine ⟨by rw [am_up_ne (by decide)]; exact h1, by rw [am_up_ne (by decide)]; exact h2, h3, fun x hx => ?_⟩
  obtain ⟨a, b, c, d⟩ := h4 x hx
  refine ⟨by rw [am_up_ne (by decide), am_up_ne (by decide)]; exact a, by rw [am_up_ne (by decide), am_up_ne (by decide)]; exact b, ?_, by rw [am_up_ne (by decide), am_up_ne (by decide)]; exact d⟩
  simp only [am_up_ap, ↓reduceIte]
  rw [c]
theorem StN_tail {C R : aM} {n l : Nat} {v : Int32} (h : StN C R n) : StN (am_up C 8 l v) (am_up R 25 l v) n := by
  obtain ⟨h1, h2, h3, h4⟩ := h
  refine ⟨by rw [am_up_ne (by decide)]; exact h1, by rw [am_up_ne (by decide)]; exact h2, h3, fun x hx => ?_⟩
  obtain ⟨a, b, c, d⟩ := h4 x hx
  refine ⟨by rw [am_up_ne (by decide), am_up_ne (by decide)]; exact a, by rw [am_up_ne (by decide), am_up_ne (by decide)]; exact b, by rw [am_up_ne (by decide), am_up_ne (by decide)]; exact c, ?_⟩
  simp only [am_up_ap, ↓reduceIte]
  rw [d]
theorem StN_amt {C R : aM} {n l : Nat} {v : Int32} (h : StN C R n) : StN (am_up C 5 l v) (am_up R 22 l v) n := by
  obtain ⟨h1, h2, h3, h4⟩ := h
  refine ⟨by rw [am_up_ne (by decide)]; exact h1, by rw [am_up_ne (by decide)]; exact h2, h3, fun x hx => ?_⟩
  obtain ⟨a, b, c, d⟩ := h4 x hx
  refine ⟨by rw [am_up_ne (by decide), am_up_ne (by decide)]; exact a, ?_, by rw [am_up_ne (by decide), am_up_ne (by decide)]; exact c, by rw [am_up_ne (by decide), am_up_ne (by decide)]; exact d⟩
  simp only [am_up_ap, ↓reduceIte]
  rw [b]
/-- letters need just these cells -/
theorem StL_of {C R C' R' : aM} {n lc : Nat} (h : StL C R n lc) (h3 : C' 3 9 = C 3 9) (h4 : C' 4 = C 4) (h5 : C' 5 = C 5) (h6 : C' 6 = C 6) (h10 : C' 10 = C 10) (h23 : R' 23 = R 23) : StL C' R' n lc := by
  unfold StL ltrs
  rw [h3, h4, h5, h6, h10, h23]
  exact h
/-- a letter for the newest node, on both sides -/
theorem ltr_ok {C R : aM} {n x lc s a : Nat} {b : Int32} (hN : StN C R n) (hL : StL C R n lc) (hx : x < n) (hk : C 4 x = 2 ∨ C 4 x = 3) (hs : C 6 x = nI s) (ha : C 5 x = nI a) (hsa : s + a = lc) (ha20 : a < 20) (hlc : lc < 405) (h5s : 5 ≤ s) :
    StN (n_ltr C (nI x) b) (m_let R x b) n ∧ StL (n_ltr C (nI x) b) (m_let R x b) n (lc + 1) ∧ n_ltr C (nI x) b 6 = C 6 ∧ n_ltr C (nI x) b 5 x = nI (a + 1) ∧ n_ltr C (nI x) b 4 = C 4 := by
  have h200 := hN.2.2.1
  have eR : R 22 x = nI a := by rw [← (hN.2.2.2 x hx).2.1]; exact ha
  have e : n_ltr C (nI x) b = am_up (am_up (am_up C 10 lc b) 3 9 (nI (lc + 1))) 5 x (nI (a + 1)) := by
    unfold n_ltr
    rw [if_pos (StN_has hN hx), hL.1, if_neg (nI_pos (by omega)), if_pos (show nI lc < 405 from nI_lt (b := 405) hlc (by decide)), show cl (nI lc) = lc from nI_clamp (by omega), show cl (nI x) = x from nI_clamp (by omega), nI_1, ha, nI_1]
  have eM : m_let R x b = am_up (am_up R 23 (20 * x + a) b) 22 x (nI (a + 1)) := by
    unfold m_let
    rw [eR, show cl (nI a) = a from nI_clamp (by omega)]
  rw [e, eM]
  have c4 : am_up (am_up (am_up C 10 lc b) 3 9 (nI (lc + 1))) 5 x (nI (a + 1)) 4 = C 4 := by simp only [am_up_i, ↓reduceIte, Nat.reduceEqDiff]
  have c5 : am_up (am_up (am_up C 10 lc b) 3 9 (nI (lc + 1))) 5 x (nI (a + 1)) 5 = upd (C 5) x (nI (a + 1)) := by simp only [am_up_i, ↓reduceIte, Nat.reduceEqDiff]
  have c6 : am_up (am_up (am_up C 10 lc b) 3 9 (nI (lc + 1))) 5 x (nI (a + 1)) 6 = C 6 := by simp only [am_up_i, ↓reduceIte, Nat.reduceEqDiff]
  have c7 : am_up (am_up (am_up C 10 lc b) 3 9 (nI (lc + 1))) 5 x (nI (a + 1)) 7 = C 7 := by simp only [am_up_i, ↓reduceIte, Nat.reduceEqDiff]
  have c8 : am_up (am_up (am_up C 10 lc b) 3 9 (nI (lc + 1))) 5 x (nI (a + 1)) 8 = C 8 := by simp only [am_up_i, ↓reduceIte, Nat.reduceEqDiff]
  have c10 : am_up (am_up (am_up C 10 lc b) 3 9 (nI (lc + 1))) 5 x (nI (a + 1)) 10 = upd (C 10) lc b := by simp only [am_up_i, ↓reduceIte, Nat.reduceEqDiff]
  have c35 : am_up (am_up (am_up C 10 lc b) 3 9 (nI (lc + 1))) 5 x (nI (a + 1)) 3 5 = C 3 5 := by simp only [am_up_ap, ↓reduceIte, Nat.reduceEqDiff]
  have c39 : am_up (am_up (am_up C 10 lc b) 3 9 (nI (lc + 1))) 5 x (nI (a + 1)) 3 9 = nI (lc + 1) := by simp only [am_up_ap, ↓reduceIte, Nat.reduceEqDiff]
  have r5 : am_up (am_up R 23 (20 * x + a) b) 22 x (nI (a + 1)) 19 = R 19 := by simp only [am_up_i, ↓reduceIte, Nat.reduceEqDiff]
  have r21 : am_up (am_up R 23 (20 * x + a) b) 22 x (nI (a + 1)) 21 = R 21 := by simp only [am_up_i, ↓reduceIte, Nat.reduceEqDiff]
  have r22 : am_up (am_up R 23 (20 * x + a) b) 22 x (nI (a + 1)) 22 = upd (R 22) x (nI (a + 1)) := by simp only [am_up_i, ↓reduceIte, Nat.reduceEqDiff]
  have r23 : am_up (am_up R 23 (20 * x + a) b) 22 x (nI (a + 1)) 23 = upd (R 23) (20 * x + a) b := by simp only [am_up_i, ↓reduceIte, Nat.reduceEqDiff]
  have r24 : am_up (am_up R 23 (20 * x + a) b) 22 x (nI (a + 1)) 24 = R 24 := by simp only [am_up_i, ↓reduceIte, Nat.reduceEqDiff]
  have r25 : am_up (am_up R 23 (20 * x + a) b) 22 x (nI (a + 1)) 25 = R 25 := by simp only [am_up_i, ↓reduceIte, Nat.reduceEqDiff]
  generalize am_up (am_up (am_up C 10 lc b) 3 9 (nI (lc + 1))) 5 x (nI (a + 1)) = C' at c4 c5 c6 c7 c8 c10 c35 c39 ⊢
  generalize am_up (am_up R 23 (20 * x + a) b) 22 x (nI (a + 1)) = R' at r5 r21 r22 r23 r24 r25 ⊢
  obtain ⟨h1, h2, h3, h4⟩ := hN
  obtain ⟨g1, g2, g3, g4, g5⟩ := hL
  refine ⟨⟨by rw [c35]; exact h1, by rw [r5]; exact h2, h3, fun y hy => ?_⟩, ⟨c39, by omega, by omega, fun k hk5 => ?_, fun y hy hky => ?_⟩, c6, by rw [c5, upd_eq], c4⟩
  · obtain ⟨p1, p2, p3, p4⟩ := h4 y hy
    rw [c4, c5, c7, c8, r21, r22, r24, r25]
    refine ⟨p1, ?_, p3, p4⟩
    simp only [upd]
    split
    · rfl
    · exact p2
  · rw [c10, upd_lt _ _ (by omega)]
    exact g4 k hk5
  · rw [c4] at hky
    by_cases cy : y = x
    · subst cy
      obtain ⟨s', a', e1, e2, e3, e4, e5⟩ := g5 y hy hky
      have es : s' = s := (nI_eq (by omega) (by omega)).mp (by rw [← e1]; exact hs)
      have ea : a' = a := (nI_eq (by omega) (by omega)).mp (by rw [← e2]; exact ha)
      subst es
      subst ea
      refine ⟨s', a' + 1, by rw [c6]; exact e1, by rw [c5, upd_eq], by omega, by omega, fun k hk1 => ?_⟩
      rw [c10, r23]
      by_cases ck : k = a'
      · subst ck
        rw [show s' + k = lc by omega, upd_eq, upd_eq]
      · simp only [upd]
        rw [if_neg (by omega), if_neg (by omega)]
        exact e5 k (by omega)
    · obtain ⟨s', a', e1, e2, e3, e4, e5⟩ := g5 y hy hky
      refine ⟨s', a', by rw [c6]; exact e1, ?_, e3, by omega, fun k hk1 => ?_⟩
      · rw [c5]
        simp only [upd]
        rw [if_neg cy]
        exact e2
      · rw [c10, r23]
        simp only [upd]
        rw [if_neg (by omega), if_neg (by omega)]
        exact e5 k hk1
end
