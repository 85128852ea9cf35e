/-! THE DESK: what its methods leave alone -/
def fr (M N : aM) : Prop := ∀ i, 16 ≤ i → N i = M i
theorem fr.rf (M : aM) : fr M M := fun _ _ => rfl
theorem fr.tr {M N P : aM} (h1 : fr M N) (h2 : fr N P) : fr M P := fun i hi => (h2 i hi).trans (h1 i hi)
theorem fr.up {M N : aM} (h : fr M N) {c j : Nat} {x : Int32} (hc : c < 16) : fr M (am_up N c j x) := fun i hi => by
  rw [am_up_ne (by omega)]
  exact h i hi
theorem fr_clr (M : aM) : fr M (clrM M) := ((((fr.rf M).up (by decide)).up (by decide)).up (by decide))
theorem fr_add (M : aM) (k : Int32) : fr M (n_add M k).2 := by
  unfold n_add
  split
  · exact fr.rf M
  split
  · exact ((((((fr.rf M).up (by decide)).up (by decide)).up (by decide)).up (by decide)).up (by decide)).up (by decide)
  · exact fr.rf M
theorem fr_flt (M : aM) : fr M (r_fltM M) := (fr.rf M).up (by decide)
theorem fr_radd (M : aM) (k : Int32) : fr M (r_add M k).2 := by
  unfold r_add
  split
  · exact (fr_add M k).tr (fr_flt _)
  · exact fr_add M k
theorem fr_nx (M : aM) : fr M (r_nx M) := (fr.rf M).up (by decide)
theorem fr_set {c : Nat} (hc : c < 16) (M : aM) (x v : Int32) : fr M (n_set c M x v) := by
  unfold n_set
  split
  · exact (fr.rf M).up hc
  · exact fr.rf M
theorem fr_ltr (M : aM) (x b : Int32) : fr M (n_ltr M x b) := by
  unfold n_ltr
  split
  · split
    · exact fr.rf M
    split
    · exact (((fr.rf M).up (by decide)).up (by decide)).up (by decide)
    · exact fr.rf M
  · exact fr.rf M
theorem fr_addD (M : aM) (x : Int32) : fr M (n_addD M x) := by
  unfold n_addD
  split
  · exact fr.rf M
  split
  · exact ((fr.rf M).up (by decide)).up (by decide)
  · exact fr.rf M
theorem fr_nmL (nd e : Int32) : ∀ (k : Nat) (i : Int32) (M : aM), fr M (nmL nd e k i M)
  | 0, _, M => fr.rf M
  | k + 1, i, M => by
    unfold nmL
    split
    · exact (fr_ltr _ _ _).tr (fr_nmL nd e k _ _)
    · exact fr.rf M
theorem fr_stL (nd e : Int32) : ∀ (k : Nat) (i : Int32) (M : aM), fr M (stL nd e k i M)
  | 0, _, M => fr.rf M
  | k + 1, i, M => by
    unfold stL
    split
    · split
      · exact (fr_ltr _ _ _).tr (fr_stL nd e k _ _)
      · exact (fr_ltr _ _ _).tr (fr_stL nd e k _ _)
    · exact fr.rf M
theorem fr_num (M : aM) : fr M (r_num M).2 := (fr_radd M 1).tr (fr_set (by decide) _ _ _)
theorem fr_name (M : aM) : fr M (r_name M).2 := (fr_radd M 2).tr (fr_nmL _ _ _ _ _)
theorem fr_str (M : aM) : fr M (r_str M).2 := (fr_radd M 3).tr (fr_stL _ _ _ _ _)
theorem fr_qM (a b c : Int32) (M : aM) : fr M (q_M a b c M) := by
  unfold q_M
  have h : fr M (if hasN M b = true then nqM M b else M) := by
    split
    · exact ((fr.rf M).up (by decide)).up (by decide)
    · exact fr.rf M
  exact ((h.tr (fr_set (by decide) _ _ _)).tr (fr_set (by decide) _ _ _)).tr (fr_nx _)
theorem fr_qA (a b : Int32) (M : aM) (q : Int32) : fr M (q_A a b M q).2 := by
  unfold q_A
  have h1 := fr_set (c := 7) (by decide) M b q
  generalize n_set 7 M b q = N at h1 ⊢
  have h2 := fr_radd N 5
  generalize r_add N 5 = P at h2 ⊢
  exact (h1.tr h2).tr (fr_set (by decide) _ _ _)
theorem fr_qB {f : aM → Int32 × aM} (hf : ∀ M, fr M (f M).2) (a b c : Int32) (M : aM) : fr M (q_B f a b c M).2 := by
  unfold q_B
  have h1 := fr_qM a b c M
  generalize q_M a b c M = N at h1 ⊢
  have h2 := hf N
  generalize f N = P at h2 ⊢
  by_cases q : P.1 = -1
  · rw [if_pos q]; exact h1.tr h2
  · rw [if_neg q]; exact (h1.tr h2).tr (fr_qA _ _ _ _)
theorem fr_quo {f : aM → Int32 × aM} (hf : ∀ M, fr M (f M).2) (M : aM) : fr M (r_quo f M).2 := by
  unfold r_quo
  have h1 := fr_radd M 4
  generalize r_add M 4 = p1 at h1 ⊢
  have h2 := fr_radd p1.2 2
  generalize r_add p1.2 2 = p2 at h2 ⊢
  have h3 := fr_radd p2.2 4
  generalize r_add p2.2 4 = p3 at h3 ⊢
  by_cases q : p3.1 = -1
  · rw [if_pos q]; exact (h1.tr h2).tr h3
  · rw [if_neg q]; exact ((h1.tr h2).tr h3).tr (fr_qB hf _ _ _ _)
theorem fr_dot {f : aM → Int32 × aM} (hf : ∀ M, fr M (f M).2) (M : aM) : fr M (r_dot f M).2 := by
  have h1 := (fr_nx M).tr (hf (r_nx M))
  unfold r_dot
  split
  · exact h1
  split
  · exact h1.tr (fr_nx _)
  · exact (h1.tr (fr_nx _)).tr (fr_flt _)
theorem fr_lE {M : aM} {p : Int32 × aM} {a b : Int32} (h : fr M p.2) : fr M (r_lE p a b).2 := h.tr (fr_set (by decide) _ _ _)
theorem fr_ll {f : aM → Int32 × aM} (hf : ∀ M, fr M (f M).2) (first : Int32) : ∀ (r : Nat) (last : Int32) (M : aM), fr M (r_ll f first r last M).2
  | 0, _, M => fr.rf M
  | r + 1, last, M => by
    have hh : fr M (r_hd f last M) := ((hf M).tr (fr_set (by decide) _ _ _)).tr (fr_nx _)
    unfold r_ll
    split
    · exact fr.rf M
    split
    · exact hf M
    split
    · exact fr_lE (hh.tr (fr_radd _ 5))
    split
    · exact fr_lE (hh.tr (fr_dot hf _))
    · exact ((hh.tr (fr_radd _ 4)).tr (fr_set (by decide) _ _ _)).tr (fr_ll hf first r _ _)
theorem fr_lst {f : aM → Int32 × aM} (hf : ∀ M, fr M (f M).2) (M : aM) : fr M (r_lst f M).2 := by
  unfold r_lst
  split
  · exact (fr_nx M).tr (fr_radd _ 5)
  · exact ((fr_radd M 4).tr (fr_nx _)).tr (fr_ll hf _ _ _ _)
theorem fr_rdD : ∀ (j : Nat) (M : aM), fr M (rdD j M).2
  | 0, M => by
    unfold rdD
    split
    · exact fr_num M
    split
    · exact fr_name M
    split
    · exact fr_str M
    · exact fr_flt M
  | j + 1, M => by
    unfold rdD
    split
    · exact fr_num M
    split
    · exact fr_name M
    split
    · exact fr_str M
    split
    · exact fr_lst (fr_rdD j) M
    split
    · exact fr_quo (fr_rdD j) M
    · exact fr_flt M
theorem fr_scan (M0 : aM) : ∀ (k i pos : Nat) (M : aM), fr M (scanM M0 k i pos M)
  | 0, _, _, M => fr.rf M
  | k + 1, i, pos, M => by
    have h : fr M (sc_put M0 M i pos) := (((((fr.rf M).up (by decide)).up (by decide)).up (by decide)).up (by decide))
    unfold scanM
    split
    · exact h
    split
    · exact h
    · exact h.tr (fr_scan M0 k _ _ _)
theorem fr_rdL : ∀ (r : Nat) (M : aM), fr M (rdL r M)
  | 0, M => fr.rf M
  | r + 1, M => by
    unfold rdL
    split
    · exact fr.rf M
    split
    · exact (fr_rdD 15 M).tr (fr_clr _)
    · exact (((fr_rdD 15 M).tr (fr_addD _ _)).tr (fr_nx _)).tr (fr_rdL r _)
theorem fr_rdT (M : aM) : fr M (rdT M) := by
  unfold rdT
  refine fr.tr ?_ (fr_rdL 401 _)
  unfold rd0
  exact (((((fr_clr M).up (by decide)).tr (fr_scan _ _ _ _ _)).up (by decide)).up (by decide))
theorem fr_read (M : aM) : fr M (am_up (rdT M) 1 1 0) := (fr_rdT M).up (by decide)
def fr9 (M N : aM) : Prop := ∀ i, ¬ i = 16 → ¬ i = 17 → N i = M i
theorem fr9_say (M : aM) (b : Int32) : fr9 M (sayM M b) := fun i h1 h2 => by
  unfold sayM
  split
  · rfl
  · rw [am_up_ne h1, am_up_ne h2]
theorem fr9_says : ∀ (bs : List Int32) (M : aM), fr9 M (saysM M bs)
  | [], M => fun _ _ _ => rfl
  | b :: bs, M => fun i h1 h2 => by
    rw [saysM_cons, fr9_says bs (sayM M b) i h1 h2]
    exact fr9_say M b i h1 h2
theorem fr9_tak (M : aM) : fr9 M (takM M) := fun i h1 _ => by
  unfold takM
  rw [am_up_ne h1, am_up_ne h1]
theorem fr9_ft (n : Nat) : ∀ (r k : Nat) (v : Int64) (M : aM), n ≤ ww M + k → wt_ok M → fr9 M (d_ft n r k v M).2 ∧ wt_ok (d_ft n r k v M).2
  | 0, _, _, M, _, h => ⟨fun _ _ _ => rfl, h⟩
  | r + 1, k, v, M, hn, h => by
    unfold d_ft
    split
    · have q := fr9_ft n r (k + 1) (sh8 v ||| (M 17 (wf M)).toInt64) (takM M) (by rw [takM_ww h]; omega) (takM_ok h)
      exact ⟨fun i h1 h2 => (q.1 i h1 h2).trans (fr9_tak M i h1 h2), q.2⟩
    · exact fr9_ft n r (k + 1) _ M (by omega) h
theorem fr_put (v : Int64) : ∀ (k : Nat) (M : aM), (∀ i, 3 ≤ i → d_putL v k M i = M i) ∧ (tl M + k ≤ 400 → tx_ok M → tx_ok (d_putL v k M) ∧ tl (d_putL v k M) = tl M + k)
  | 0, M => ⟨fun _ _ => rfl, fun _ h => ⟨h, rfl⟩⟩
  | k + 1, M => by
    have q := fr_put v k (apd M (pb v k))
    unfold d_putL
    refine ⟨fun i hi => ?_, fun h1 h2 => ?_⟩
    · rw [q.1 i hi]
      unfold apd
      rw [am_up_ne (by omega), am_up_ne (by omega)]
    · have e := apd_tl (M := M) (b := pb v k) (by omega)
      have := q.2 (by rw [e]; omega) (apd_ok (by omega))
      refine ⟨this.1, ?_⟩
      rw [this.2, e]
      omega
theorem fm_put (v : Int64) : ∀ (k : Nat) (M : aM), (∀ i, ¬ i = 19 → ¬ i = 20 → m_putL v k M i = M i) ∧ (∀ j, ¬ j = 1 → m_putL v k M 19 j = M 19 j) ∧ (m_tl M + k ≤ 400 → mt_ok M → tb_ok M → mt_ok (m_putL v k M) ∧ tb_ok (m_putL v k M) ∧ m_tl (m_putL v k M) = m_tl M + k)
  | 0, M => ⟨fun _ _ _ => rfl, fun _ _ => rfl, fun _ h hb => ⟨h, hb, rfl⟩⟩
  | k + 1, M => by
    have q := fm_put v k (m_apd M (mpb v k))
    unfold m_putL
    refine ⟨fun i h1 h2 => ?_, fun j h1 => ?_, fun h1 h2 h3 => ?_⟩
    · rw [q.1 i h1 h2]
      unfold m_apd
      rw [am_up_ne h1, am_up_ne h2]
    · rw [q.2.1 j h1]
      unfold m_apd
      simp only [am_up_ap, h1, ↓reduceIte, Nat.reduceEqDiff]
    · have e := m_apd_tl (M := M) (b := mpb v k) (by omega)
      have hb : tb_ok (m_apd M (mpb v k)) := by
        intro i hi
        rw [e] at hi
        have e20 : m_apd M (mpb v k) 20 i = if i = m_tl M then mpb v k else M 20 i := by
          unfold m_apd
          simp only [am_up_ap, ↓reduceIte, Nat.reduceEqDiff]
        rw [e20]
        split
        · unfold mpb
          generalize (v >>> ((8 * nI k).toInt64 &&& 63)).toInt32 = z
          intro hlt
          have h5 := Int32.lt_iff_toInt_lt.mp hlt
          have h6 : (0 : Int) ≤ (z &&& 255).toInt := by
            rw [← Int32.toInt_toBitVec, Int32.toBitVec_and]
            rw [BitVec.toInt_eq_toNat_of_msb]
            · exact Int.natCast_nonneg _
            · rw [BitVec.msb_and]
              have : (255 : Int32).toBitVec.msb = false := by decide
              rw [this, Bool.and_false]
          have h7 : (0 : Int32).toInt = 0 := by decide
          omega
        · exact h3 i (by omega)
      have := q.2.2 (by rw [e]; omega) (m_apd_ok (by omega)) hb
      refine ⟨this.1, this.2.1, ?_⟩
      rw [this.2.2, e]
      omega
