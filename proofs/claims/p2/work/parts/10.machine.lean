/-! THE PICTURE OF THE MACHINE. Every cell that the system uses has a number (its place in SH); M i j is the int in slot j of cell i; a reference is the number of its cell. An instruction is a function of what comes behind it: 'aI'. -/
abbrev aM : Type := Nat → Nat → Int32
abbrev aL : Type := List (Option Value)
abbrev aJ : Type := Nat → aL → List Value → aM → Prop
abbrev aR : Type := Option Value → aM → Prop
abbrev aI : Type := aJ → aR → Nat → aL → List Value → aM → Prop
abbrev aG : Type := Launch × va_G × ClassId × (Nat → Nat) × (Nat → Prop) × Nat × (Nat → Int32)
abbrev aY : Type := MethodName × ByteArray × Nat × Option FieldType
abbrev aS : Type := List Value → aM → aR → Prop
def g_l (G : aG) : Launch := G.1
def g_D (G : aG) : va_G := G.2.1
def g_c (G : aG) : ClassId := G.2.2.1
def g_a (G : aG) : Nat → Nat := G.2.2.2.1
def g_B (G : aG) : Nat → Prop := G.2.2.2.2.1
def g_n (G : aG) : Nat := G.2.2.2.2.2.1
def g_x (G : aG) : Nat → Int32 := G.2.2.2.2.2.2
def am_v (ad : Nat → Nat) (v : Value) : Value := match v with
  | .ref k => .ref (ad k)
  | w => w
def am_fs (ad : Nat → Nat) (f : Nat → Int32) : Nat → List (Option Value) → List Value
  | _, [] => []
  | k, none :: r => .int (f k) :: am_fs ad f (k + 1) r
  | k, some v :: r => am_v ad v :: am_fs ad f (k + 1) r
def am_cell (cI : ClassId) (ad : Nat → Nat) (f : Nat → Int32) (k : aK) : va_E := match k with
  | .inl n => .inl (cI, n, .inl f)
  | .inr q => .inr (q.1, am_fs ad f 0 q.2)
def am_ws (cI : ClassId) (ad : Nat → Nat) (M : aM) : Nat → List aK → va_W
  | _, [] => []
  | i, k :: r => (ad i, am_cell cI ad (M i) k) :: am_ws cI ad M (i + 1) r
def am_W (G : aG) (M : aM) : va_W := am_ws (g_c G) (g_a G) M 0 SH
def am_up (M : aM) (i j : Nat) (x : Int32) : aM := fun a => if a = i then upd (M i) j x else M a
def am_A (G : aG) (sz : Nat) : Nat → Prop := fun q => (∃ i, i < SH.length ∧ q = g_a G i) ∨ sz ≤ q
theorem am_ws_get (cI : ClassId) (ad : Nat → Nat) (M : aM) : ∀ (sh : List aK) (i0 i : Nat), (am_ws cI ad M i0 sh)[i]? = (sh[i]?).map (fun k => (ad (i0 + i), am_cell cI ad (M (i0 + i)) k))
  | [], _, _ => by simp [am_ws]
  | k :: r, i0, 0 => by simp [am_ws]
  | k :: r, i0, i + 1 => by
    simp only [am_ws, List.getElem?_cons_succ]
    rw [am_ws_get cI ad M r (i0 + 1) i, show i0 + 1 + i = i0 + (i + 1) by omega]
theorem am_W_get {G : aG} {M : aM} {i : Nat} {k : aK} (h : SH[i]? = some k) : (am_W G M)[i]? = some (g_a G i, am_cell (g_c G) (g_a G) (M i) k) := by
  unfold am_W
  rw [am_ws_get, h]
  simp
theorem am_W_of {G : aG} {M : aM} {i : Nat} {q : Nat × va_E} (h : (am_W G M)[i]? = some q) : i < SH.length ∧ q.1 = g_a G i := by
  unfold am_W at h
  rw [am_ws_get] at h
  cases hk : SH[i]? with
  | none => rw [hk] at h; simp at h
  | some k =>
    rw [hk] at h
    simp at h
    exact ⟨(List.getElem?_eq_some_iff.mp hk).1, by rw [← h]⟩
theorem am_W_len {G : aG} {M : aM} : (am_W G M).length = SH.length := by
  apply Nat.le_antisymm
  · apply Nat.le_of_not_lt
    intro h
    have h1 := (am_W_of (G := G) (M := M) (i := SH.length) (List.getElem?_eq_getElem h)).1
    omega
  · apply Nat.le_of_not_lt
    intro h
    have h1 := am_W_get (G := G) (M := M) (List.getElem?_eq_getElem h)
    rw [List.getElem?_eq_none (Nat.le_refl _)] at h1
    cases h1
theorem am_up_self (M : aM) (i j : Nat) (x : Int32) : am_up M i j x i = upd (M i) j x := by simp [am_up]
theorem am_up_ne {M : aM} {i j a : Nat} {x : Int32} (h : a ≠ i) : am_up M i j x a = M a := by simp [am_up, h]
theorem am_W_up {G : aG} {M : aM} {i j : Nat} {x : Int32} {k : aK} (h : SH[i]? = some k) : am_W G (am_up M i j x) = (am_W G M).set i (g_a G i, am_cell (g_c G) (g_a G) (upd (M i) j x) k) := by
  apply List.ext_getElem?
  intro n
  by_cases hn : n = i
  · subst hn
    rw [am_W_get h, am_up_self, List.getElem?_set_self (by rw [am_W_len]; exact (List.getElem?_eq_some_iff.mp h).1)]
  · rw [List.getElem?_set_ne (fun q => hn q.symm)]
    unfold am_W
    rw [am_ws_get, am_ws_get]
    simp only [Nat.zero_add]
    rw [am_up_ne hn]
theorem am_fs_get (ad : Nat → Nat) (f : Nat → Int32) : ∀ (fs : List (Option Value)) (k0 k : Nat), (am_fs ad f k0 fs)[k]? = (fs[k]?).map (fun o => match o with | none => .int (f (k0 + k)) | some v => am_v ad v)
  | [], _, _ => by simp [am_fs]
  | none :: r, k0, 0 => by simp [am_fs]
  | some v :: r, k0, 0 => by simp [am_fs]
  | none :: r, k0, k + 1 => by
    simp only [am_fs, List.getElem?_cons_succ]
    rw [am_fs_get ad f r (k0 + 1) k, show k0 + 1 + k = k0 + (k + 1) by omega]
  | some v :: r, k0, k + 1 => by
    simp only [am_fs, List.getElem?_cons_succ]
    rw [am_fs_get ad f r (k0 + 1) k, show k0 + 1 + k = k0 + (k + 1) by omega]
theorem am_fs_len (ad : Nat → Nat) (f : Nat → Int32) : ∀ (fs : List (Option Value)) (k0 : Nat), (am_fs ad f k0 fs).length = fs.length
  | [], _ => rfl
  | none :: r, k0 => by simp [am_fs, am_fs_len ad f r]
  | some v :: r, k0 => by simp [am_fs, am_fs_len ad f r]
theorem am_fs_upd (ad : Nat → Nat) (f : Nat → Int32) (fs : List (Option Value)) {k : Nat} {x : Int32} (h : fs[k]? = some none) : am_fs ad (upd f k x) 0 fs = (am_fs ad f 0 fs).set k (.int x) := by
  apply List.ext_getElem?
  intro n
  by_cases hn : n = k
  · subst hn
    rw [am_fs_get, h, List.getElem?_set_self (by rw [am_fs_len]; exact (List.getElem?_eq_some_iff.mp h).1)]
    simp [upd]
  · rw [List.getElem?_set_ne (fun q => hn q.symm), am_fs_get, am_fs_get]
    cases fs[n]? with
    | none => rfl
    | some o =>
      cases o with
      | none => simp [upd, hn]
      | some v => rfl
/-- the numbers are apart, and lie in the zone -/
def am_ok (G : aG) : Prop := (∀ i j, i < SH.length → j < SH.length → g_a G i = g_a G j → i = j) ∧ ∀ i, i < SH.length → g_B G (g_a G i)
theorem am_D {G : aG} (h : am_ok G) (M : aM) (sz : Nat) : va_D (am_A G sz) (am_W G M) := by
  refine ⟨fun i j x y hi hj hxy => ?_, fun k q hk => ?_⟩
  · obtain ⟨a1, a2⟩ := am_W_of hi
    obtain ⟨b1, b2⟩ := am_W_of hj
    exact h.1 i j a1 b1 (by rw [← a2, ← b2]; exact hxy)
  · obtain ⟨a1, a2⟩ := am_W_of hk
    exact Or.inl ⟨k, a1, a2⟩
/-- what stays as it is outside the world: arrays and static fields -/
def am_XA (G : aG) : List (Nat × Nat × (Nat → Int32)) := [(1000, 5, QF), (1001, g_n G, g_x G)]
/-- the text "quote": an object, its bytes, what its methods ask -/
def am_str (G : aG) (B : Nat → Prop) (U : State) (H : Heap) : Prop := va_O "java/lang/String" (g_a G 1002) B U H ∧ va_OF "java/lang/String" "coder" "B" (.int 0) (g_a G 1002) B U H ∧ va_OF "java/lang/String" "value" "[B" (.ref (g_a G 1003)) (g_a G 1002) B U H ∧ va_T .byte (g_a G 1003) 5 (fun j => .int (QF j)) B U H ∧ va_Z "java/lang/String" "COMPACT_STRINGS" "Z" (.int 1) B U H ∧ (va_Z "jdk/internal/util/Preconditions" "SIOOBE_FORMATTER" "Ljava/util/function/BiFunction;" .null B U H ∨ va_Z "jdk/internal/util/Preconditions" "SIOOBE_FORMATTER" "Ljava/util/function/BiFunction;" (.ref (g_a G 1004)) B U H)
theorem am_str.narrow {G : aG} {A B : Nat → Prop} {U : State} {H : Heap} (h : am_str G A U H) (hAB : ∀ q, B q → A q) : am_str G B U H := by
  obtain ⟨h1, h2, h3, h4, h5, h6⟩ := h
  exact ⟨h1.narrow hAB, h2.narrow hAB, h3.narrow hAB, h4.narrow hAB, h5.narrow hAB, h6.imp (fun q => q.narrow hAB) (fun q => q.narrow hAB)⟩
theorem am_str.moved {G : aG} {A : Nat → Prop} {u U : State} {H : Heap} (hvm : u.vm.Alike U.vm) (h : am_str G A u H) : am_str G A U H := by
  obtain ⟨h1, h2, h3, h4, h5, h6⟩ := h
  exact ⟨h1.moved hvm, h2.moved hvm, h3.moved hvm, h4.moved hvm, h5.moved hvm, h6.imp (fun q => q.moved hvm) (fun q => q.moved hvm)⟩
theorem am_str.kept {G : aG} {A : Nat → Prop} {U : State} {H H1 : Heap} (h : am_str G A U H) (hq : ∀ a : Nat, a < H.size → ¬ A a → H1[a]? = H[a]?) : am_str G A U H1 := by
  obtain ⟨h1, h2, h3, h4, h5, h6⟩ := h
  exact ⟨h1.kept hq, h2.kept hq, h3.kept hq, h4.kept hq, h5.kept hq, h6.imp (fun q => q.kept hq) (fun q => q.kept hq)⟩
def am_E (G : aG) (B : Nat → Prop) (U : State) (H : Heap) : Prop := (∀ q ∈ am_XA G, va_T .int (g_a G q.1) q.2.1 (fun j => .int (q.2.2 j)) B U H) ∧ (∀ q ∈ XS, va_Z q.1 q.2.1 q.2.2.1 (am_v (g_a G) q.2.2.2) B U H) ∧ am_str G B U H
theorem am_E.narrow {G : aG} {A B : Nat → Prop} {U : State} {H : Heap} (h : am_E G A U H) (hAB : ∀ q, B q → A q) : am_E G B U H := ⟨fun q hq => (h.1 q hq).narrow hAB, fun q hq => (h.2.1 q hq).narrow hAB, h.2.2.narrow hAB⟩
theorem am_E.moved {G : aG} {A : Nat → Prop} {u U : State} {H : Heap} (hvm : u.vm.Alike U.vm) (h : am_E G A u H) : am_E G A U H := ⟨fun q hq => (h.1 q hq).moved hvm, fun q hq => (h.2.1 q hq).moved hvm, h.2.2.moved hvm⟩
theorem am_E.kept {G : aG} {A : Nat → Prop} {U : State} {H H1 : Heap} (h : am_E G A U H) (hq : ∀ a : Nat, a < H.size → ¬ A a → H1[a]? = H[a]?) : am_E G A U H1 := ⟨fun q h1 => (h.1 q h1).kept hq, fun q h1 => (h.2.1 q h1).kept hq, h.2.2.kept hq⟩
/-- the tables, and the links of nest mates -/
def am_T (G : aG) (U : State) : Prop := va_K (g_D G) CL [(g_c G, .int)] U ∧ (∀ w ∈ NWs, nw_is w = true ∧ va_Nw w U) ∧ vk_R "DatumDeskModel" 106 "quote" (g_a G 1002) U
theorem am_nw {w : Cond} {s U : State} (hn : nw_is w = true) (hW : s.WarmedH U.vm) (h : va_Nw w s) : va_Nw w U := by
  cases w <;> first | (cases hn; done) | exact va_Nw.warmF hW h | exact va_Nw.warmM hW h
theorem am_T.warm {G : aG} {s U : State} (hW : s.WarmedH U.vm) (h : am_T G s) : am_T G U := ⟨h.1.moved hW.alike, fun w hw => ⟨(h.2.1 w hw).1, am_nw (h.2.1 w hw).1 hW (h.2.1 w hw).2⟩, h.2.2.warm hW⟩
def am_wd (Y : aY) : List Cond := .code Y.1 Y.2.1 Y.2.2.1 Y.2.2.2 :: TB
def am_room (d : Nat) : Room := { frames := d, cells := 0, slots := 0, locals := 40 * d }
/-- a method's start -/
def am_P (G : aG) (M : aM) (sz : Nat) (U : State) : Prop := U.heap.size = sz ∧ va_P (g_D G) CL (am_W G M) U.heap ∧ am_T G U ∧ am_E G (g_B G) U U.heap ∧ ∀ q, sz ≤ q → g_B G q
/-- a method's end -/
def am_Q (G : aG) (K : aR) (A : Nat → Prop) : Array Value → State → Outcome → State → Prop := fun _ st oc t => (∃ (r : Option Value) (M : aM), oc = .returned (r.map (am_v (g_a G))) ∧ K r M ∧ va_P (g_D G) CL (am_W G M) t.heap) ∧ va_F A st t
def am_Met (G : aG) (Y : aY) (d : Nat) (As : List Value) (M : aM) (K : aR) : Prop := ∀ sz, Met (g_l G) Y.1 (am_wd Y) (am_room d) (va_Pc (As.map (am_v (g_a G))) (am_P G M sz)) (am_Q G K (am_A G sz)) 0 0 (am_A G sz)
/-- the locals -/
def am_lv (ls : Array Slot) (nL : Nat) (ad : Nat → Nat) (L : aL) : Prop := ls.size = nL ∧ lv_wf ls ∧ ∀ (k : Nat) (v : Value), L[k]? = some (some v) → ls[k]? = some (.val (am_v ad v))
theorem am_lv.look {ls : Array Slot} {nL : Nat} {ad : Nat → Nat} {L : aL} (h : am_lv ls nL ad L) {k : Nat} {v : Value} (hk : L[k]? = some (some v)) : ls[k]? = some (.val (am_v ad v)) := h.2.2 k v hk
def am_ll (ad : Nat → Nat) : Nat → aL → List (Nat × Value)
  | _, [] => []
  | i, none :: r => am_ll ad (i + 1) r
  | i, some v :: r => (i, am_v ad v) :: am_ll ad (i + 1) r
theorem am_ll_mem (ad : Nat → Nat) : ∀ (L : aL) (i : Nat) (q : Nat × Value), q ∈ am_ll ad i L ↔ ∃ (k : Nat) (v : Value), q = (i + k, am_v ad v) ∧ L[k]? = some (some v)
  | [], i, q => by simp [am_ll]
  | none :: r, i, q => by
    simp only [am_ll, am_ll_mem ad r (i + 1) q]
    constructor
    · rintro ⟨k, v, h1, h2⟩
      exact ⟨k + 1, v, by rw [h1, show i + 1 + k = i + (k + 1) by omega], by simpa using h2⟩
    · rintro ⟨k, v, h1, h2⟩
      cases k with
      | zero => simp at h2
      | succ k => exact ⟨k, v, by rw [h1, show i + 1 + k = i + (k + 1) by omega], by simpa using h2⟩
  | some w :: r, i, q => by
    simp only [am_ll, List.mem_cons, am_ll_mem ad r (i + 1) q]
    constructor
    · rintro (h | ⟨k, v, h1, h2⟩)
      · exact ⟨0, w, by rw [h]; rfl, by simp⟩
      · exact ⟨k + 1, v, by rw [h1, show i + 1 + k = i + (k + 1) by omega], by simpa using h2⟩
    · rintro ⟨k, v, h1, h2⟩
      cases k with
      | zero =>
        simp at h2
        left
        rw [h1, h2]; rfl
      | succ k => exact Or.inr ⟨k, v, by rw [h1, show i + 1 + k = i + (k + 1) by omega], by simpa using h2⟩
theorem am_lv.has {ls : Array Slot} {nL : Nat} {ad : Nat → Nat} {L : aL} (h : am_lv ls nL ad L) : lv_has ls nL (am_ll ad 0 L) := by
  refine ⟨h.1, h.2.1, fun q hq => ?_⟩
  obtain ⟨k, v, h1, h2⟩ := (am_ll_mem ad L 0 q).mp hq
  rw [h1]
  simp only [Nat.zero_add]
  exact h.2.2 k v h2
theorem am_v_cat (ad : Nat → Nat) (v : Value) : (am_v ad v).category = v.category := by cases v <;> rfl
/-- no long is cut by a store at i -/
def am_c1 (v : Value) : Bool := match v with
  | .long _ => false
  | .double _ => false
  | _ => true
def am_cut (L : aL) (i : Nat) : Bool := match i with
  | 0 => true
  | k + 1 => match L[k]? with
    | some (some v) => am_c1 v
    | _ => true
theorem am_cut_0 (L : aL) : am_cut L 0 = true := rfl
theorem am_cut_s (L : aL) (k : Nat) : am_cut L (k + 1) = match L[k]? with
    | some (some v) => am_c1 v
    | _ => true := rfl
theorem am_cut_of {L : aL} {i k : Nat} {v : Value} (h : am_cut L i = true) (hk : L[k]? = some (some v)) (hi : k + 1 = i) : ¬ v.category = 2 := by
  subst hi
  simp only [am_cut, hk] at h
  cases v <;> first | (cases h; done) | (intro q; cases q)
theorem am_lv.set1 {ls ls' : Array Slot} {nL i : Nat} {ad : Nat → Nat} {L : aL} {v : Value} (h : am_lv ls nL ad L) (hc : am_cut L i = true)
    (h' : lv_has ls' nL ((i, am_v ad v) :: (am_ll ad 0 L).filter (fun q => !(q.1 == i) && !(q.1 + 1 == i && q.2.category == 2)))) : am_lv ls' nL ad (L.set i (some v)) := by
  refine ⟨h'.1, h'.2.1, fun k w hk => ?_⟩
  by_cases hki : k = i
  · subst hki
    have hl : k < L.length := by
      have := (List.getElem?_eq_some_iff.mp hk).1
      simpa using this
    rw [List.getElem?_set_self hl] at hk
    have : v = w := by simpa using hk
    subst this
    exact h'.2.2 _ List.mem_cons_self
  · rw [List.getElem?_set_ne (fun q => hki q.symm)] at hk
    refine h'.2.2 (k, am_v ad w) (List.mem_cons_of_mem _ (List.mem_filter.mpr ⟨(am_ll_mem ad L 0 _).mpr ⟨k, w, by simp, hk⟩, ?_⟩))
    have h2 : k + 1 = i → ¬ w.category = 2 := fun e => am_cut_of hc hk e
    simp only [am_v_cat, Bool.and_eq_true, Bool.not_eq_true', beq_eq_false_iff_ne, Bool.and_eq_false_iff]
    refine ⟨hki, ?_⟩
    by_cases e : k + 1 = i
    · exact Or.inr (h2 e)
    · exact Or.inl e
theorem am_lv.set2 {ls ls' : Array Slot} {nL i : Nat} {ad : Nat → Nat} {L : aL} {v : Value} (h : am_lv ls nL ad L) (hc : am_cut L i = true)
    (h' : lv_has ls' nL ((i, am_v ad v) :: (am_ll ad 0 L).filter (fun q => !(q.1 == i) && (!(q.1 == i + 1) && !(q.1 + 1 == i && q.2.category == 2))))) : am_lv ls' nL ad ((L.set i (some v)).set (i + 1) none) := by
  refine ⟨h'.1, h'.2.1, fun k w hk => ?_⟩
  by_cases hk1 : k = i + 1
  · subst hk1
    have hl : i + 1 < (L.set i (some v)).length := by
      have := (List.getElem?_eq_some_iff.mp hk).1
      simpa using this
    rw [List.getElem?_set_self hl] at hk
    simp at hk
  rw [List.getElem?_set_ne (fun q => hk1 q.symm)] at hk
  by_cases hki : k = i
  · subst hki
    have hl : k < L.length := by
      have := (List.getElem?_eq_some_iff.mp hk).1
      simpa using this
    rw [List.getElem?_set_self hl] at hk
    have : v = w := by simpa using hk
    subst this
    exact h'.2.2 _ List.mem_cons_self
  · rw [List.getElem?_set_ne (fun q => hki q.symm)] at hk
    refine h'.2.2 (k, am_v ad w) (List.mem_cons_of_mem _ (List.mem_filter.mpr ⟨(am_ll_mem ad L 0 _).mpr ⟨k, w, by simp, hk⟩, ?_⟩))
    have h2 : k + 1 = i → ¬ w.category = 2 := fun e => am_cut_of hc hk e
    simp only [am_v_cat, Bool.and_eq_true, Bool.not_eq_true', beq_eq_false_iff_ne, Bool.and_eq_false_iff]
    refine ⟨hki, hk1, ?_⟩
    by_cases e : k + 1 = i
    · exact Or.inr (h2 e)
    · exact Or.inl e
