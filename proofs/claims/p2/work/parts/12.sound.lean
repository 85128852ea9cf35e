/-! what an instruction of the picture says of the machine -/
def am_C (G : aG) (Y : aY) (p : Program) (s : State) (m : MethodId) (args : Array Value) (meth : Method) (c : Code) : Prop :=
  am_ok G ∧ p.tables.exec = Jvm.exec ∧ c.code = Y.2.1 ∧ c.maxLocals = Y.2.2.1 ∧ meth.sig.returnType = Y.2.2.2 ∧ s.vm.findClass Y.1.cls = some m.cls ∧ (∀ w ∈ TB, w.before args s = true) ∧ meth.locks = false ∧ am_T G s ∧ am_E G (g_B G) s s.heap ∧ ∀ q, s.heap.size ≤ q → g_B G q
def am_J (G : aG) (Y : aY) (p : Program) (e : Env) (R : Room) (s : State) (m : MethodId) (args : Array Value) (below : List Frame) (meth : Method) (c : Code) (Q : State → Prop) (kc ks : Nat) : aJ := fun pc L S M =>
  ∀ (H : Heap) (locs : List Loc) (ls : Array Slot), va_P (g_D G) CL (am_W G M) H → va_S (am_A G s.heap.size) s.heap H locs → am_lv ls Y.2.2.1 (g_a G) L → W p (g_l G) e R s m args below meth c H locs kc ks Q (F0 m pc ls (S.map (am_v (g_a G))))
/-- an instruction at pc is sound for a judgement J and an end K -/
def am_S (J : aJ) (K : aR) (pc : Nat) (i : aI) : Prop := ∀ j : aJ, (∀ pc L S M, j pc L S M → J pc L S M) → ∀ L S M, i j K pc L S M → J pc L S M
section AMS
variable {G : aG} {Y : aY} {p : Program} {e : Env} {R : Room} {s : State} {m : MethodId} {args : Array Value} {below : List Frame} {meth : Method} {c : Code} {Q : State → Prop} {kc ks : Nat} {K : aR} {pc nx tg : Nat}
theorem as_iconst (C : am_C G Y p s m args meth c) {n : Int} {v : Int32} (hd : decode Y.2.1 pc = .ok (.iconst n, 1)) (hv : Int32.ofInt n = v) (hn : nx = pc + 1) : am_S (am_J G Y p e R s m args below meth c Q kc ks) K pc (ai_const v nx) := by
  obtain ⟨hG, hx, hb, hml, hr, hown, hts, hlk, hT, hE, hB⟩ := C
  subst hn
  intro j hj L S M h H locs ls hP hS hl
  exact lv_iconst hx hb hd hv (hj _ _ _ _ h H locs ls hP hS hl)
theorem as_bipush (C : am_C G Y p s m args meth c) {n : Int} {v : Int32} (hd : decode Y.2.1 pc = .ok (.bipush n, 2)) (hv : (Int8.ofInt n).toInt32 = v) (hn : nx = pc + 2) : am_S (am_J G Y p e R s m args below meth c Q kc ks) K pc (ai_const v nx) := by
  obtain ⟨hG, hx, hb, hml, hr, hown, hts, hlk, hT, hE, hB⟩ := C
  subst hn
  intro j hj L S M h H locs ls hP hS hl
  exact lv_bipush hx hb hd hv (hj _ _ _ _ h H locs ls hP hS hl)
theorem as_sipush (C : am_C G Y p s m args meth c) {n : Int} {v : Int32} (hd : decode Y.2.1 pc = .ok (.sipush n, 3)) (hv : (Int16.ofInt n).toInt32 = v) (hn : nx = pc + 3) : am_S (am_J G Y p e R s m args below meth c Q kc ks) K pc (ai_const v nx) := by
  obtain ⟨hG, hx, hb, hml, hr, hown, hts, hlk, hT, hE, hB⟩ := C
  subst hn
  intro j hj L S M h H locs ls hP hS hl
  exact lv_sipush hx hb hd hv (hj _ _ _ _ h H locs ls hP hS hl)
theorem as_ldc (C : am_C G Y p s m args meth c) {ix : Nat} {v : Int32} (hc : Cond.constant Y.1.cls ix v ∈ TB) (hd : decode Y.2.1 pc = .ok (.ldc ix, 2)) (hn : nx = pc + 2) : am_S (am_J G Y p e R s m args below meth c Q kc ks) K pc (ai_const v nx) := by
  obtain ⟨hG, hx, hb, hml, hr, hown, hts, hlk, hT, hE, hB⟩ := C
  subst hn
  intro j hj L S M h H locs ls hP hS hl
  exact lv_ldc hx hb hown (hts _ hc) hd (hj _ _ _ _ h H locs ls hP hS hl)
theorem as_ldc2 (C : am_C G Y p s m args meth c) {ix : Nat} {v : Int64} (hc : Cond.constantLong Y.1.cls ix v ∈ TB) (hd : decode Y.2.1 pc = .ok (.ldc2_w ix, 3)) (hn : nx = pc + 3) : am_S (am_J G Y p e R s m args below meth c Q kc ks) K pc (ai_lconst v nx) := by
  obtain ⟨hG, hx, hb, hml, hr, hown, hts, hlk, hT, hE, hB⟩ := C
  subst hn
  intro j hj L S M h H locs ls hP hS hl
  exact lv_ldc2 hx hb hown (hts _ hc) hd (hj _ _ _ _ h H locs ls hP hS hl)
theorem as_lconst (C : am_C G Y p s m args meth c) {n : Fin 2} {v : Int64} (hd : decode Y.2.1 pc = .ok (.lconst n, 1)) (hv : Int64.ofNat (n : Nat) = v) (hn : nx = pc + 1) : am_S (am_J G Y p e R s m args below meth c Q kc ks) K pc (ai_lconst v nx) := by
  obtain ⟨hG, hx, hb, hml, hr, hown, hts, hlk, hT, hE, hB⟩ := C
  subst hn
  intro j hj L S M h H locs ls hP hS hl
  exact lv_lconst hx hb hd hv (hj _ _ _ _ h H locs ls hP hS hl)
theorem am_ldI {L : aL} {k : Nat} {f : Int32 → Prop} (h : match L[k]? with
  | some (some (.int x)) => f x
  | _ => False) : ∃ x, L[k]? = some (some (.int x)) ∧ f x := by
  split at h
  · next x hx => exact ⟨x, hx, h⟩
  · cases h
theorem am_ldA {L : aL} {k : Nat} {f : Nat → Prop} (h : match L[k]? with
  | some (some (.ref x)) => f x
  | _ => False) : ∃ x, L[k]? = some (some (.ref x)) ∧ f x := by
  split at h
  · next x hx => exact ⟨x, hx, h⟩
  · cases h
theorem am_ldL {L : aL} {k : Nat} {f : Int64 → Prop} (h : match L[k]? with
  | some (some (.long x)) => f x
  | _ => False) : ∃ x, L[k]? = some (some (.long x)) ∧ f x := by
  split at h
  · next x hx => exact ⟨x, hx, h⟩
  · cases h
theorem as_iload_n (C : am_C G Y p s m args meth c) {q : Fin 4} {k : Nat} (hd : decode Y.2.1 pc = .ok (.iload_n q, 1)) (hk : (q : Nat) = k) (hn : nx = pc + 1) : am_S (am_J G Y p e R s m args below meth c Q kc ks) K pc (ai_iload k nx) := by
  obtain ⟨hG, hx, hb, hml, hr, hown, hts, hlk, hT, hE, hB⟩ := C
  subst hn
  intro j hj L S M h H locs ls hP hS hl
  obtain ⟨x, h1, h2⟩ := am_ldI h
  exact lv_iload_n hx hb hd hk (hl.look h1) (hj _ _ _ _ h2 H locs ls hP hS hl)
theorem as_iload (C : am_C G Y p s m args meth c) {k : Nat} (hd : decode Y.2.1 pc = .ok (.iload k, 2)) (hn : nx = pc + 2) : am_S (am_J G Y p e R s m args below meth c Q kc ks) K pc (ai_iload k nx) := by
  obtain ⟨hG, hx, hb, hml, hr, hown, hts, hlk, hT, hE, hB⟩ := C
  subst hn
  intro j hj L S M h H locs ls hP hS hl
  obtain ⟨x, h1, h2⟩ := am_ldI h
  exact lv_iload hx hb hd (hl.look h1) (hj _ _ _ _ h2 H locs ls hP hS hl)
theorem as_aload_n (C : am_C G Y p s m args meth c) {q : Fin 4} {k : Nat} (hd : decode Y.2.1 pc = .ok (.aload_n q, 1)) (hk : (q : Nat) = k) (hn : nx = pc + 1) : am_S (am_J G Y p e R s m args below meth c Q kc ks) K pc (ai_aload k nx) := by
  obtain ⟨hG, hx, hb, hml, hr, hown, hts, hlk, hT, hE, hB⟩ := C
  subst hn
  intro j hj L S M h H locs ls hP hS hl
  obtain ⟨x, h1, h2⟩ := am_ldA h
  exact lv_aload_n hx hb hd hk (hl.look h1) (hj _ _ _ _ h2 H locs ls hP hS hl)
theorem as_aload (C : am_C G Y p s m args meth c) {k : Nat} (hd : decode Y.2.1 pc = .ok (.aload k, 2)) (hn : nx = pc + 2) : am_S (am_J G Y p e R s m args below meth c Q kc ks) K pc (ai_aload k nx) := by
  obtain ⟨hG, hx, hb, hml, hr, hown, hts, hlk, hT, hE, hB⟩ := C
  subst hn
  intro j hj L S M h H locs ls hP hS hl
  obtain ⟨x, h1, h2⟩ := am_ldA h
  exact lv_aload hx hb hd (hl.look h1) (hj _ _ _ _ h2 H locs ls hP hS hl)
theorem as_lload_n (C : am_C G Y p s m args meth c) {q : Fin 4} {k : Nat} (hd : decode Y.2.1 pc = .ok (.lload_n q, 1)) (hk : (q : Nat) = k) (hn : nx = pc + 1) : am_S (am_J G Y p e R s m args below meth c Q kc ks) K pc (ai_lload k nx) := by
  obtain ⟨hG, hx, hb, hml, hr, hown, hts, hlk, hT, hE, hB⟩ := C
  subst hn
  intro j hj L S M h H locs ls hP hS hl
  obtain ⟨x, h1, h2⟩ := am_ldL h
  exact lv_lload_n hx hb hd hk (hl.look h1) (hj _ _ _ _ h2 H locs ls hP hS hl)
theorem as_lload (C : am_C G Y p s m args meth c) {k : Nat} (hd : decode Y.2.1 pc = .ok (.lload k, 2)) (hn : nx = pc + 2) : am_S (am_J G Y p e R s m args below meth c Q kc ks) K pc (ai_lload k nx) := by
  obtain ⟨hG, hx, hb, hml, hr, hown, hts, hlk, hT, hE, hB⟩ := C
  subst hn
  intro j hj L S M h H locs ls hP hS hl
  obtain ⟨x, h1, h2⟩ := am_ldL h
  exact lv_lload hx hb hd (hl.look h1) (hj _ _ _ _ h2 H locs ls hP hS hl)
theorem as_istore_n (C : am_C G Y p s m args meth c) {q : Fin 4} {k : Nat} (hd : decode Y.2.1 pc = .ok (.istore_n q, 1)) (hk : (q : Nat) = k) (hm : k < Y.2.2.1) (hn : nx = pc + 1) : am_S (am_J G Y p e R s m args below meth c Q kc ks) K pc (ai_istore k nx) := by
  obtain ⟨hG, hx, hb, hml, hr, hown, hts, hlk, hT, hE, hB⟩ := C
  subst hn
  intro j hj L S M h H locs ls hP hS hl
  unfold ai_istore at h
  split at h
  · next x S' =>
    exact lv_istore_n hx hb hd hk hl.has hm rfl (fun ls' h' => hj _ _ _ _ h.2 H locs ls' hP hS (hl.set1 (v := .int x) h.1 h'))
  · cases h
theorem as_istore (C : am_C G Y p s m args meth c) {k : Nat} (hd : decode Y.2.1 pc = .ok (.istore k, 2)) (hm : k < Y.2.2.1) (hn : nx = pc + 2) : am_S (am_J G Y p e R s m args below meth c Q kc ks) K pc (ai_istore k nx) := by
  obtain ⟨hG, hx, hb, hml, hr, hown, hts, hlk, hT, hE, hB⟩ := C
  subst hn
  intro j hj L S M h H locs ls hP hS hl
  unfold ai_istore at h
  split at h
  · next x S' =>
    exact lv_istore hx hb hd hl.has hm rfl (fun ls' h' => hj _ _ _ _ h.2 H locs ls' hP hS (hl.set1 (v := .int x) h.1 h'))
  · cases h
theorem as_astore_n (C : am_C G Y p s m args meth c) {q : Fin 4} {k : Nat} (hd : decode Y.2.1 pc = .ok (.astore_n q, 1)) (hk : (q : Nat) = k) (hm : k < Y.2.2.1) (hn : nx = pc + 1) : am_S (am_J G Y p e R s m args below meth c Q kc ks) K pc (ai_astore k nx) := by
  obtain ⟨hG, hx, hb, hml, hr, hown, hts, hlk, hT, hE, hB⟩ := C
  subst hn
  intro j hj L S M h H locs ls hP hS hl
  unfold ai_astore at h
  split at h
  · next x S' =>
    exact lv_astore_n hx hb hd hk hl.has hm rfl (fun ls' h' => hj _ _ _ _ h.2 H locs ls' hP hS (hl.set1 (v := .ref x) h.1 h'))
  · cases h
theorem as_astore (C : am_C G Y p s m args meth c) {k : Nat} (hd : decode Y.2.1 pc = .ok (.astore k, 2)) (hm : k < Y.2.2.1) (hn : nx = pc + 2) : am_S (am_J G Y p e R s m args below meth c Q kc ks) K pc (ai_astore k nx) := by
  obtain ⟨hG, hx, hb, hml, hr, hown, hts, hlk, hT, hE, hB⟩ := C
  subst hn
  intro j hj L S M h H locs ls hP hS hl
  unfold ai_astore at h
  split at h
  · next x S' =>
    exact lv_astore hx hb hd hl.has hm rfl (fun ls' h' => hj _ _ _ _ h.2 H locs ls' hP hS (hl.set1 (v := .ref x) h.1 h'))
  · cases h
theorem as_lstore_n (C : am_C G Y p s m args meth c) {q : Fin 4} {k : Nat} (hd : decode Y.2.1 pc = .ok (.lstore_n q, 1)) (hk : (q : Nat) = k) (hm : k + 1 < Y.2.2.1) (hn : nx = pc + 1) : am_S (am_J G Y p e R s m args below meth c Q kc ks) K pc (ai_lstore k nx) := by
  obtain ⟨hG, hx, hb, hml, hr, hown, hts, hlk, hT, hE, hB⟩ := C
  subst hn
  intro j hj L S M h H locs ls hP hS hl
  unfold ai_lstore at h
  split at h
  · next x S' =>
    exact lv_lstore_n hx hb hd hk hl.has hm rfl (fun ls' h' => hj _ _ _ _ h.2 H locs ls' hP hS (hl.set2 (v := .long x) h.1 h'))
  · cases h
theorem as_lstore (C : am_C G Y p s m args meth c) {k : Nat} (hd : decode Y.2.1 pc = .ok (.lstore k, 2)) (hm : k + 1 < Y.2.2.1) (hn : nx = pc + 2) : am_S (am_J G Y p e R s m args below meth c Q kc ks) K pc (ai_lstore k nx) := by
  obtain ⟨hG, hx, hb, hml, hr, hown, hts, hlk, hT, hE, hB⟩ := C
  subst hn
  intro j hj L S M h H locs ls hP hS hl
  unfold ai_lstore at h
  split at h
  · next x S' =>
    exact lv_lstore hx hb hd hl.has hm rfl (fun ls' h' => hj _ _ _ _ h.2 H locs ls' hP hS (hl.set2 (v := .long x) h.1 h'))
  · cases h
theorem as_iinc (C : am_C G Y p s m args meth c) {k : Nat} {n : Int} {v : Int32} (hd : decode Y.2.1 pc = .ok (.iinc k n, 3)) (hv : Int32.ofInt n = v) (hm : k < Y.2.2.1) (hn : nx = pc + 3) : am_S (am_J G Y p e R s m args below meth c Q kc ks) K pc (ai_iinc k v nx) := by
  obtain ⟨hG, hx, hb, hml, hr, hown, hts, hlk, hT, hE, hB⟩ := C
  subst hn
  subst hv
  intro j hj L S M h H locs ls hP hS hl
  obtain ⟨x, h1, h2⟩ := am_ldI (f := fun x => am_cut L k = true ∧ j (pc + 3) (L.set k (some (.int (x + Int32.ofInt n)))) S M) h
  have hmem : (k, Value.int x) ∈ am_ll (g_a G) 0 L := (am_ll_mem (g_a G) L 0 _).mpr ⟨k, .int x, by simp [am_v], h1⟩
  obtain ⟨i, hi⟩ := List.getElem?_of_mem hmem
  exact lv_iinc hx hb hd hl.has hi rfl hm rfl (fun ls' h' => hj _ _ _ _ h2.2 H locs ls' hP hS (hl.set1 (v := .int (x + Int32.ofInt n)) h2.1 h'))
theorem as_iadd (C : am_C G Y p s m args meth c) (hd : decode Y.2.1 pc = .ok (.iadd, 1)) (hn : nx = pc + 1) : am_S (am_J G Y p e R s m args below meth c Q kc ks) K pc (ai_iadd nx) := by
  obtain ⟨hG, hx, hb, hml, hr, hown, hts, hlk, hT, hE, hB⟩ := C
  subst hn
  intro j hj L S M h H locs ls hP hS hl
  unfold ai_iadd at h
  unfold ai_bin at h
  split at h
  · exact lv_iadd hx hb hd (hj _ _ _ _ h H locs ls hP hS hl)
  · cases h
theorem as_isub (C : am_C G Y p s m args meth c) (hd : decode Y.2.1 pc = .ok (.isub, 1)) (hn : nx = pc + 1) : am_S (am_J G Y p e R s m args below meth c Q kc ks) K pc (ai_isub nx) := by
  obtain ⟨hG, hx, hb, hml, hr, hown, hts, hlk, hT, hE, hB⟩ := C
  subst hn
  intro j hj L S M h H locs ls hP hS hl
  unfold ai_isub at h
  unfold ai_bin at h
  split at h
  · exact lv_isub hx hb hd (hj _ _ _ _ h H locs ls hP hS hl)
  · cases h
theorem as_imul (C : am_C G Y p s m args meth c) (hd : decode Y.2.1 pc = .ok (.imul, 1)) (hn : nx = pc + 1) : am_S (am_J G Y p e R s m args below meth c Q kc ks) K pc (ai_imul nx) := by
  obtain ⟨hG, hx, hb, hml, hr, hown, hts, hlk, hT, hE, hB⟩ := C
  subst hn
  intro j hj L S M h H locs ls hP hS hl
  unfold ai_imul at h
  unfold ai_bin at h
  split at h
  · exact lv_imul hx hb hd (hj _ _ _ _ h H locs ls hP hS hl)
  · cases h
theorem as_iand (C : am_C G Y p s m args meth c) (hd : decode Y.2.1 pc = .ok (.iand, 1)) (hn : nx = pc + 1) : am_S (am_J G Y p e R s m args below meth c Q kc ks) K pc (ai_iand nx) := by
  obtain ⟨hG, hx, hb, hml, hr, hown, hts, hlk, hT, hE, hB⟩ := C
  subst hn
  intro j hj L S M h H locs ls hP hS hl
  unfold ai_iand at h
  unfold ai_bin at h
  split at h
  · exact lv_iand hx hb hd (hj _ _ _ _ h H locs ls hP hS hl)
  · cases h
theorem as_ior (C : am_C G Y p s m args meth c) (hd : decode Y.2.1 pc = .ok (.ior, 1)) (hn : nx = pc + 1) : am_S (am_J G Y p e R s m args below meth c Q kc ks) K pc (ai_ior nx) := by
  obtain ⟨hG, hx, hb, hml, hr, hown, hts, hlk, hT, hE, hB⟩ := C
  subst hn
  intro j hj L S M h H locs ls hP hS hl
  unfold ai_ior at h
  unfold ai_bin at h
  split at h
  · exact lv_ior hx hb hd (hj _ _ _ _ h H locs ls hP hS hl)
  · cases h
theorem as_ishl (C : am_C G Y p s m args meth c) (hd : decode Y.2.1 pc = .ok (.ishl, 1)) (hn : nx = pc + 1) : am_S (am_J G Y p e R s m args below meth c Q kc ks) K pc (ai_ishl nx) := by
  obtain ⟨hG, hx, hb, hml, hr, hown, hts, hlk, hT, hE, hB⟩ := C
  subst hn
  intro j hj L S M h H locs ls hP hS hl
  unfold ai_ishl at h
  unfold ai_bin at h
  split at h
  · exact lv_ishl hx hb hd (hj _ _ _ _ h H locs ls hP hS hl)
  · cases h
theorem as_ishr (C : am_C G Y p s m args meth c) (hd : decode Y.2.1 pc = .ok (.ishr, 1)) (hn : nx = pc + 1) : am_S (am_J G Y p e R s m args below meth c Q kc ks) K pc (ai_ishr nx) := by
  obtain ⟨hG, hx, hb, hml, hr, hown, hts, hlk, hT, hE, hB⟩ := C
  subst hn
  intro j hj L S M h H locs ls hP hS hl
  unfold ai_ishr at h
  unfold ai_bin at h
  split at h
  · exact lv_ishr hx hb hd (hj _ _ _ _ h H locs ls hP hS hl)
  · cases h
theorem as_idiv (C : am_C G Y p s m args meth c) (hd : decode Y.2.1 pc = .ok (.idiv, 1)) (hn : nx = pc + 1) : am_S (am_J G Y p e R s m args below meth c Q kc ks) K pc (ai_idiv nx) := by
  obtain ⟨hG, hx, hb, hml, hr, hown, hts, hlk, hT, hE, hB⟩ := C
  subst hn
  intro j hj L S M h H locs ls hP hS hl
  unfold ai_idiv at h
  split at h
  · exact lv_idiv hx hb hd h.1 (hj _ _ _ _ h.2 H locs ls hP hS hl)
  · cases h
theorem as_irem (C : am_C G Y p s m args meth c) (hd : decode Y.2.1 pc = .ok (.irem, 1)) (hn : nx = pc + 1) : am_S (am_J G Y p e R s m args below meth c Q kc ks) K pc (ai_irem nx) := by
  obtain ⟨hG, hx, hb, hml, hr, hown, hts, hlk, hT, hE, hB⟩ := C
  subst hn
  intro j hj L S M h H locs ls hP hS hl
  unfold ai_irem at h
  split at h
  · exact lv_irem hx hb hd h.1 (hj _ _ _ _ h.2 H locs ls hP hS hl)
  · cases h
theorem as_ineg (C : am_C G Y p s m args meth c) (hd : decode Y.2.1 pc = .ok (.ineg, 1)) (hn : nx = pc + 1) : am_S (am_J G Y p e R s m args below meth c Q kc ks) K pc (ai_ineg nx) := by
  obtain ⟨hG, hx, hb, hml, hr, hown, hts, hlk, hT, hE, hB⟩ := C
  subst hn
  intro j hj L S M h H locs ls hP hS hl
  unfold ai_ineg at h
  split at h
  · exact lv_ineg hx hb hd (hj _ _ _ _ h H locs ls hP hS hl)
  · cases h
theorem as_lor (C : am_C G Y p s m args meth c) (hd : decode Y.2.1 pc = .ok (.lor, 1)) (hn : nx = pc + 1) : am_S (am_J G Y p e R s m args below meth c Q kc ks) K pc (ai_lor nx) := by
  obtain ⟨hG, hx, hb, hml, hr, hown, hts, hlk, hT, hE, hB⟩ := C
  subst hn
  intro j hj L S M h H locs ls hP hS hl
  unfold ai_lor at h
  unfold ai_lbin at h
  split at h
  · exact lv_lor hx hb hd (hj _ _ _ _ h H locs ls hP hS hl)
  · cases h
theorem as_land (C : am_C G Y p s m args meth c) (hd : decode Y.2.1 pc = .ok (.land, 1)) (hn : nx = pc + 1) : am_S (am_J G Y p e R s m args below meth c Q kc ks) K pc (ai_land nx) := by
  obtain ⟨hG, hx, hb, hml, hr, hown, hts, hlk, hT, hE, hB⟩ := C
  subst hn
  intro j hj L S M h H locs ls hP hS hl
  unfold ai_land at h
  unfold ai_lbin at h
  split at h
  · exact lv_land hx hb hd (hj _ _ _ _ h H locs ls hP hS hl)
  · cases h
theorem as_ladd (C : am_C G Y p s m args meth c) (hd : decode Y.2.1 pc = .ok (.ladd, 1)) (hn : nx = pc + 1) : am_S (am_J G Y p e R s m args below meth c Q kc ks) K pc (ai_ladd nx) := by
  obtain ⟨hG, hx, hb, hml, hr, hown, hts, hlk, hT, hE, hB⟩ := C
  subst hn
  intro j hj L S M h H locs ls hP hS hl
  unfold ai_ladd at h
  unfold ai_lbin at h
  split at h
  · exact lv_ladd hx hb hd (hj _ _ _ _ h H locs ls hP hS hl)
  · cases h
theorem as_lushr (C : am_C G Y p s m args meth c) (hd : decode Y.2.1 pc = .ok (.lushr, 1)) (hn : nx = pc + 1) : am_S (am_J G Y p e R s m args below meth c Q kc ks) K pc (ai_lushr nx) := by
  obtain ⟨hG, hx, hb, hml, hr, hown, hts, hlk, hT, hE, hB⟩ := C
  subst hn
  intro j hj L S M h H locs ls hP hS hl
  unfold ai_lushr at h
  split at h
  · exact lv_lushr hx hb hd rfl (hj _ _ _ _ h H locs ls hP hS hl)
  · cases h
theorem as_lshl (C : am_C G Y p s m args meth c) (hd : decode Y.2.1 pc = .ok (.lshl, 1)) (hn : nx = pc + 1) : am_S (am_J G Y p e R s m args below meth c Q kc ks) K pc (ai_lshl nx) := by
  obtain ⟨hG, hx, hb, hml, hr, hown, hts, hlk, hT, hE, hB⟩ := C
  subst hn
  intro j hj L S M h H locs ls hP hS hl
  unfold ai_lshl at h
  split at h
  · exact lv_lshl hx hb hd rfl (hj _ _ _ _ h H locs ls hP hS hl)
  · cases h
theorem as_lshr (C : am_C G Y p s m args meth c) (hd : decode Y.2.1 pc = .ok (.lshr, 1)) (hn : nx = pc + 1) : am_S (am_J G Y p e R s m args below meth c Q kc ks) K pc (ai_lshr nx) := by
  obtain ⟨hG, hx, hb, hml, hr, hown, hts, hlk, hT, hE, hB⟩ := C
  subst hn
  intro j hj L S M h H locs ls hP hS hl
  unfold ai_lshr at h
  split at h
  · exact lv_lshr hx hb hd rfl (hj _ _ _ _ h H locs ls hP hS hl)
  · cases h
theorem as_i2l (C : am_C G Y p s m args meth c) (hd : decode Y.2.1 pc = .ok (.i2l, 1)) (hn : nx = pc + 1) : am_S (am_J G Y p e R s m args below meth c Q kc ks) K pc (ai_i2l nx) := by
  obtain ⟨hG, hx, hb, hml, hr, hown, hts, hlk, hT, hE, hB⟩ := C
  subst hn
  intro j hj L S M h H locs ls hP hS hl
  unfold ai_i2l at h
  split at h
  · exact lv_i2l hx hb hd rfl (hj _ _ _ _ h H locs ls hP hS hl)
  · cases h
theorem as_l2i (C : am_C G Y p s m args meth c) (hd : decode Y.2.1 pc = .ok (.l2i, 1)) (hn : nx = pc + 1) : am_S (am_J G Y p e R s m args below meth c Q kc ks) K pc (ai_l2i nx) := by
  obtain ⟨hG, hx, hb, hml, hr, hown, hts, hlk, hT, hE, hB⟩ := C
  subst hn
  intro j hj L S M h H locs ls hP hS hl
  unfold ai_l2i at h
  split at h
  · exact lv_l2i hx hb hd rfl (hj _ _ _ _ h H locs ls hP hS hl)
  · cases h
theorem as_lcmp (C : am_C G Y p s m args meth c) (hd : decode Y.2.1 pc = .ok (.lcmp, 1)) (hn : nx = pc + 1) : am_S (am_J G Y p e R s m args below meth c Q kc ks) K pc (ai_lcmp nx) := by
  obtain ⟨hG, hx, hb, hml, hr, hown, hts, hlk, hT, hE, hB⟩ := C
  subst hn
  intro j hj L S M h H locs ls hP hS hl
  unfold ai_lcmp at h
  split at h
  · exact W.lcmp hx hb hd (hj _ _ _ _ h H locs ls hP hS hl)
  · cases h
theorem am_c1_cat {v : Value} (ad : Nat → Nat) (h : am_c1 v = true) : (am_v ad v).category = 1 := by cases v <;> first | (cases h; done) | rfl
theorem as_dup (C : am_C G Y p s m args meth c) (hd : decode Y.2.1 pc = .ok (.dup, 1)) (hn : nx = pc + 1) : am_S (am_J G Y p e R s m args below meth c Q kc ks) K pc (ai_dup nx) := by
  obtain ⟨hG, hx, hb, hml, hr, hown, hts, hlk, hT, hE, hB⟩ := C
  subst hn
  intro j hj L S M h H locs ls hP hS hl
  unfold ai_dup at h
  split at h
  · exact lv_dup hx hb hd (am_c1_cat _ h.1) (hj _ _ _ _ h.2 H locs ls hP hS hl)
  · cases h
theorem as_pop (C : am_C G Y p s m args meth c) (hd : decode Y.2.1 pc = .ok (.pop, 1)) (hn : nx = pc + 1) : am_S (am_J G Y p e R s m args below meth c Q kc ks) K pc (ai_pop nx) := by
  obtain ⟨hG, hx, hb, hml, hr, hown, hts, hlk, hT, hE, hB⟩ := C
  subst hn
  intro j hj L S M h H locs ls hP hS hl
  unfold ai_pop at h
  split at h
  · exact lv_pop hx hb hd (am_c1_cat _ h.1) (hj _ _ _ _ h.2 H locs ls hP hS hl)
  · cases h
theorem as_dup2 (C : am_C G Y p s m args meth c) (hd : decode Y.2.1 pc = .ok (.dup2, 1)) (hn : nx = pc + 1) : am_S (am_J G Y p e R s m args below meth c Q kc ks) K pc (ai_dup2 nx) := by
  obtain ⟨hG, hx, hb, hml, hr, hown, hts, hlk, hT, hE, hB⟩ := C
  subst hn
  intro j hj L S M h H locs ls hP hS hl
  unfold ai_dup2 at h
  split at h
  · exact lv_dup2_11 hx hb hd (am_c1_cat _ h.1) (am_c1_cat _ h.2.1) (hj _ _ _ _ h.2.2 H locs ls hP hS hl)
  · cases h
theorem as_dup_x1 (C : am_C G Y p s m args meth c) (hd : decode Y.2.1 pc = .ok (.dup_x1, 1)) (hn : nx = pc + 1) : am_S (am_J G Y p e R s m args below meth c Q kc ks) K pc (ai_dup_x1 nx) := by
  obtain ⟨hG, hx, hb, hml, hr, hown, hts, hlk, hT, hE, hB⟩ := C
  subst hn
  intro j hj L S M h H locs ls hP hS hl
  unfold ai_dup_x1 at h
  split at h
  · exact lv_dup_x1 hx hb hd (am_c1_cat _ h.1) (am_c1_cat _ h.2.1) (hj _ _ _ _ h.2.2 H locs ls hP hS hl)
  · cases h
theorem as_dup_x2 (C : am_C G Y p s m args meth c) (hd : decode Y.2.1 pc = .ok (.dup_x2, 1)) (hn : nx = pc + 1) : am_S (am_J G Y p e R s m args below meth c Q kc ks) K pc (ai_dup_x2 nx) := by
  obtain ⟨hG, hx, hb, hml, hr, hown, hts, hlk, hT, hE, hB⟩ := C
  subst hn
  intro j hj L S M h H locs ls hP hS hl
  unfold ai_dup_x2 at h
  split at h
  · exact lv_dup_x2 hx hb hd (am_c1_cat _ h.1) (am_c1_cat _ h.2.1) (am_c1_cat _ h.2.2.1) (hj _ _ _ _ h.2.2.2 H locs ls hP hS hl)
  · cases h
theorem as_ifeq (C : am_C G Y p s m args meth c) {off : Int} (hd : decode Y.2.1 pc = .ok (.ifCond .eq off, 3)) (ht : (pc : Int) + off = (tg : Int)) (hn : nx = pc + 3) : am_S (am_J G Y p e R s m args below meth c Q kc ks) K pc (ai_ifeq tg nx) := by
  obtain ⟨hG, hx, hb, hml, hr, hown, hts, hlk, hT, hE, hB⟩ := C
  subst hn
  intro j hj L S M h H locs ls hP hS hl
  unfold ai_ifeq at h
  split at h
  · exact lv_if_eq hx hb hd ht (fun q => hj _ _ _ _ (by rw [if_pos q] at h; exact h) H locs ls hP hS hl) (fun q => hj _ _ _ _ (by rw [if_neg q] at h; exact h) H locs ls hP hS hl)
  · cases h
theorem as_ifne (C : am_C G Y p s m args meth c) {off : Int} (hd : decode Y.2.1 pc = .ok (.ifCond .ne off, 3)) (ht : (pc : Int) + off = (tg : Int)) (hn : nx = pc + 3) : am_S (am_J G Y p e R s m args below meth c Q kc ks) K pc (ai_ifne tg nx) := by
  obtain ⟨hG, hx, hb, hml, hr, hown, hts, hlk, hT, hE, hB⟩ := C
  subst hn
  intro j hj L S M h H locs ls hP hS hl
  unfold ai_ifne at h
  split at h
  · exact lv_if_ne hx hb hd ht (fun q => hj _ _ _ _ (by rw [if_neg q] at h; exact h) H locs ls hP hS hl) (fun q => hj _ _ _ _ (by rw [if_pos q] at h; exact h) H locs ls hP hS hl)
  · cases h
theorem as_iflt (C : am_C G Y p s m args meth c) {off : Int} (hd : decode Y.2.1 pc = .ok (.ifCond .lt off, 3)) (ht : (pc : Int) + off = (tg : Int)) (hn : nx = pc + 3) : am_S (am_J G Y p e R s m args below meth c Q kc ks) K pc (ai_iflt tg nx) := by
  obtain ⟨hG, hx, hb, hml, hr, hown, hts, hlk, hT, hE, hB⟩ := C
  subst hn
  intro j hj L S M h H locs ls hP hS hl
  unfold ai_iflt at h
  split at h
  · exact lv_if_lt hx hb hd ht (fun q => hj _ _ _ _ (by rw [if_pos q] at h; exact h) H locs ls hP hS hl) (fun q => hj _ _ _ _ (by rw [if_neg q] at h; exact h) H locs ls hP hS hl)
  · cases h
theorem as_ifge (C : am_C G Y p s m args meth c) {off : Int} (hd : decode Y.2.1 pc = .ok (.ifCond .ge off, 3)) (ht : (pc : Int) + off = (tg : Int)) (hn : nx = pc + 3) : am_S (am_J G Y p e R s m args below meth c Q kc ks) K pc (ai_ifge tg nx) := by
  obtain ⟨hG, hx, hb, hml, hr, hown, hts, hlk, hT, hE, hB⟩ := C
  subst hn
  intro j hj L S M h H locs ls hP hS hl
  unfold ai_ifge at h
  split at h
  · exact lv_if_ge hx hb hd ht (fun q => hj _ _ _ _ (by rw [if_pos q] at h; exact h) H locs ls hP hS hl) (fun q => hj _ _ _ _ (by rw [if_neg q] at h; exact h) H locs ls hP hS hl)
  · cases h
theorem as_ifgt (C : am_C G Y p s m args meth c) {off : Int} (hd : decode Y.2.1 pc = .ok (.ifCond .gt off, 3)) (ht : (pc : Int) + off = (tg : Int)) (hn : nx = pc + 3) : am_S (am_J G Y p e R s m args below meth c Q kc ks) K pc (ai_ifgt tg nx) := by
  obtain ⟨hG, hx, hb, hml, hr, hown, hts, hlk, hT, hE, hB⟩ := C
  subst hn
  intro j hj L S M h H locs ls hP hS hl
  unfold ai_ifgt at h
  split at h
  · exact lv_if_gt hx hb hd ht (fun q => hj _ _ _ _ (by rw [if_pos q] at h; exact h) H locs ls hP hS hl) (fun q => hj _ _ _ _ (by rw [if_neg q] at h; exact h) H locs ls hP hS hl)
  · cases h
theorem as_ifle (C : am_C G Y p s m args meth c) {off : Int} (hd : decode Y.2.1 pc = .ok (.ifCond .le off, 3)) (ht : (pc : Int) + off = (tg : Int)) (hn : nx = pc + 3) : am_S (am_J G Y p e R s m args below meth c Q kc ks) K pc (ai_ifle tg nx) := by
  obtain ⟨hG, hx, hb, hml, hr, hown, hts, hlk, hT, hE, hB⟩ := C
  subst hn
  intro j hj L S M h H locs ls hP hS hl
  unfold ai_ifle at h
  split at h
  · exact lv_if_le hx hb hd ht (fun q => hj _ _ _ _ (by rw [if_pos q] at h; exact h) H locs ls hP hS hl) (fun q => hj _ _ _ _ (by rw [if_neg q] at h; exact h) H locs ls hP hS hl)
  · cases h
theorem as_cmpeq (C : am_C G Y p s m args meth c) {off : Int} (hd : decode Y.2.1 pc = .ok (.if_icmp .eq off, 3)) (ht : (pc : Int) + off = (tg : Int)) (hn : nx = pc + 3) : am_S (am_J G Y p e R s m args below meth c Q kc ks) K pc (ai_cmpeq tg nx) := by
  obtain ⟨hG, hx, hb, hml, hr, hown, hts, hlk, hT, hE, hB⟩ := C
  subst hn
  intro j hj L S M h H locs ls hP hS hl
  unfold ai_cmpeq at h
  split at h
  · exact lv_icmp_eq hx hb hd ht (fun q => hj _ _ _ _ (by rw [if_pos q] at h; exact h) H locs ls hP hS hl) (fun q => hj _ _ _ _ (by rw [if_neg q] at h; exact h) H locs ls hP hS hl)
  · cases h
theorem as_cmpne (C : am_C G Y p s m args meth c) {off : Int} (hd : decode Y.2.1 pc = .ok (.if_icmp .ne off, 3)) (ht : (pc : Int) + off = (tg : Int)) (hn : nx = pc + 3) : am_S (am_J G Y p e R s m args below meth c Q kc ks) K pc (ai_cmpne tg nx) := by
  obtain ⟨hG, hx, hb, hml, hr, hown, hts, hlk, hT, hE, hB⟩ := C
  subst hn
  intro j hj L S M h H locs ls hP hS hl
  unfold ai_cmpne at h
  split at h
  · exact lv_icmp_ne hx hb hd ht (fun q => hj _ _ _ _ (by rw [if_neg q] at h; exact h) H locs ls hP hS hl) (fun q => hj _ _ _ _ (by rw [if_pos q] at h; exact h) H locs ls hP hS hl)
  · cases h
theorem as_cmplt (C : am_C G Y p s m args meth c) {off : Int} (hd : decode Y.2.1 pc = .ok (.if_icmp .lt off, 3)) (ht : (pc : Int) + off = (tg : Int)) (hn : nx = pc + 3) : am_S (am_J G Y p e R s m args below meth c Q kc ks) K pc (ai_cmplt tg nx) := by
  obtain ⟨hG, hx, hb, hml, hr, hown, hts, hlk, hT, hE, hB⟩ := C
  subst hn
  intro j hj L S M h H locs ls hP hS hl
  unfold ai_cmplt at h
  split at h
  · exact lv_icmp_lt hx hb hd ht (fun q => hj _ _ _ _ (by rw [if_pos q] at h; exact h) H locs ls hP hS hl) (fun q => hj _ _ _ _ (by rw [if_neg q] at h; exact h) H locs ls hP hS hl)
  · cases h
theorem as_cmpge (C : am_C G Y p s m args meth c) {off : Int} (hd : decode Y.2.1 pc = .ok (.if_icmp .ge off, 3)) (ht : (pc : Int) + off = (tg : Int)) (hn : nx = pc + 3) : am_S (am_J G Y p e R s m args below meth c Q kc ks) K pc (ai_cmpge tg nx) := by
  obtain ⟨hG, hx, hb, hml, hr, hown, hts, hlk, hT, hE, hB⟩ := C
  subst hn
  intro j hj L S M h H locs ls hP hS hl
  unfold ai_cmpge at h
  split at h
  · exact lv_icmp_ge hx hb hd ht (fun q => hj _ _ _ _ (by rw [if_neg (Int32.not_lt.mpr q)] at h; exact h) H locs ls hP hS hl) (fun q => hj _ _ _ _ (by rw [if_pos (Int32.not_le.mp q)] at h; exact h) H locs ls hP hS hl)
  · cases h
theorem as_cmpgt (C : am_C G Y p s m args meth c) {off : Int} (hd : decode Y.2.1 pc = .ok (.if_icmp .gt off, 3)) (ht : (pc : Int) + off = (tg : Int)) (hn : nx = pc + 3) : am_S (am_J G Y p e R s m args below meth c Q kc ks) K pc (ai_cmpgt tg nx) := by
  obtain ⟨hG, hx, hb, hml, hr, hown, hts, hlk, hT, hE, hB⟩ := C
  subst hn
  intro j hj L S M h H locs ls hP hS hl
  unfold ai_cmpgt at h
  split at h
  · exact lv_icmp_gt hx hb hd ht (fun q => hj _ _ _ _ (by rw [if_pos q] at h; exact h) H locs ls hP hS hl) (fun q => hj _ _ _ _ (by rw [if_neg q] at h; exact h) H locs ls hP hS hl)
  · cases h
theorem as_cmple (C : am_C G Y p s m args meth c) {off : Int} (hd : decode Y.2.1 pc = .ok (.if_icmp .le off, 3)) (ht : (pc : Int) + off = (tg : Int)) (hn : nx = pc + 3) : am_S (am_J G Y p e R s m args below meth c Q kc ks) K pc (ai_cmple tg nx) := by
  obtain ⟨hG, hx, hb, hml, hr, hown, hts, hlk, hT, hE, hB⟩ := C
  subst hn
  intro j hj L S M h H locs ls hP hS hl
  unfold ai_cmple at h
  split at h
  · exact lv_icmp_le hx hb hd ht (fun q => hj _ _ _ _ (by rw [if_neg (Int32.not_lt.mpr q)] at h; exact h) H locs ls hP hS hl) (fun q => hj _ _ _ _ (by rw [if_pos (Int32.not_le.mp q)] at h; exact h) H locs ls hP hS hl)
  · cases h
theorem as_goto (C : am_C G Y p s m args meth c) {off : Int} (hd : decode Y.2.1 pc = .ok (.goto off, 3)) (ht : (pc : Int) + off = (tg : Int)) : am_S (am_J G Y p e R s m args below meth c Q kc ks) K pc (ai_goto tg) := by
  obtain ⟨hG, hx, hb, hml, hr, hown, hts, hlk, hT, hE, hB⟩ := C
  intro j hj L S M h H locs ls hP hS hl
  exact lv_goto hx hb hd ht (hj _ _ _ _ h H locs ls hP hS hl)
theorem am_sw_tg (x : Int32) (d : Nat) (f : Nat → Prop) : ∀ cs, am_sw x d f cs → f (am_tg x d cs)
  | [], h => h
  | q :: r, h => by
    simp only [am_sw] at h
    simp only [am_tg]
    split at h
    · next e => rw [if_pos e]; exact h
    · next e => rw [if_neg e]; exact am_sw_tg x d f r h
/-- a table of keys as the code has it -/
def am_lk (pc : Nat) : List (Int × Int) → List (Int32 × Nat) → Bool
  | [], [] => true
  | a :: r, b :: t => b.1.toInt == a.1 && (pc : Int) + a.2 == (b.2 : Int) && am_lk pc r t
  | _, _ => false
theorem am_lk_of {dflt : Int} {d : Nat} (x : Int32) (hd : (pc : Int) + dflt = (d : Int)) : ∀ (ps : List (Int × Int)) (cs : List (Int32 × Nat)), am_lk pc ps cs = true → (pc : Int) + Op.lookupswitch.offset ps dflt x.toInt = ((am_tg x d cs : Nat) : Int)
  | [], [], _ => by simpa [Op.lookupswitch.offset, am_tg] using hd
  | [], _ :: _, h => by cases h
  | _ :: _, [], h => by cases h
  | a :: r, b :: t, h => by
    simp only [am_lk, Bool.and_eq_true, beq_iff_eq] at h
    obtain ⟨⟨h1, h2⟩, h3⟩ := h
    obtain ⟨a1, a2⟩ := a
    simp only [am_tg]
    rw [Op.lookupswitch.offset_cons]
    by_cases hx : x = b.1
    · rw [if_pos hx, if_pos (by rw [hx]; exact h1.symm)]
      exact h2
    · rw [if_neg hx, if_neg (fun q => hx (Int32.toInt_inj.mp (by rw [h1]; exact q.symm)))]
      exact am_lk_of x hd r t h3
theorem as_lookup (C : am_C G Y p s m args meth c) {dflt : Int} {ps : Array (Int × Int)} {len d : Nat} {cs : List (Int32 × Nat)} (hd : decode Y.2.1 pc = .ok (.lookupswitch dflt ps, len)) (hp : (ps.toList.zip (ps.toList.drop 1)).all (fun (a, next) => a.1 < next.1) = true) (hk : am_lk pc ps.toList cs = true) (ht : (pc : Int) + dflt = (d : Int)) : am_S (am_J G Y p e R s m args below meth c Q kc ks) K pc (ai_switch cs d) := by
  obtain ⟨hG, hx, hb, hml, hr, hown, hts, hlk, hT, hE, hB⟩ := C
  intro j hj L S M h H locs ls hP hS hl
  unfold ai_switch at h
  split at h
  · next x S' =>
    exact lv_lookup hx hb hd hp rfl (am_lk_of x ht _ _ hk) (hj _ _ _ _ (am_sw_tg x d (fun t => j t L S' M) cs h) H locs ls hP hS hl)
  · cases h
/-- a table of neighbours as the code has it -/
def am_tk (pc : Nat) : Int → List Int → List (Int32 × Nat) → Bool
  | _, [], [] => true
  | lo, a :: r, b :: t => b.1.toInt == lo && (pc : Int) + a == (b.2 : Int) && am_tk pc (lo + 1) r t
  | _, _, _ => false
theorem am_tk_out {d : Nat} (x : Int32) : ∀ (lo : Int) (os : List Int) (cs : List (Int32 × Nat)), am_tk pc lo os cs = true → (x.toInt < lo ∨ lo + os.length ≤ x.toInt) → am_tg x d cs = d
  | _, [], [], _, _ => rfl
  | _, [], _ :: _, h, _ => by cases h
  | _, _ :: _, [], h, _ => by cases h
  | lo, a :: r, b :: t, h, ho => by
    simp only [am_tk, Bool.and_eq_true, beq_iff_eq] at h
    obtain ⟨⟨h1, h2⟩, h3⟩ := h
    simp only [List.length_cons] at ho
    simp only [am_tg]
    rw [if_neg (fun q => by rw [q, h1] at ho; omega)]
    exact am_tk_out x (lo + 1) r t h3 (by omega)
theorem am_tk_in {d : Nat} (x : Int32) : ∀ (lo : Int) (os : List Int) (cs : List (Int32 × Nat)), am_tk pc lo os cs = true → ¬ x.toInt < lo → x.toInt < lo + os.length → ∃ off, os[(x.toInt - lo).toNat]? = some off ∧ (pc : Int) + off = ((am_tg x d cs : Nat) : Int)
  | lo, [], _, _, h1, h2 => by simp at h2; omega
  | _, _ :: _, [], h, _, _ => by cases h
  | lo, a :: r, b :: t, h, ho, h9 => by
    simp only [am_tk, Bool.and_eq_true, beq_iff_eq] at h
    obtain ⟨⟨h1, h2⟩, h3⟩ := h
    simp only [List.length_cons] at h9
    simp only [am_tg]
    by_cases hx : x = b.1
    · refine ⟨a, ?_, by rw [if_pos hx]; exact h2⟩
      rw [hx, h1]
      simp
    · have hne : ¬ x.toInt = lo := fun q => hx (Int32.toInt_inj.mp (by rw [h1]; exact q))
      obtain ⟨off, g1, g2⟩ := am_tk_in (d := d) x (lo + 1) r t h3 (by omega) (by omega)
      refine ⟨off, ?_, by rw [if_neg hx]; exact g2⟩
      rw [show (x.toInt - lo).toNat = (x.toInt - (lo + 1)).toNat + 1 by omega, List.getElem?_cons_succ]
      exact g1
theorem as_table (C : am_C G Y p s m args meth c) {dflt lo hi : Int} {offs : Array Int} {len d : Nat} {cs : List (Int32 × Nat)} (hd : decode Y.2.1 pc = .ok (.tableswitch dflt lo hi offs, len)) (hk : am_tk pc lo offs.toList cs = true) (hh : hi + 1 = lo + offs.toList.length) (ht : (pc : Int) + dflt = (d : Int)) : am_S (am_J G Y p e R s m args below meth c Q kc ks) K pc (ai_switch cs d) := by
  obtain ⟨hG, hx, hb, hml, hr, hown, hts, hlk, hT, hE, hB⟩ := C
  intro j hj L S M h H locs ls hP hS hl
  unfold ai_switch at h
  split at h
  · next x S' =>
    have hq := am_sw_tg x d (fun t => j t L S' M) cs h
    by_cases ho : x.toInt < lo ∨ hi < x.toInt
    · rw [am_tk_out (d := d) x lo _ cs hk (by omega)] at hq
      exact lv_tableOut hx hb hd ho ht (hj _ _ _ _ hq H locs ls hP hS hl)
    · obtain ⟨off, g1, g2⟩ := am_tk_in (d := d) x lo _ cs hk (by omega) (by omega)
      exact lv_tableIn hx hb hd (by omega) (by omega) (by rw [← Array.getElem?_toList]; exact g1) g2 (hj _ _ _ _ hq H locs ls hP hS hl)
  · cases h
theorem am_fd_of {a ci k : Nat} {o : Option Value} (h : am_fd a ci k = some o) : ∃ fs, SH[a]? = some (.inr (ci, fs)) ∧ fs[k]? = some o := by
  unfold am_fd at h
  split at h
  · next q hq =>
    split at h
    · next e => exact ⟨q.2, by rw [hq, ← e], h⟩
    · cases h
  · cases h
theorem am_ln_of {a n : Nat} (h : am_ln a = some n) : SH[a]? = some (.inl n) := by
  unfold am_ln at h
  split at h
  · next q hq => cases h; exact hq
  · cases h
theorem am_kd_of {a ci : Nat} (h : am_kd a ci = true) : ∃ fs, SH[a]? = some (.inr (ci, fs)) := by
  unfold am_kd at h
  split at h
  · next q hq => exact ⟨q.2, by rw [hq, ← (beq_iff_eq.mp h)]⟩
  · cases h
def am_fv (o : Option Value) (x : Int32) : Value := match o with
  | none => .int x
  | some v => v
theorem am_getf_of {ci k nx : Nat} {j : aJ} {L : aL} {S : List Value} {M : aM} (h : ai_getf ci k nx j K pc L S M) : ∃ a S1 o, S = .ref a :: S1 ∧ am_fd a ci k = some o ∧ j nx L ((am_fv o (M a k)) :: S1) M := by
  unfold ai_getf at h
  split at h
  · next a S1 =>
    split at h
    · next e => exact ⟨a, S1, none, rfl, e, h⟩
    · next v e => exact ⟨a, S1, some v, rfl, e, h⟩
    · cases h
  · cases h
theorem as_getf (C : am_C G Y p s m args meth c) {ci k ix N : Nat} {Cn : String} {T : u_T} (hcl : CL[ci]? = some (Cn, T, N)) (hin : ∀ w ∈ u_ws Cn T N, w ∈ TB) (hk : k < N) (hdc : (T k).1 = Cn) (hlink : Cond.fieldLink Y.1.cls ix Cn (T k).2.1 (T k).2.2.1 ∈ TB) (hd : decode Y.2.1 pc = .ok (.getfield ix, 3)) (hn : nx = pc + 3) : am_S (am_J G Y p e R s m args below meth c Q kc ks) K pc (ai_getf ci k nx) := by
  obtain ⟨hG, hx, hb, hml, hr, hown, hts, hlk, hT, hE, hB⟩ := C
  subst hn
  intro j hj L S M h H locs ls hP hS hl
  obtain ⟨a, S1, o, rfl, ho, h⟩ := am_getf_of h
  obtain ⟨fs, h1, h2⟩ := am_fd_of ho
  refine va_get (v := am_v (g_a G) (am_fv o (M a k))) hx hb hts hin hown hT.1 hP a (am_W_get h1) hcl k hk (hts _ hlink) (fun _ h9 => by rw [← hdc]; exact h9) ?_ hd (hj _ _ _ _ h H locs ls hP hS hl)
  rw [am_fs_get, h2]
  cases o with
  | none => simp [am_v, am_fv]
  | some v => rfl
theorem as_getfN (C : am_C G Y p s m args meth c) {ci k ix N : Nat} {Cn host : String} {T : u_T} (hcl : CL[ci]? = some (Cn, T, N)) (hin : ∀ w ∈ u_ws Cn T N, w ∈ TB) (hk : k < N) (hdc : (T k).1 = Cn) (hlink : Cond.fieldLinkNest Y.1.cls ix Cn (T k).2.1 (T k).2.2.1 host ∈ NWs) (hd : decode Y.2.1 pc = .ok (.getfield ix, 3)) (hn : nx = pc + 3) : am_S (am_J G Y p e R s m args below meth c Q kc ks) K pc (ai_getf ci k nx) := by
  obtain ⟨hG, hx, hb, hml, hr, hown, hts, hlk, hT, hE, hB⟩ := C
  subst hn
  intro j hj L S M h H locs ls hP hS hl
  obtain ⟨a, S1, o, rfl, ho, h⟩ := am_getf_of h
  obtain ⟨fs, h1, h2⟩ := am_fd_of ho
  refine va_getN (v := am_v (g_a G) (am_fv o (M a k))) hx hb hts hin hown hT.1 hP a (am_W_get h1) hcl k hk (va_Nw.use rfl (hT.2.1 _ hlink).2) (fun _ h9 => by rw [← hdc]; exact h9) ?_ hd (hj _ _ _ _ h H locs ls hP hS hl)
  rw [am_fs_get, h2]
  cases o with
  | none => simp [am_v, am_fv]
  | some v => rfl
theorem am_putf_of {ci k nx : Nat} {j : aJ} {L : aL} {S : List Value} {M : aM} (h : ai_putf ci k nx j K pc L S M) : ∃ x a S1, S = .int x :: .ref a :: S1 ∧ am_fd a ci k = some none ∧ j nx L S1 (am_up M a k x) := by
  unfold ai_putf at h
  split at h
  · next x a S1 => exact ⟨x, a, S1, rfl, h.1, h.2⟩
  · cases h
theorem as_putf (C : am_C G Y p s m args meth c) {ci k ix N : Nat} {Cn : String} {T : u_T} (ty0 : Nat → FieldType) (hcl : CL[ci]? = some (Cn, T, N)) (hin : ∀ w ∈ u_ws Cn T N, w ∈ TB) (hty : ∀ k, k < N → parseFieldDescriptor (T k).2.2.1 = some (ty0 k)) (hnm : ∀ a, a < N → ∀ b, b < N → a ≠ b → (T a).2.1 ≠ (T b).2.1) (hk : k < N) (hdc : (T k).1 = Cn) (hfi : (T k).2.2.2 = false) (hI : parseFieldDescriptor (T k).2.2.1 = some .int) (hlink : Cond.fieldLink Y.1.cls ix Cn (T k).2.1 (T k).2.2.1 ∈ TB) (hd : decode Y.2.1 pc = .ok (.putfield ix, 3)) (hn : nx = pc + 3) : am_S (am_J G Y p e R s m args below meth c Q kc ks) K pc (ai_putf ci k nx) := by
  obtain ⟨hG, hx, hb, hml, hr, hown, hts, hlk, hT, hE, hB⟩ := C
  subst hn
  intro j hj L S M h H locs ls hP hS hl
  obtain ⟨x, a, S1, rfl, ho, h⟩ := am_putf_of h
  obtain ⟨fs, h1, h2⟩ := am_fd_of ho
  refine va_put (v := .int x) hx hb hts hin ty0 hty hnm hown hT.1 hP (am_D hG M _) hS a (am_W_get h1) hcl k hk (hts _ hlink) (fun _ h9 => by rw [← hdc]; exact h9) hfi hI rfl rfl (by rw [am_fs_len]; exact (List.getElem?_eq_some_iff.mp h2).1) hd (fun H1 locs1 hP1 _ hS1 => ?_)
  refine hj _ _ _ _ h H1 locs1 ls ?_ hS1 hl
  rw [am_W_up h1]
  show va_P (g_D G) CL ((am_W G M).set a (g_a G a, .inr (ci, am_fs (g_a G) (upd (M a) k x) 0 fs))) H1
  rw [am_fs_upd _ _ _ h2]
  exact hP1
theorem as_putfN (C : am_C G Y p s m args meth c) {ci k ix N : Nat} {Cn host : String} {T : u_T} (ty0 : Nat → FieldType) (hcl : CL[ci]? = some (Cn, T, N)) (hin : ∀ w ∈ u_ws Cn T N, w ∈ TB) (hty : ∀ k, k < N → parseFieldDescriptor (T k).2.2.1 = some (ty0 k)) (hnm : ∀ a, a < N → ∀ b, b < N → a ≠ b → (T a).2.1 ≠ (T b).2.1) (hk : k < N) (hdc : (T k).1 = Cn) (hfi : (T k).2.2.2 = false) (hI : parseFieldDescriptor (T k).2.2.1 = some .int) (hlink : Cond.fieldLinkNest Y.1.cls ix Cn (T k).2.1 (T k).2.2.1 host ∈ NWs) (hd : decode Y.2.1 pc = .ok (.putfield ix, 3)) (hn : nx = pc + 3) : am_S (am_J G Y p e R s m args below meth c Q kc ks) K pc (ai_putf ci k nx) := by
  obtain ⟨hG, hx, hb, hml, hr, hown, hts, hlk, hT, hE, hB⟩ := C
  subst hn
  intro j hj L S M h H locs ls hP hS hl
  obtain ⟨x, a, S1, rfl, ho, h⟩ := am_putf_of h
  obtain ⟨fs, h1, h2⟩ := am_fd_of ho
  refine va_putN (v := .int x) hx hb hts hin ty0 hty hnm hown hT.1 hP (am_D hG M _) hS a (am_W_get h1) hcl k hk (va_Nw.use rfl (hT.2.1 _ hlink).2) (fun _ h9 => by rw [← hdc]; exact h9) hfi hI rfl rfl (by rw [am_fs_len]; exact (List.getElem?_eq_some_iff.mp h2).1) hd (fun H1 locs1 hP1 _ hS1 => ?_)
  refine hj _ _ _ _ h H1 locs1 ls ?_ hS1 hl
  rw [am_W_up h1]
  show va_P (g_D G) CL ((am_W G M).set a (g_a G a, .inr (ci, am_fs (g_a G) (upd (M a) k x) 0 fs))) H1
  rw [am_fs_upd _ _ _ h2]
  exact hP1
theorem as_iald (C : am_C G Y p s m args meth c) (hd : decode Y.2.1 pc = .ok (.iaload, 1)) (hn : nx = pc + 1) : am_S (am_J G Y p e R s m args below meth c Q kc ks) K pc (ai_iald nx) := by
  obtain ⟨hG, hx, hb, hml, hr, hown, hts, hlk, hT, hE, hB⟩ := C
  subst hn
  intro j hj L S M h H locs ls hP hS hl
  unfold ai_iald at h
  split at h
  · next i a S1 =>
    split at h
    · next n e => exact va_iald hx hb hT.1 hP a 0 (am_W_get (am_ln_of e)) rfl h.1 hd (hj _ _ _ _ h.2 H locs ls hP hS hl)
    · cases h
  · cases h
theorem as_iast (C : am_C G Y p s m args meth c) (hd : decode Y.2.1 pc = .ok (.iastore, 1)) (hn : nx = pc + 1) : am_S (am_J G Y p e R s m args below meth c Q kc ks) K pc (ai_iast nx) := by
  obtain ⟨hG, hx, hb, hml, hr, hown, hts, hlk, hT, hE, hB⟩ := C
  subst hn
  intro j hj L S M h H locs ls hP hS hl
  unfold ai_iast at h
  split at h
  · next x i a S1 =>
    split at h
    · next n e =>
      refine va_iast hx hb hT.1 hP (am_D hG M _) hS a 0 (am_W_get (am_ln_of e)) rfl h.1 hd (fun H1 locs1 hP1 _ hS1 => ?_)
      refine hj _ _ _ _ h.2 H1 locs1 ls ?_ hS1 hl
      rw [am_W_up (am_ln_of e)]
      exact hP1
    · cases h
  · cases h
theorem as_alen (C : am_C G Y p s m args meth c) (hd : decode Y.2.1 pc = .ok (.arraylength, 1)) (hn : nx = pc + 1) : am_S (am_J G Y p e R s m args below meth c Q kc ks) K pc (ai_alen nx) := by
  obtain ⟨hG, hx, hb, hml, hr, hown, hts, hlk, hT, hE, hB⟩ := C
  subst hn
  intro j hj L S M h H locs ls hP hS hl
  unfold ai_alen at h
  split at h
  · next a S1 =>
    split at h
    · next n e => exact va_alen hx hb hT.1 hP a 0 (am_W_get (am_ln_of e)) rfl rfl hd (hj _ _ _ _ h H locs ls hP hS hl)
    · cases h
  · cases h
theorem am_AB (hG : am_ok G) (hB : ∀ q, s.heap.size ≤ q → g_B G q) : ∀ q, am_A G s.heap.size q → g_B G q := by
  intro q h
  rcases h with ⟨i, h1, h2⟩ | h
  · rw [h2]; exact hG.2 i h1
  · exact hB q h
theorem as_xald (C : am_C G Y p s m args meth c) {a n : Nat} {f : Nat → Int32} (hm : (a, n, f) ∈ am_XA G) (hd : decode Y.2.1 pc = .ok (.iaload, 1)) (hn : nx = pc + 1) : am_S (am_J G Y p e R s m args below meth c Q kc ks) K pc (ai_xald a n f nx) := by
  obtain ⟨hG, hx, hb, hml, hr, hown, hts, hlk, hT, hE, hB⟩ := C
  subst hn
  intro j hj L S M h H locs ls hP hS hl
  unfold ai_xald at h
  split at h
  · next i b S1 =>
    obtain ⟨rfl, h1, h2⟩ := h
    exact va_ti hx hb ((hE.1 _ hm).narrow (am_AB hG hB)) hS h1 rfl hd (hj _ _ _ _ h2 H locs ls hP hS hl)
  · cases h
theorem as_xlen (C : am_C G Y p s m args meth c) {a n : Nat} {f : Nat → Int32} (hm : (a, n, f) ∈ am_XA G) (hd : decode Y.2.1 pc = .ok (.arraylength, 1)) (hn : nx = pc + 1) : am_S (am_J G Y p e R s m args below meth c Q kc ks) K pc (ai_xlen a n nx) := by
  obtain ⟨hG, hx, hb, hml, hr, hown, hts, hlk, hT, hE, hB⟩ := C
  subst hn
  intro j hj L S M h H locs ls hP hS hl
  unfold ai_xlen at h
  split at h
  · next b S1 =>
    obtain ⟨rfl, h2⟩ := h
    exact va_tlen hx hb ((hE.1 _ hm).narrow (am_AB hG hB)) hS rfl hd (hj _ _ _ _ h2 H locs ls hP hS hl)
  · cases h
theorem as_gets (C : am_C G Y p s m args meth c) {ix : Nat} {Cn f d : String} {v : Value} (hm : (Cn, f, d, v) ∈ XS) (hlink : Cond.fieldLink Y.1.cls ix Cn f d ∈ TB) (hd : decode Y.2.1 pc = .ok (.getstatic ix, 3)) (hn : nx = pc + 3) : am_S (am_J G Y p e R s m args below meth c Q kc ks) K pc (ai_gets v nx) := by
  obtain ⟨hG, hx, hb, hml, hr, hown, hts, hlk, hT, hE, hB⟩ := C
  subst hn
  intro j hj L S M h H locs ls hP hS hl
  exact va_gets hx hb ((hE.2.1 _ hm).narrow (am_AB hG hB)) hS hown (hts _ hlink) (fun _ h9 => h9) hd (hj _ _ _ _ h H locs ls hP hS hl)
theorem as_getsN (C : am_C G Y p s m args meth c) {ix : Nat} {Cn f d host : String} {v : Value} (hm : (Cn, f, d, v) ∈ XS) (hlink : Cond.fieldLinkNest Y.1.cls ix Cn f d host ∈ NWs) (hd : decode Y.2.1 pc = .ok (.getstatic ix, 3)) (hn : nx = pc + 3) : am_S (am_J G Y p e R s m args below meth c Q kc ks) K pc (ai_gets v nx) := by
  obtain ⟨hG, hx, hb, hml, hr, hown, hts, hlk, hT, hE, hB⟩ := C
  subst hn
  intro j hj L S M h H locs ls hP hS hl
  exact va_getsN hx hb ((hE.2.1 _ hm).narrow (am_AB hG hB)) hS hown (va_Nw.use rfl (hT.2.1 _ hlink).2) (fun _ h9 => h9) hd (hj _ _ _ _ h H locs ls hP hS hl)
end AMS
