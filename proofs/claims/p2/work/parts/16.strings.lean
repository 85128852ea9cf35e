/-! printed by wip/gen/strings.py: the text "quote" and its charAt -/
def Y_Pre_check : aY := (⟨"jdk/internal/util/Preconditions", "checkIndex", "(IILjava/util/function/BiFunction;)I"⟩, prog_15_method_11_code, 3, some .int)
theorem hy_Pre_check : Y_Pre_check.1.cls ≠ "java/lang/invoke/MethodHandle" ∧ Y_Pre_check.1.cls ≠ "java/lang/invoke/VarHandle" ∧ (parseMethodDescriptor Y_Pre_check.1.desc).map (fun d => d.parameters.length) = some 3 := by decide +kernel
def Y_Str_check : aY := (⟨"java/lang/String", "checkIndex", "(II)V"⟩, prog_11_method_155_code, 2, none)
theorem hy_Str_check : Y_Str_check.1.cls ≠ "java/lang/invoke/MethodHandle" ∧ Y_Str_check.1.cls ≠ "java/lang/invoke/VarHandle" ∧ (parseMethodDescriptor Y_Str_check.1.desc).map (fun d => d.parameters.length) = some 2 := by decide +kernel
def Y_Lat_charAt : aY := (⟨"java/lang/StringLatin1", "charAt", "([BI)C"⟩, prog_12_method_2_code, 2, some .char)
theorem hy_Lat_charAt : Y_Lat_charAt.1.cls ≠ "java/lang/invoke/MethodHandle" ∧ Y_Lat_charAt.1.cls ≠ "java/lang/invoke/VarHandle" ∧ (parseMethodDescriptor Y_Lat_charAt.1.desc).map (fun d => d.parameters.length) = some 2 := by decide +kernel
def Y_Str_isL : aY := (⟨"java/lang/String", "isLatin1", "()Z"⟩, prog_11_method_154_code, 1, some .boolean)
theorem hy_Str_isL : Y_Str_isL.1.cls ≠ "java/lang/invoke/MethodHandle" ∧ Y_Str_isL.1.cls ≠ "java/lang/invoke/VarHandle" ∧ (parseMethodDescriptor Y_Str_isL.1.desc).map (fun d => d.parameters.length) = some 0 := by decide +kernel
def Y_Str_charAt : aY := (⟨"java/lang/String", "charAt", "(I)C"⟩, prog_11_method_56_code, 2, some .char)
theorem hy_Str_charAt : Y_Str_charAt.1.cls ≠ "java/lang/invoke/MethodHandle" ∧ Y_Str_charAt.1.cls ≠ "java/lang/invoke/VarHandle" ∧ (parseMethodDescriptor Y_Str_charAt.1.desc).map (fun d => d.parameters.length) = some 1 := by decide +kernel
def ai_callx1 (sp : aS) (nx : Nat) : aI := fun j _ _ L S M => match S with
  | .ref b :: S => b = 1002 ∧ am_few S ∧ sp [.ref b] M (fun r M1 => j nx L (am_push r S) M1)
  | _ => False
def ai_callx2 (sp : aS) (nx : Nat) : aI := fun j _ _ L S M => match S with
  | x :: .ref b :: S => b = 1002 ∧ am_few S ∧ sp [.ref b, x] M (fun r M1 => j nx L (am_push r S) M1)
  | _ => False
def ai_calls3 (sp : aS) (nx : Nat) : aI := fun j _ _ L S M => match S with
  | z :: y :: x :: S => am_few S ∧ sp [x, y, z] M (fun r M1 => j nx L (am_push r S) M1)
  | _ => False
def ai_xgetf (v : Value) (nx : Nat) : aI := fun j _ _ L S M => match S with
  | .ref b :: S => b = 1002 ∧ j nx L (v :: S) M
  | _ => False
def ai_xblen (nx : Nat) : aI := fun j _ _ L S M => match S with
  | .ref b :: S => b = 1003 ∧ j nx L (.int 5 :: S) M
  | _ => False
def ai_xbald (nx : Nat) : aI := fun j _ _ L S M => match S with
  | .int i :: .ref b :: S => b = 1003 ∧ vp_in i 5 ∧ j nx L (.int (QF i.toNatClampNeg) :: S) M
  | _ => False
def ai_i2c (nx : Nat) : aI := fun j _ _ L S M => match S with
  | .int x :: S => j nx L (.int ((x.toUInt32 % 65536).toInt32) :: S) M
  | _ => False
def ai_cret : aI := fun _ K _ _ S M => match S with
  | [.int x] => narrow .char (.int x) = .int x ∧ K (some (.int x)) M
  | _ => False
def ai_getq (nx : Nat) : aI := fun j _ _ L S M => j nx L (.null :: S) M ∧ j nx L (.ref 1004 :: S) M
section AMX
variable {G : aG} {Y : aY} {p : Program} {e : Env} {R : Room} {s : State} {m : MethodId} {args : Array Value} {below : List Frame} {meth : Method} {c : Code} {Q : State → Prop} {kc ks : Nat} {K : aR} {pc nx : Nat}
theorem as_ldcs (C : am_C G Y p s m args meth c) (hY : Y.1.cls = "DatumDeskModel") (hd : decode Y.2.1 pc = .ok (.ldc 106, 2)) (hn : nx = pc + 2) : am_S (am_J G Y p e R s m args below meth c Q kc ks) K pc (ai_gets (.ref 1002) nx) := by
  obtain ⟨hG, hx, hb, hml, hr, hown, hts, hlk, hT, hE, hB⟩ := C
  subst hn
  rw [hY] at hown
  intro j hj L S M h H locs ls hP hS hl
  exact va_ldcS hx hb hown hT.2.2 hd (hj _ _ _ _ h H locs ls hP hS hl)
theorem as_getsC (C : am_C G Y p s m args meth c) {ix : Nat} (hlink : Cond.fieldLink Y.1.cls ix "java/lang/String" "COMPACT_STRINGS" "Z" ∈ TB) (hd : decode Y.2.1 pc = .ok (.getstatic ix, 3)) (hn : nx = pc + 3) : am_S (am_J G Y p e R s m args below meth c Q kc ks) K pc (ai_gets (.int 1) nx) := by
  obtain ⟨hG, hx, hb, hml, hr, hown, hts, hlk, hT, hE, hB⟩ := C
  subst hn
  intro j hj L S M h H locs ls hP hS hl
  exact va_gets hx hb (hE.2.2.2.2.2.2.1.narrow (am_AB hG hB)) hS hown (hts _ hlink) (fun _ h9 => h9) hd (hj _ _ _ _ h H locs ls hP hS hl)
theorem as_getq (C : am_C G Y p s m args meth c) {ix : Nat} (hlink : Cond.fieldLink Y.1.cls ix "jdk/internal/util/Preconditions" "SIOOBE_FORMATTER" "Ljava/util/function/BiFunction;" ∈ TB) (hd : decode Y.2.1 pc = .ok (.getstatic ix, 3)) (hn : nx = pc + 3) : am_S (am_J G Y p e R s m args below meth c Q kc ks) K pc (ai_getq nx) := by
  obtain ⟨hG, hx, hb, hml, hr, hown, hts, hlk, hT, hE, hB⟩ := C
  subst hn
  intro j hj L S M h H locs ls hP hS hl
  rcases hE.2.2.2.2.2.2.2 with q | q
  · exact va_gets hx hb (q.narrow (am_AB hG hB)) hS hown (hts _ hlink) (fun _ h9 => h9) hd (hj _ _ _ _ h.1 H locs ls hP hS hl)
  · exact va_gets hx hb (q.narrow (am_AB hG hB)) hS hown (hts _ hlink) (fun _ h9 => h9) hd (hj _ _ _ _ h.2 H locs ls hP hS hl)
theorem as_xcoder (C : am_C G Y p s m args meth c) {ix : Nat} (hlink : Cond.fieldLink Y.1.cls ix "java/lang/String" "coder" "B" ∈ TB) (hd : decode Y.2.1 pc = .ok (.getfield ix, 3)) (hn : nx = pc + 3) : am_S (am_J G Y p e R s m args below meth c Q kc ks) K pc (ai_xgetf (.int 0) nx) := by
  obtain ⟨hG, hx, hb, hml, hr, hown, hts, hlk, hT, hE, hB⟩ := C
  subst hn
  intro j hj L S M h H locs ls hP hS hl
  unfold ai_xgetf at h
  split at h
  · obtain ⟨rfl, h⟩ := h
    obtain ⟨cf, k, fi, f, cell, h1, h2, h3, h4, h5, h6⟩ := (hE.2.2.2.1.narrow (am_AB hG hB)).kept hS.2.1
    exact W.getf hx hb hown (hts _ hlink) h1 h2 h3 h4 (v := .int 0) h5 rfl rfl hd (hj _ _ _ _ h H locs ls hP hS hl)
  · cases h
theorem as_xvalue (C : am_C G Y p s m args meth c) {ix : Nat} (hlink : Cond.fieldLink Y.1.cls ix "java/lang/String" "value" "[B" ∈ TB) (hd : decode Y.2.1 pc = .ok (.getfield ix, 3)) (hn : nx = pc + 3) : am_S (am_J G Y p e R s m args below meth c Q kc ks) K pc (ai_xgetf (.ref 1003) nx) := by
  obtain ⟨hG, hx, hb, hml, hr, hown, hts, hlk, hT, hE, hB⟩ := C
  subst hn
  intro j hj L S M h H locs ls hP hS hl
  unfold ai_xgetf at h
  split at h
  · obtain ⟨rfl, h⟩ := h
    obtain ⟨cf, k, fi, f, cell, h1, h2, h3, h4, h5, h6⟩ := (hE.2.2.2.2.1.narrow (am_AB hG hB)).kept hS.2.1
    exact W.getf hx hb hown (hts _ hlink) h1 h2 h3 h4 (v := .ref (g_a G 1003)) h5 rfl rfl hd (hj _ _ _ _ h H locs ls hP hS hl)
  · cases h
theorem as_xblen (C : am_C G Y p s m args meth c) (hd : decode Y.2.1 pc = .ok (.arraylength, 1)) (hn : nx = pc + 1) : am_S (am_J G Y p e R s m args below meth c Q kc ks) K pc (ai_xblen nx) := by
  obtain ⟨hG, hx, hb, hml, hr, hown, hts, hlk, hT, hE, hB⟩ := C
  subst hn
  intro j hj L S M h H locs ls hP hS hl
  unfold ai_xblen at h
  split at h
  · obtain ⟨rfl, h⟩ := h
    exact va_tlen hx hb (hE.2.2.2.2.2.1.narrow (am_AB hG hB)) hS rfl hd (hj _ _ _ _ h H locs ls hP hS hl)
  · cases h
theorem as_xbald (C : am_C G Y p s m args meth c) (hd : decode Y.2.1 pc = .ok (.baload, 1)) (hn : nx = pc + 1) : am_S (am_J G Y p e R s m args below meth c Q kc ks) K pc (ai_xbald nx) := by
  obtain ⟨hG, hx, hb, hml, hr, hown, hts, hlk, hT, hE, hB⟩ := C
  subst hn
  intro j hj L S M h H locs ls hP hS hl
  unfold ai_xbald at h
  split at h
  · obtain ⟨rfl, h1, h⟩ := h
    exact va_tb hx hb (hE.2.2.2.2.2.1.narrow (am_AB hG hB)) hS h1 rfl hd (hj _ _ _ _ h H locs ls hP hS hl)
  · cases h
theorem as_i2c (C : am_C G Y p s m args meth c) (hd : decode Y.2.1 pc = .ok (.i2c, 1)) (hn : nx = pc + 1) : am_S (am_J G Y p e R s m args below meth c Q kc ks) K pc (ai_i2c nx) := by
  obtain ⟨hG, hx, hb, hml, hr, hown, hts, hlk, hT, hE, hB⟩ := C
  subst hn
  intro j hj L S M h H locs ls hP hS hl
  unfold ai_i2c at h
  split at h
  · exact lv_i2c hx hb hd rfl (hj _ _ _ _ h H locs ls hP hS hl)
  · cases h
theorem am_vx (C : am_C G Y p s m args meth c) {Z : aY} {d ix n : Nat} {As S st0 : List Value} {M : aM} {K1 : aR} (hM : am_Met G Z d (.ref 1002 :: As) M K1)
    (hcode : Cond.code Z.1 Z.2.1 Z.2.2.1 Z.2.2.2 ∈ TB) (hini : Cond.initialized Z.1.cls ∈ TB) (hinst : Cond.instanceMethod Z.1 ∈ TB) (hsel : Cond.selects "java/lang/String" Z.1 Z.1 ∈ TB) (hlink : Cond.methodLink Y.1.cls ix Z.1 ∈ TB)
    (hy : Z.1.cls ≠ "java/lang/invoke/MethodHandle" ∧ Z.1.cls ≠ "java/lang/invoke/VarHandle" ∧ (parseMethodDescriptor Z.1.desc).map (fun d => d.parameters.length) = some n) (hR : am_rm R d Z.2.2.1 kc ks) (hn : As.length = n) (hst : st0 = As.reverse ++ .ref 1002 :: S) (hf : am_few S) (hd : decode Y.2.1 pc = .ok (.invokevirtual ix, 3))
    {H : Heap} {locs : List Loc} {ls : Array Slot} {L : aL} (hP : va_P (g_D G) CL (am_W G M) H) (hS : va_S (am_A G s.heap.size) s.heap H locs) (hl : am_lv ls Y.2.2.1 (g_a G) L)
    (kk : ∀ r M1, K1 r M1 → am_J G Y p e R s m args below meth c Q kc ks (pc + 3) L (am_push r S) M1) : W p (g_l G) e R s m args below meth c H locs kc ks Q (F0 m pc ls (st0.map (am_v (g_a G)))) := by
  have C0 := C
  obtain ⟨hG, hx, hb, hml, hr, hown, hts, hlk, hT, hE, hB⟩ := C
  have hrc : ∃ cell : Cell, H[g_a G 1002]? = some cell ∧ cell.vm.isStatics = false ∧ s.vm.findClass "java/lang/String" = some cell.cls := by
    obtain ⟨cell, h1, h2, h3, -⟩ := (hE.2.2.1.narrow (am_AB hG hB)).kept hS.2.1
    exact ⟨cell, h1, h2, h3⟩
  refine am_call (va_runV (As := As.map (am_v (g_a G))) (rest := S.map (am_v (g_a G))) (b := g_a G 1002) (C := "java/lang/String") ⟨hx, hb, hml, hown, hts⟩ (hM H.size) ⟨callB_of n hts (am_good Z hcode) rfl rfl rfl (hts _ hini) (hts _ hlink) hy ⟨hR.1, hR.2.1⟩, hts _ hinst, hts _ hsel⟩ ⟨fun a U g mk q => ⟨q.1, q.2.calling⟩, hrc, fun U hU hW => ⟨rfl, am_pre C0 hP hS hU hW⟩⟩ rfl (by simpa using hn) hl.1 (by rw [hst]; simp [am_v]) (lv_room (am_few_sum (g_a G) hf)) hd ⟨hR.2.2.1, hR.2.2.2⟩) hS (fun r M1 H1 locs1 h1 h2 h3 => ?_)
  rw [am_push_eq]
  exact kk r M1 h1 H1 locs1 ls h2 h3 hl
theorem as_callx1 (C : am_C G Y p s m args meth c) {Z : aY} {d ix : Nat} {sp : aS} (hsp : am_Sp G Z d sp) (hcode : Cond.code Z.1 Z.2.1 Z.2.2.1 Z.2.2.2 ∈ TB) (hini : Cond.initialized Z.1.cls ∈ TB) (hinst : Cond.instanceMethod Z.1 ∈ TB) (hsel : Cond.selects "java/lang/String" Z.1 Z.1 ∈ TB) (hlink : Cond.methodLink Y.1.cls ix Z.1 ∈ TB) (hy : Z.1.cls ≠ "java/lang/invoke/MethodHandle" ∧ Z.1.cls ≠ "java/lang/invoke/VarHandle" ∧ (parseMethodDescriptor Z.1.desc).map (fun d => d.parameters.length) = some 0) (hR : am_rm R d Z.2.2.1 kc ks) (hd : decode Y.2.1 pc = .ok (.invokevirtual ix, 3)) (hn : nx = pc + 3) : am_S (am_J G Y p e R s m args below meth c Q kc ks) K pc (ai_callx1 sp nx) := by
  subst hn
  intro j hj L S M h H locs ls hP hS hl
  unfold ai_callx1 at h
  split at h
  · obtain ⟨rfl, h2, h3⟩ := h
    exact am_vx C (As := []) (hsp _ _ _ h3) hcode hini hinst hsel hlink hy hR rfl rfl h2 hd hP hS hl (fun r M1 q => hj _ _ _ _ q)
  · cases h
theorem as_callx2 (C : am_C G Y p s m args meth c) {Z : aY} {d ix : Nat} {sp : aS} (hsp : am_Sp G Z d sp) (hcode : Cond.code Z.1 Z.2.1 Z.2.2.1 Z.2.2.2 ∈ TB) (hini : Cond.initialized Z.1.cls ∈ TB) (hinst : Cond.instanceMethod Z.1 ∈ TB) (hsel : Cond.selects "java/lang/String" Z.1 Z.1 ∈ TB) (hlink : Cond.methodLink Y.1.cls ix Z.1 ∈ TB) (hy : Z.1.cls ≠ "java/lang/invoke/MethodHandle" ∧ Z.1.cls ≠ "java/lang/invoke/VarHandle" ∧ (parseMethodDescriptor Z.1.desc).map (fun d => d.parameters.length) = some 1) (hR : am_rm R d Z.2.2.1 kc ks) (hd : decode Y.2.1 pc = .ok (.invokevirtual ix, 3)) (hn : nx = pc + 3) : am_S (am_J G Y p e R s m args below meth c Q kc ks) K pc (ai_callx2 sp nx) := by
  subst hn
  intro j hj L S M h H locs ls hP hS hl
  unfold ai_callx2 at h
  split at h
  · obtain ⟨rfl, h2, h3⟩ := h
    exact am_vx C (As := [_]) (hsp _ _ _ h3) hcode hini hinst hsel hlink hy hR rfl rfl h2 hd hP hS hl (fun r M1 q => hj _ _ _ _ q)
  · cases h
theorem as_calls3 (C : am_C G Y p s m args meth c) {Z : aY} {d ix : Nat} {sp : aS} (hsp : am_Sp G Z d sp) (hcode : Cond.code Z.1 Z.2.1 Z.2.2.1 Z.2.2.2 ∈ TB) (hini : Cond.initialized Z.1.cls ∈ TB) (hstat : Cond.static Z.1 ∈ TB) (hlink : Cond.methodLink Y.1.cls ix Z.1 ∈ TB) (hy : Z.1.cls ≠ "java/lang/invoke/MethodHandle" ∧ Z.1.cls ≠ "java/lang/invoke/VarHandle" ∧ (parseMethodDescriptor Z.1.desc).map (fun d => d.parameters.length) = some 3) (hR : am_rm R d Z.2.2.1 kc ks) (hd : decode Y.2.1 pc = .ok (.invokestatic ix, 3)) (hn : nx = pc + 3) : am_S (am_J G Y p e R s m args below meth c Q kc ks) K pc (ai_calls3 sp nx) := by
  subst hn
  intro j hj L S M h H locs ls hP hS hl
  unfold ai_calls3 at h
  split at h
  · obtain ⟨h2, h3⟩ := h
    exact am_so C (As := [_, _, _]) (hsp _ _ _ h3) hcode hini hstat hlink hy hR rfl rfl h2 hd hP hS hl (fun r M1 q => hj _ _ _ _ q)
  · cases h
end AMX
theorem as_cret {G : aG} {Y : aY} {p : Program} {e : Env} {R : Room} {s : State} {m : MethodId} {args : Array Value} {below : List Frame} {meth : Method} {c : Code} {K : aR} {pc : Nat} (C : am_C G Y p s m args meth c) (hy : Y.2.2.2 = some .char) (hd : decode Y.2.1 pc = .ok (.ireturn, 1)) : am_S (am_J G Y p e R s m args below meth c (am_Z G K s args below) 0 0) K pc ai_cret := by
  obtain ⟨hG, hx, hb, hml, hr, hown, hts, hlk, hT, hE, hB⟩ := C
  intro j hj L S M h H locs ls hP hS hl
  unfold ai_cret at h
  split at h
  · next x => exact W.zret (hlocks := hlk) hx hb (hr.trans hy) h.1 (fun t ht _ => ⟨⟨some (.int x), M, rfl, h.2, by rw [ht]; exact hP⟩, hS.F ht⟩) hS.2.2 hd
  · cases h
def c_Pre_check : List (Nat × aI) := [
  (0, ai_iload 0 1),
  (1, ai_iflt 9 4),
  (4, ai_iload 0 5),
  (5, ai_iload 1 6),
  (6, ai_cmplt 16 9),
  (16, ai_iload 0 17),
  (17, ai_iret)]
set_option maxRecDepth 100000 in
set_option maxHeartbeats 4000000 in
theorem tb_Pre_check {G : aG} {d : Nat} : am_tab G Y_Pre_check d (c_Pre_check) := by
  intro K p e s m args below meth c C
  exact ⟨as_iload_n C (pc := 0) (q := 0) (by decide +kernel) rfl rfl,
    as_iflt C (pc := 1) (off := 8) (by decide +kernel) (by decide) rfl,
    as_iload_n C (pc := 4) (q := 0) (by decide +kernel) rfl rfl,
    as_iload_n C (pc := 5) (q := 1) (by decide +kernel) rfl rfl,
    as_cmplt C (pc := 6) (off := 10) (by decide +kernel) (by decide) rfl,
    as_iload_n C (pc := 16) (q := 0) (by decide +kernel) rfl rfl,
    as_iret C (pc := 17) rfl (by decide +kernel), trivial⟩
abbrev k_Pre_check : List Nat := []
theorem r_Pre_check_0 {J : aJ} {K : aR} {n : Nat} {L : aL} {S : List Value} {M : aM} : am_run (c_Pre_check) k_Pre_check J K (n + 1) 0 L S M = ai_iload 0 1 (am_run (c_Pre_check) k_Pre_check J K n) K 0 L S M := by rfl
theorem r_Pre_check_1 {J : aJ} {K : aR} {n : Nat} {L : aL} {S : List Value} {M : aM} : am_run (c_Pre_check) k_Pre_check J K (n + 1) 1 L S M = ai_iflt 9 4 (am_run (c_Pre_check) k_Pre_check J K n) K 1 L S M := by rfl
theorem r_Pre_check_4 {J : aJ} {K : aR} {n : Nat} {L : aL} {S : List Value} {M : aM} : am_run (c_Pre_check) k_Pre_check J K (n + 1) 4 L S M = ai_iload 0 5 (am_run (c_Pre_check) k_Pre_check J K n) K 4 L S M := by rfl
theorem r_Pre_check_5 {J : aJ} {K : aR} {n : Nat} {L : aL} {S : List Value} {M : aM} : am_run (c_Pre_check) k_Pre_check J K (n + 1) 5 L S M = ai_iload 1 6 (am_run (c_Pre_check) k_Pre_check J K n) K 5 L S M := by rfl
theorem r_Pre_check_6 {J : aJ} {K : aR} {n : Nat} {L : aL} {S : List Value} {M : aM} : am_run (c_Pre_check) k_Pre_check J K (n + 1) 6 L S M = ai_cmplt 16 9 (am_run (c_Pre_check) k_Pre_check J K n) K 6 L S M := by rfl
theorem r_Pre_check_16 {J : aJ} {K : aR} {n : Nat} {L : aL} {S : List Value} {M : aM} : am_run (c_Pre_check) k_Pre_check J K (n + 1) 16 L S M = ai_iload 0 17 (am_run (c_Pre_check) k_Pre_check J K n) K 16 L S M := by rfl
theorem r_Pre_check_17 {J : aJ} {K : aR} {n : Nat} {L : aL} {S : List Value} {M : aM} : am_run (c_Pre_check) k_Pre_check J K (n + 1) 17 L S M = ai_iret (am_run (c_Pre_check) k_Pre_check J K n) K 17 L S M := by rfl
def c_Str_check (s_Pre_check : aS) : List (Nat × aI) := [
  (0, ai_iload 0 1),
  (1, ai_iload 1 2),
  (2, ai_getq 5),
  (5, ai_calls3 s_Pre_check 8),
  (8, ai_pop 9),
  (9, ai_vret)]
set_option maxRecDepth 100000 in
set_option maxHeartbeats 4000000 in
theorem tb_Str_check {G : aG} {d : Nat} {s_Pre_check : aS} {d_Pre_check : Nat} (h_Pre_check : am_Sp G Y_Pre_check d_Pre_check s_Pre_check) (l_Pre_check : d_Pre_check < d) : am_tab G Y_Str_check d (c_Str_check s_Pre_check) := by
  intro K p e s m args below meth c C
  exact ⟨as_iload_n C (pc := 0) (q := 0) (by decide +kernel) rfl rfl,
    as_iload_n C (pc := 1) (q := 1) (by decide +kernel) rfl rfl,
    as_getq C (pc := 2) (ix := 1053) (tb_of 647 rfl rfl) (by decide +kernel) rfl,
    as_calls3 C (pc := 5) h_Pre_check (tb_of 651 rfl rfl) (tb_of 81 rfl rfl) (tb_of 650 rfl rfl) (tb_of 649 rfl rfl) hy_Pre_check (am_rm_of l_Pre_check (by decide)) (by decide +kernel) rfl,
    as_pop C (pc := 8) (by decide +kernel) rfl,
    as_vret C (pc := 9) rfl (by decide +kernel), trivial⟩
abbrev k_Str_check : List Nat := []
theorem r_Str_check_0 {s_Pre_check : aS} {J : aJ} {K : aR} {n : Nat} {L : aL} {S : List Value} {M : aM} : am_run (c_Str_check s_Pre_check) k_Str_check J K (n + 1) 0 L S M = ai_iload 0 1 (am_run (c_Str_check s_Pre_check) k_Str_check J K n) K 0 L S M := by rfl
theorem r_Str_check_1 {s_Pre_check : aS} {J : aJ} {K : aR} {n : Nat} {L : aL} {S : List Value} {M : aM} : am_run (c_Str_check s_Pre_check) k_Str_check J K (n + 1) 1 L S M = ai_iload 1 2 (am_run (c_Str_check s_Pre_check) k_Str_check J K n) K 1 L S M := by rfl
theorem r_Str_check_2 {s_Pre_check : aS} {J : aJ} {K : aR} {n : Nat} {L : aL} {S : List Value} {M : aM} : am_run (c_Str_check s_Pre_check) k_Str_check J K (n + 1) 2 L S M = ai_getq 5 (am_run (c_Str_check s_Pre_check) k_Str_check J K n) K 2 L S M := by rfl
theorem r_Str_check_5 {s_Pre_check : aS} {J : aJ} {K : aR} {n : Nat} {L : aL} {S : List Value} {M : aM} : am_run (c_Str_check s_Pre_check) k_Str_check J K (n + 1) 5 L S M = ai_calls3 s_Pre_check 8 (am_run (c_Str_check s_Pre_check) k_Str_check J K n) K 5 L S M := by rfl
theorem r_Str_check_8 {s_Pre_check : aS} {J : aJ} {K : aR} {n : Nat} {L : aL} {S : List Value} {M : aM} : am_run (c_Str_check s_Pre_check) k_Str_check J K (n + 1) 8 L S M = ai_pop 9 (am_run (c_Str_check s_Pre_check) k_Str_check J K n) K 8 L S M := by rfl
theorem r_Str_check_9 {s_Pre_check : aS} {J : aJ} {K : aR} {n : Nat} {L : aL} {S : List Value} {M : aM} : am_run (c_Str_check s_Pre_check) k_Str_check J K (n + 1) 9 L S M = ai_vret (am_run (c_Str_check s_Pre_check) k_Str_check J K n) K 9 L S M := by rfl
def c_Lat_charAt (s_Str_check : aS) : List (Nat × aI) := [
  (0, ai_iload 1 1),
  (1, ai_aload 0 2),
  (2, ai_xblen 3),
  (3, ai_calls2 s_Str_check 6),
  (6, ai_aload 0 7),
  (7, ai_iload 1 8),
  (8, ai_xbald 9),
  (9, ai_const 255 12),
  (12, ai_iand 13),
  (13, ai_i2c 14),
  (14, ai_cret)]
set_option maxRecDepth 100000 in
set_option maxHeartbeats 4000000 in
theorem tb_Lat_charAt {G : aG} {d : Nat} {s_Str_check : aS} {d_Str_check : Nat} (h_Str_check : am_Sp G Y_Str_check d_Str_check s_Str_check) (l_Str_check : d_Str_check < d) : am_tab G Y_Lat_charAt d (c_Lat_charAt s_Str_check) := by
  intro K p e s m args below meth c C
  exact ⟨as_iload_n C (pc := 0) (q := 1) (by decide +kernel) rfl rfl,
    as_aload_n C (pc := 1) (q := 0) (by decide +kernel) rfl rfl,
    as_xblen C (pc := 2) (by decide +kernel) rfl,
    as_calls2 C (pc := 3) h_Str_check (tb_of 646 rfl rfl) (tb_of 79 rfl rfl) (tb_of 645 rfl rfl) (tb_of 644 rfl rfl) hy_Str_check (am_rm_of l_Str_check (by decide)) (by decide +kernel) rfl,
    as_aload_n C (pc := 6) (q := 0) (by decide +kernel) rfl rfl,
    as_iload_n C (pc := 7) (q := 1) (by decide +kernel) rfl rfl,
    as_xbald C (pc := 8) (by decide +kernel) rfl,
    as_sipush C (pc := 9) (n := 255) (by decide +kernel) (by decide +kernel) rfl,
    as_iand C (pc := 12) (by decide +kernel) rfl,
    as_i2c C (pc := 13) (by decide +kernel) rfl,
    as_cret C (pc := 14) rfl (by decide +kernel), trivial⟩
abbrev k_Lat_charAt : List Nat := []
theorem r_Lat_charAt_0 {s_Str_check : aS} {J : aJ} {K : aR} {n : Nat} {L : aL} {S : List Value} {M : aM} : am_run (c_Lat_charAt s_Str_check) k_Lat_charAt J K (n + 1) 0 L S M = ai_iload 1 1 (am_run (c_Lat_charAt s_Str_check) k_Lat_charAt J K n) K 0 L S M := by rfl
theorem r_Lat_charAt_1 {s_Str_check : aS} {J : aJ} {K : aR} {n : Nat} {L : aL} {S : List Value} {M : aM} : am_run (c_Lat_charAt s_Str_check) k_Lat_charAt J K (n + 1) 1 L S M = ai_aload 0 2 (am_run (c_Lat_charAt s_Str_check) k_Lat_charAt J K n) K 1 L S M := by rfl
theorem r_Lat_charAt_2 {s_Str_check : aS} {J : aJ} {K : aR} {n : Nat} {L : aL} {S : List Value} {M : aM} : am_run (c_Lat_charAt s_Str_check) k_Lat_charAt J K (n + 1) 2 L S M = ai_xblen 3 (am_run (c_Lat_charAt s_Str_check) k_Lat_charAt J K n) K 2 L S M := by rfl
theorem r_Lat_charAt_3 {s_Str_check : aS} {J : aJ} {K : aR} {n : Nat} {L : aL} {S : List Value} {M : aM} : am_run (c_Lat_charAt s_Str_check) k_Lat_charAt J K (n + 1) 3 L S M = ai_calls2 s_Str_check 6 (am_run (c_Lat_charAt s_Str_check) k_Lat_charAt J K n) K 3 L S M := by rfl
theorem r_Lat_charAt_6 {s_Str_check : aS} {J : aJ} {K : aR} {n : Nat} {L : aL} {S : List Value} {M : aM} : am_run (c_Lat_charAt s_Str_check) k_Lat_charAt J K (n + 1) 6 L S M = ai_aload 0 7 (am_run (c_Lat_charAt s_Str_check) k_Lat_charAt J K n) K 6 L S M := by rfl
theorem r_Lat_charAt_7 {s_Str_check : aS} {J : aJ} {K : aR} {n : Nat} {L : aL} {S : List Value} {M : aM} : am_run (c_Lat_charAt s_Str_check) k_Lat_charAt J K (n + 1) 7 L S M = ai_iload 1 8 (am_run (c_Lat_charAt s_Str_check) k_Lat_charAt J K n) K 7 L S M := by rfl
theorem r_Lat_charAt_8 {s_Str_check : aS} {J : aJ} {K : aR} {n : Nat} {L : aL} {S : List Value} {M : aM} : am_run (c_Lat_charAt s_Str_check) k_Lat_charAt J K (n + 1) 8 L S M = ai_xbald 9 (am_run (c_Lat_charAt s_Str_check) k_Lat_charAt J K n) K 8 L S M := by rfl
theorem r_Lat_charAt_9 {s_Str_check : aS} {J : aJ} {K : aR} {n : Nat} {L : aL} {S : List Value} {M : aM} : am_run (c_Lat_charAt s_Str_check) k_Lat_charAt J K (n + 1) 9 L S M = ai_const 255 12 (am_run (c_Lat_charAt s_Str_check) k_Lat_charAt J K n) K 9 L S M := by rfl
theorem r_Lat_charAt_12 {s_Str_check : aS} {J : aJ} {K : aR} {n : Nat} {L : aL} {S : List Value} {M : aM} : am_run (c_Lat_charAt s_Str_check) k_Lat_charAt J K (n + 1) 12 L S M = ai_iand 13 (am_run (c_Lat_charAt s_Str_check) k_Lat_charAt J K n) K 12 L S M := by rfl
theorem r_Lat_charAt_13 {s_Str_check : aS} {J : aJ} {K : aR} {n : Nat} {L : aL} {S : List Value} {M : aM} : am_run (c_Lat_charAt s_Str_check) k_Lat_charAt J K (n + 1) 13 L S M = ai_i2c 14 (am_run (c_Lat_charAt s_Str_check) k_Lat_charAt J K n) K 13 L S M := by rfl
theorem r_Lat_charAt_14 {s_Str_check : aS} {J : aJ} {K : aR} {n : Nat} {L : aL} {S : List Value} {M : aM} : am_run (c_Lat_charAt s_Str_check) k_Lat_charAt J K (n + 1) 14 L S M = ai_cret (am_run (c_Lat_charAt s_Str_check) k_Lat_charAt J K n) K 14 L S M := by rfl
def c_Str_isL : List (Nat × aI) := [
  (0, ai_gets (.int 1) 3),
  (3, ai_ifeq 17 6),
  (6, ai_aload 0 7),
  (7, ai_xgetf (.int 0) 10),
  (10, ai_ifne 17 13),
  (13, ai_const 1 14),
  (14, ai_goto 18),
  (17, ai_const 0 18),
  (18, ai_zret)]
set_option maxRecDepth 100000 in
set_option maxHeartbeats 4000000 in
theorem tb_Str_isL {G : aG} {d : Nat} : am_tab G Y_Str_isL d (c_Str_isL) := by
  intro K p e s m args below meth c C
  exact ⟨as_getsC C (pc := 0) (ix := 38) (tb_of 639 rfl rfl) (by decide +kernel) rfl,
    as_ifeq C (pc := 3) (off := 14) (by decide +kernel) (by decide) rfl,
    as_aload_n C (pc := 6) (q := 0) (by decide +kernel) rfl rfl,
    as_xcoder C (pc := 7) (ix := 15) (tb_of 757 rfl rfl) (by decide +kernel) rfl,
    as_ifne C (pc := 10) (off := 7) (by decide +kernel) (by decide) rfl,
    as_iconst C (pc := 13) (n := 1) (by decide +kernel) (by decide +kernel) rfl,
    as_goto C (pc := 14) (off := 4) (by decide +kernel) (by decide),
    as_iconst C (pc := 17) (n := 0) (by decide +kernel) (by decide +kernel) rfl,
    as_zret C (pc := 18) rfl (by decide +kernel), trivial⟩
abbrev k_Str_isL : List Nat := []
theorem r_Str_isL_0 {J : aJ} {K : aR} {n : Nat} {L : aL} {S : List Value} {M : aM} : am_run (c_Str_isL) k_Str_isL J K (n + 1) 0 L S M = ai_gets (.int 1) 3 (am_run (c_Str_isL) k_Str_isL J K n) K 0 L S M := by rfl
theorem r_Str_isL_3 {J : aJ} {K : aR} {n : Nat} {L : aL} {S : List Value} {M : aM} : am_run (c_Str_isL) k_Str_isL J K (n + 1) 3 L S M = ai_ifeq 17 6 (am_run (c_Str_isL) k_Str_isL J K n) K 3 L S M := by rfl
theorem r_Str_isL_6 {J : aJ} {K : aR} {n : Nat} {L : aL} {S : List Value} {M : aM} : am_run (c_Str_isL) k_Str_isL J K (n + 1) 6 L S M = ai_aload 0 7 (am_run (c_Str_isL) k_Str_isL J K n) K 6 L S M := by rfl
theorem r_Str_isL_7 {J : aJ} {K : aR} {n : Nat} {L : aL} {S : List Value} {M : aM} : am_run (c_Str_isL) k_Str_isL J K (n + 1) 7 L S M = ai_xgetf (.int 0) 10 (am_run (c_Str_isL) k_Str_isL J K n) K 7 L S M := by rfl
theorem r_Str_isL_10 {J : aJ} {K : aR} {n : Nat} {L : aL} {S : List Value} {M : aM} : am_run (c_Str_isL) k_Str_isL J K (n + 1) 10 L S M = ai_ifne 17 13 (am_run (c_Str_isL) k_Str_isL J K n) K 10 L S M := by rfl
theorem r_Str_isL_13 {J : aJ} {K : aR} {n : Nat} {L : aL} {S : List Value} {M : aM} : am_run (c_Str_isL) k_Str_isL J K (n + 1) 13 L S M = ai_const 1 14 (am_run (c_Str_isL) k_Str_isL J K n) K 13 L S M := by rfl
theorem r_Str_isL_14 {J : aJ} {K : aR} {n : Nat} {L : aL} {S : List Value} {M : aM} : am_run (c_Str_isL) k_Str_isL J K (n + 1) 14 L S M = ai_goto 18 (am_run (c_Str_isL) k_Str_isL J K n) K 14 L S M := by rfl
theorem r_Str_isL_17 {J : aJ} {K : aR} {n : Nat} {L : aL} {S : List Value} {M : aM} : am_run (c_Str_isL) k_Str_isL J K (n + 1) 17 L S M = ai_const 0 18 (am_run (c_Str_isL) k_Str_isL J K n) K 17 L S M := by rfl
theorem r_Str_isL_18 {J : aJ} {K : aR} {n : Nat} {L : aL} {S : List Value} {M : aM} : am_run (c_Str_isL) k_Str_isL J K (n + 1) 18 L S M = ai_zret (am_run (c_Str_isL) k_Str_isL J K n) K 18 L S M := by rfl
def c_Str_charAt (s_Str_isL : aS) (s_Lat_charAt : aS) : List (Nat × aI) := [
  (0, ai_aload 0 1),
  (1, ai_callx1 s_Str_isL 4),
  (4, ai_ifeq 16 7),
  (7, ai_aload 0 8),
  (8, ai_xgetf (.ref 1003) 11),
  (11, ai_iload 1 12),
  (12, ai_calls2 s_Lat_charAt 15),
  (15, ai_cret)]
set_option maxRecDepth 100000 in
set_option maxHeartbeats 4000000 in
theorem tb_Str_charAt {G : aG} {d : Nat} {s_Str_isL : aS} {d_Str_isL : Nat} (h_Str_isL : am_Sp G Y_Str_isL d_Str_isL s_Str_isL) (l_Str_isL : d_Str_isL < d) {s_Lat_charAt : aS} {d_Lat_charAt : Nat} (h_Lat_charAt : am_Sp G Y_Lat_charAt d_Lat_charAt s_Lat_charAt) (l_Lat_charAt : d_Lat_charAt < d) : am_tab G Y_Str_charAt d (c_Str_charAt s_Str_isL s_Lat_charAt) := by
  intro K p e s m args below meth c C
  exact ⟨as_aload_n C (pc := 0) (q := 0) (by decide +kernel) rfl rfl,
    as_callx1 C (pc := 1) h_Str_isL (tb_of 638 rfl rfl) (tb_of 79 rfl rfl) (tb_of 636 rfl rfl) (tb_of 637 rfl rfl) (tb_of 635 rfl rfl) hy_Str_isL (am_rm_of l_Str_isL (by decide)) (by decide +kernel) rfl,
    as_ifeq C (pc := 4) (off := 12) (by decide +kernel) (by decide) rfl,
    as_aload_n C (pc := 7) (q := 0) (by decide +kernel) rfl rfl,
    as_xvalue C (pc := 8) (ix := 9) (tb_of 758 rfl rfl) (by decide +kernel) rfl,
    as_iload_n C (pc := 11) (q := 1) (by decide +kernel) rfl rfl,
    as_calls2 C (pc := 12) h_Lat_charAt (tb_of 643 rfl rfl) (tb_of 80 rfl rfl) (tb_of 642 rfl rfl) (tb_of 641 rfl rfl) hy_Lat_charAt (am_rm_of l_Lat_charAt (by decide)) (by decide +kernel) rfl,
    as_cret C (pc := 15) rfl (by decide +kernel), trivial⟩
abbrev k_Str_charAt : List Nat := []
theorem r_Str_charAt_0 {s_Str_isL : aS} {s_Lat_charAt : aS} {J : aJ} {K : aR} {n : Nat} {L : aL} {S : List Value} {M : aM} : am_run (c_Str_charAt s_Str_isL s_Lat_charAt) k_Str_charAt J K (n + 1) 0 L S M = ai_aload 0 1 (am_run (c_Str_charAt s_Str_isL s_Lat_charAt) k_Str_charAt J K n) K 0 L S M := by rfl
theorem r_Str_charAt_1 {s_Str_isL : aS} {s_Lat_charAt : aS} {J : aJ} {K : aR} {n : Nat} {L : aL} {S : List Value} {M : aM} : am_run (c_Str_charAt s_Str_isL s_Lat_charAt) k_Str_charAt J K (n + 1) 1 L S M = ai_callx1 s_Str_isL 4 (am_run (c_Str_charAt s_Str_isL s_Lat_charAt) k_Str_charAt J K n) K 1 L S M := by rfl
theorem r_Str_charAt_4 {s_Str_isL : aS} {s_Lat_charAt : aS} {J : aJ} {K : aR} {n : Nat} {L : aL} {S : List Value} {M : aM} : am_run (c_Str_charAt s_Str_isL s_Lat_charAt) k_Str_charAt J K (n + 1) 4 L S M = ai_ifeq 16 7 (am_run (c_Str_charAt s_Str_isL s_Lat_charAt) k_Str_charAt J K n) K 4 L S M := by rfl
theorem r_Str_charAt_7 {s_Str_isL : aS} {s_Lat_charAt : aS} {J : aJ} {K : aR} {n : Nat} {L : aL} {S : List Value} {M : aM} : am_run (c_Str_charAt s_Str_isL s_Lat_charAt) k_Str_charAt J K (n + 1) 7 L S M = ai_aload 0 8 (am_run (c_Str_charAt s_Str_isL s_Lat_charAt) k_Str_charAt J K n) K 7 L S M := by rfl
theorem r_Str_charAt_8 {s_Str_isL : aS} {s_Lat_charAt : aS} {J : aJ} {K : aR} {n : Nat} {L : aL} {S : List Value} {M : aM} : am_run (c_Str_charAt s_Str_isL s_Lat_charAt) k_Str_charAt J K (n + 1) 8 L S M = ai_xgetf (.ref 1003) 11 (am_run (c_Str_charAt s_Str_isL s_Lat_charAt) k_Str_charAt J K n) K 8 L S M := by rfl
theorem r_Str_charAt_11 {s_Str_isL : aS} {s_Lat_charAt : aS} {J : aJ} {K : aR} {n : Nat} {L : aL} {S : List Value} {M : aM} : am_run (c_Str_charAt s_Str_isL s_Lat_charAt) k_Str_charAt J K (n + 1) 11 L S M = ai_iload 1 12 (am_run (c_Str_charAt s_Str_isL s_Lat_charAt) k_Str_charAt J K n) K 11 L S M := by rfl
theorem r_Str_charAt_12 {s_Str_isL : aS} {s_Lat_charAt : aS} {J : aJ} {K : aR} {n : Nat} {L : aL} {S : List Value} {M : aM} : am_run (c_Str_charAt s_Str_isL s_Lat_charAt) k_Str_charAt J K (n + 1) 12 L S M = ai_calls2 s_Lat_charAt 15 (am_run (c_Str_charAt s_Str_isL s_Lat_charAt) k_Str_charAt J K n) K 12 L S M := by rfl
theorem r_Str_charAt_15 {s_Str_isL : aS} {s_Lat_charAt : aS} {J : aJ} {K : aR} {n : Nat} {L : aL} {S : List Value} {M : aM} : am_run (c_Str_charAt s_Str_isL s_Lat_charAt) k_Str_charAt J K (n + 1) 15 L S M = ai_cret (am_run (c_Str_charAt s_Str_isL s_Lat_charAt) k_Str_charAt J K n) K 15 L S M := by rfl
