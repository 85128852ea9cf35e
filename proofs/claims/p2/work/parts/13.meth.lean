theorem am_few_sum {S : List Value} (ad : Nat → Nat) (h : am_few S) : ((S.map (am_v ad)).map fun v => v.category).sum ≤ 8 := by
  have hc : ∀ v : Value, (am_v ad v).category ≤ 2 := fun v => by rcases lv_cat (am_v ad v) with q | q <;> omega
  unfold am_few at h
  split at h
  · simp
  · next a => have := hc a; simp; omega
  · next a b => have := hc a; have := hc b; simp; omega
  · next a b d => have := hc a; have := hc b; have := hc d; simp; omega
  · next a b d f => have := hc a; have := hc b; have := hc d; have := hc f; simp; omega
  · cases h
theorem am_P.calling {G : aG} {M : aM} {sz : Nat} {U : State} {g : JFrame} {mk : MethodId} {a : Array Value} (h : am_P G M sz U) : am_P G M sz (U.calling g mk a) := by
  obtain ⟨h1, h2, h3, h4, h5⟩ := h
  refine ⟨h1, h2, ⟨va_K.moved (u := U) (U := U.calling g mk a) (Vm.Alike.refl U.vm) h3.1, fun w hw => ⟨(h3.2.1 w hw).1, ?_⟩, vk_R.same (u := U) rfl h3.2.2⟩, am_E.moved (u := U) (U := U.calling g mk a) (Vm.Alike.refl U.vm) h4, h5⟩
  have hn := (h3.2.1 w hw).1
  exact va_Nw.same (u := U) (by cases w <;> first | (cases hn; done) | rfl) rfl (h3.2.1 w hw).2
section AMC
variable {G : aG} {Y : aY} {p : Program} {e : Env} {R : Room} {s : State} {m : MethodId} {args : Array Value} {below : List Frame} {meth : Method} {c : Code} {Q : State → Prop} {kc ks : Nat} {K : aR} {pc nx : Nat}
theorem am_pre (C : am_C G Y p s m args meth c) {M : aM} {H : Heap} {locs : List Loc} (hP : va_P (g_D G) CL (am_W G M) H) (hS : va_S (am_A G s.heap.size) s.heap H locs) {U : State} (hU : U.heap = H) (hW : s.WarmedH U.vm) : am_P G M H.size U := by
  obtain ⟨hG, hx, hb, hml, hr, hown, hts, hlk, hT, hE, hB⟩ := C
  refine ⟨by rw [hU], by rw [hU]; exact hP, hT.warm hW, ?_, fun q hq => hB q (Nat.le_trans hS.1 hq)⟩
  rw [hU]
  exact (hE.kept (fun a h1 h2 => hS.2.1 a h1 (fun z => h2 (am_AB hG hB a z)))).moved hW.alike
theorem am_call {K1 : aR} {H : Heap} {locs : List Loc} {ls : Array Slot} {st0 rest : List Value} {a : Array Value} (hr : va_Run p (g_l G) e R s m args below meth c H locs kc ks 0 0 (F0 m pc ls st0) rest (am_Q G K1 (am_A G H.size) a) (am_A G H.size)) (hS : va_S (am_A G s.heap.size) s.heap H locs)
    (kk : ∀ (r : Option Value) (M1 : aM) (H1 : Heap) (locs1 : List Loc), K1 r M1 → va_P (g_D G) CL (am_W G M1) H1 → va_S (am_A G s.heap.size) s.heap H1 locs1 → W p (g_l G) e R s m args below meth c H1 locs1 kc ks Q (F0 m (pc + 3) ls ((r.map (am_v (g_a G))).toList ++ rest))) : W p (g_l G) e R s m args below meth c H locs kc ks Q (F0 m pc ls st0) := by
  have hA : ∀ q, am_A G H.size q → am_A G s.heap.size q := fun q h => by
    rcases h with h | h
    · exact Or.inl h
    · exact Or.inr (Nat.le_trans hS.1 h)
  intro T hT X
  obtain ⟨v, st₀, t, T', L, h0, X', hL, e1, e2, ⟨⟨r, M1, hv, hp, hb⟩, hz, hk⟩, st⟩ := hr T hT X
  cases hv
  rw [h0] at hz hk
  obtain ⟨t2, a1, b1⟩ := kk r M1 T'.heap (locs ++ L) hp (by rw [e1]; exact hb)
    ⟨Nat.le_trans hS.1 (by rw [e1]; exact hz), fun q h1 h2 => by rw [e1, hk q (Nat.lt_of_lt_of_le h1 hS.1) (fun z => h2 (hA q z))]; exact hS.2.1 q h1 h2, fun q hq => by
      rcases List.mem_append.mp hq with h | h
      · exact hS.2.2 q h
      · exact hA _ (hL q h)⟩ T' rfl X'
  exact ⟨t2, st t2 a1, b1⟩
theorem am_push_eq (ad : Nat → Nat) (r : Option Value) (S : List Value) : (r.map (am_v ad)).toList ++ S.map (am_v ad) = (am_push r S).map (am_v ad) := by cases r <;> rfl
def am_Sp (G : aG) (Y : aY) (d : Nat) (sp : aS) : Prop := ∀ (As : List Value) (M : aM) (K : aR), sp As M K → am_Met G Y d As M K
theorem am_good (Z : aY) (hc : Cond.code Z.1 Z.2.1 Z.2.2.1 Z.2.2.2 ∈ TB) : GoodIn TB (am_wd Z) := by
  intro w hw
  rcases List.mem_cons.mp hw with rfl | hw
  · exact ⟨hc, TB_good _ hc⟩
  · exact ⟨hw, TB_good _ hw⟩
/-- the room of a call -/
def am_rm (R : Room) (d n kc ks : Nat) : Prop := d + 1 ≤ R.frames ∧ 8 + (n + 11) + 40 * d ≤ R.locals ∧ kc ≤ R.cells ∧ ks ≤ R.slots
theorem am_vn (C : am_C G Y p s m args meth c) {Z : aY} {d ci ix n a : Nat} {Cn host : String} {T : u_T} {N : Nat} {As S st0 : List Value} {M : aM} {K1 : aR} (hM : am_Met G Z d (.ref a :: As) M K1) (hkd : am_kd a ci = true) (hcl : CL[ci]? = some (Cn, T, N))
    (hcode : Cond.code Z.1 Z.2.1 Z.2.2.1 Z.2.2.2 ∈ TB) (hini : Cond.initialized Z.1.cls ∈ TB) (hinst : Cond.instanceMethod Z.1 ∈ TB) (hsel : Cond.selects Cn Z.1 Z.1 ∈ TB) (hlink : Cond.methodLinkNest Y.1.cls ix Z.1 host ∈ NWs)
    (hy : Z.1.cls ≠ "java/lang/invoke/MethodHandle" ∧ Z.1.cls ≠ "java/lang/invoke/VarHandle" ∧ (parseMethodDescriptor Z.1.desc).map (fun d => d.parameters.length) = some n) (hR : am_rm R d Z.2.2.1 kc ks) (hn : As.length = n) (hst : st0 = As.reverse ++ .ref a :: S) (hf : am_few S) (hd : decode Y.2.1 pc = .ok (.invokevirtual ix, 3))
    {H : Heap} {locs : List Loc} {ls : Array Slot} {L : aL} (hP : va_P (g_D G) CL (am_W G M) H) (hS : va_S (am_A G s.heap.size) s.heap H locs) (hl : am_lv ls Y.2.2.1 (g_a G) L)
    (kk : ∀ r M1, K1 r M1 → am_J G Y p e R s m args below meth c Q kc ks (pc + 3) L (am_push r S) M1) : W p (g_l G) e R s m args below meth c H locs kc ks Q (F0 m pc ls (st0.map (am_v (g_a G)))) := by
  have C0 := C
  obtain ⟨hG, hx, hb, hml, hr, hown, hts, hlk, hT, hE, hB⟩ := C
  obtain ⟨fs, hfs⟩ := am_kd_of hkd
  refine am_call (va_runVN (As := As.map (am_v (g_a G))) (rest := S.map (am_v (g_a G))) (b := g_a G a) (C := Cn) ⟨hx, hb, hml, hown, hts⟩ (hM H.size) ⟨va_cnB n hts (am_good Z hcode) rfl rfl rfl (hT.2.1 _ hlink).2 (hts _ hini) hy ⟨hR.1, hR.2.1⟩, hts _ hinst, hts _ hsel⟩ ⟨fun a U g mk q => ⟨q.1, q.2.calling⟩, va_recv hT.1 hP hcl (am_W_get hfs), fun U hU hW => ⟨rfl, am_pre C0 hP hS hU hW⟩⟩ rfl (by simpa using hn) hl.1 (by rw [hst]; simp [am_v]) (lv_room (am_few_sum (g_a G) hf)) hd ⟨hR.2.2.1, hR.2.2.2⟩) hS (fun r M1 H1 locs1 h1 h2 h3 => ?_)
  rw [am_push_eq]
  exact kk r M1 h1 H1 locs1 ls h2 h3 hl
theorem am_vo (C : am_C G Y p s m args meth c) {Z : aY} {d ci ix n a : Nat} {Cn : String} {T : u_T} {N : Nat} {As S st0 : List Value} {M : aM} {K1 : aR} (hM : am_Met G Z d (.ref a :: As) M K1) (hkd : am_kd a ci = true) (hcl : CL[ci]? = some (Cn, T, N))
    (hcode : Cond.code Z.1 Z.2.1 Z.2.2.1 Z.2.2.2 ∈ TB) (hini : Cond.initialized Z.1.cls ∈ TB) (hinst : Cond.instanceMethod Z.1 ∈ TB) (hsel : Cond.selects Cn Z.1 Z.1 ∈ TB) (hlink : Cond.methodLink Y.1.cls ix Z.1 ∈ TB)
    (hy : Z.1.cls ≠ "java/lang/invoke/MethodHandle" ∧ Z.1.cls ≠ "java/lang/invoke/VarHandle" ∧ (parseMethodDescriptor Z.1.desc).map (fun d => d.parameters.length) = some n) (hR : am_rm R d Z.2.2.1 kc ks) (hn : As.length = n) (hst : st0 = As.reverse ++ .ref a :: S) (hf : am_few S) (hd : decode Y.2.1 pc = .ok (.invokevirtual ix, 3))
    {H : Heap} {locs : List Loc} {ls : Array Slot} {L : aL} (hP : va_P (g_D G) CL (am_W G M) H) (hS : va_S (am_A G s.heap.size) s.heap H locs) (hl : am_lv ls Y.2.2.1 (g_a G) L)
    (kk : ∀ r M1, K1 r M1 → am_J G Y p e R s m args below meth c Q kc ks (pc + 3) L (am_push r S) M1) : W p (g_l G) e R s m args below meth c H locs kc ks Q (F0 m pc ls (st0.map (am_v (g_a G)))) := by
  have C0 := C
  obtain ⟨hG, hx, hb, hml, hr, hown, hts, hlk, hT, hE, hB⟩ := C
  obtain ⟨fs, hfs⟩ := am_kd_of hkd
  refine am_call (va_runV (As := As.map (am_v (g_a G))) (rest := S.map (am_v (g_a G))) (b := g_a G a) (C := Cn) ⟨hx, hb, hml, hown, hts⟩ (hM H.size) ⟨callB_of n hts (am_good Z hcode) rfl rfl rfl (hts _ hini) (hts _ hlink) hy ⟨hR.1, hR.2.1⟩, hts _ hinst, hts _ hsel⟩ ⟨fun a U g mk q => ⟨q.1, q.2.calling⟩, va_recv hT.1 hP hcl (am_W_get hfs), fun U hU hW => ⟨rfl, am_pre C0 hP hS hU hW⟩⟩ rfl (by simpa using hn) hl.1 (by rw [hst]; simp [am_v]) (lv_room (am_few_sum (g_a G) hf)) hd ⟨hR.2.2.1, hR.2.2.2⟩) hS (fun r M1 H1 locs1 h1 h2 h3 => ?_)
  rw [am_push_eq]
  exact kk r M1 h1 H1 locs1 ls h2 h3 hl
theorem am_so (C : am_C G Y p s m args meth c) {Z : aY} {d ix n : Nat} {As S st0 : List Value} {M : aM} {K1 : aR} (hM : am_Met G Z d As M K1)
    (hcode : Cond.code Z.1 Z.2.1 Z.2.2.1 Z.2.2.2 ∈ TB) (hini : Cond.initialized Z.1.cls ∈ TB) (hstat : Cond.static Z.1 ∈ TB) (hlink : Cond.methodLink Y.1.cls ix Z.1 ∈ TB)
    (hy : Z.1.cls ≠ "java/lang/invoke/MethodHandle" ∧ Z.1.cls ≠ "java/lang/invoke/VarHandle" ∧ (parseMethodDescriptor Z.1.desc).map (fun d => d.parameters.length) = some n) (hR : am_rm R d Z.2.2.1 kc ks) (hn : As.length = n) (hst : st0 = As.reverse ++ S) (hf : am_few S) (hd : decode Y.2.1 pc = .ok (.invokestatic ix, 3))
    {H : Heap} {locs : List Loc} {ls : Array Slot} {L : aL} (hP : va_P (g_D G) CL (am_W G M) H) (hS : va_S (am_A G s.heap.size) s.heap H locs) (hl : am_lv ls Y.2.2.1 (g_a G) L)
    (kk : ∀ r M1, K1 r M1 → am_J G Y p e R s m args below meth c Q kc ks (pc + 3) L (am_push r S) M1) : W p (g_l G) e R s m args below meth c H locs kc ks Q (F0 m pc ls (st0.map (am_v (g_a G)))) := by
  have C0 := C
  obtain ⟨hG, hx, hb, hml, hr, hown, hts, hlk, hT, hE, hB⟩ := C
  refine am_call (va_runS (As := As.map (am_v (g_a G))) (rest := S.map (am_v (g_a G))) ⟨hx, hb, hml, hown, hts⟩ (hM H.size) ⟨callB_of n hts (am_good Z hcode) rfl rfl rfl (hts _ hini) (hts _ hlink) hy ⟨hR.1, hR.2.1⟩, hts _ hstat⟩ ⟨fun a U g mk q => ⟨q.1, q.2.calling⟩, fun U hU hW => ⟨rfl, am_pre C0 hP hS hU hW⟩⟩ rfl (by simpa using hn) hl.1 (by rw [hst]; simp) (lv_room (am_few_sum (g_a G) hf)) hd ⟨hR.2.2.1, hR.2.2.2⟩) hS (fun r M1 H1 locs1 h1 h2 h3 => ?_)
  rw [am_push_eq]
  exact kk r M1 h1 H1 locs1 ls h2 h3 hl
theorem as_callv1N (C : am_C G Y p s m args meth c) {Z : aY} {d ci ix : Nat} {Cn host : String} {T : u_T} {N : Nat} {sp : aS} (hsp : am_Sp G Z d sp) (hcl : CL[ci]? = some (Cn, T, N)) (hcode : Cond.code Z.1 Z.2.1 Z.2.2.1 Z.2.2.2 ∈ TB) (hini : Cond.initialized Z.1.cls ∈ TB) (hinst : Cond.instanceMethod Z.1 ∈ TB) (hsel : Cond.selects Cn Z.1 Z.1 ∈ TB) (hlink : Cond.methodLinkNest Y.1.cls ix Z.1 host ∈ NWs) (hy : Z.1.cls ≠ "java/lang/invoke/MethodHandle" ∧ Z.1.cls ≠ "java/lang/invoke/VarHandle" ∧ (parseMethodDescriptor Z.1.desc).map (fun d => d.parameters.length) = some 0) (hR : am_rm R d Z.2.2.1 kc ks) (hd : decode Y.2.1 pc = .ok (.invokevirtual ix, 3)) (hn : nx = pc + 3) : am_S (am_J G Y p e R s m args below meth c Q kc ks) K pc (ai_callv1 ci sp nx) := by
  subst hn
  intro j hj L S M h H locs ls hP hS hl
  unfold ai_callv1 at h
  split at h
  · obtain ⟨h1, h2, h3⟩ := h
    exact am_vn C (As := []) (hsp _ _ _ h3) h1 hcl hcode hini hinst hsel hlink hy hR rfl rfl h2 hd hP hS hl (fun r M1 q => hj _ _ _ _ q)
  · cases h
theorem as_callv1 (C : am_C G Y p s m args meth c) {Z : aY} {d ci ix : Nat} {Cn : String} {T : u_T} {N : Nat} {sp : aS} (hsp : am_Sp G Z d sp) (hcl : CL[ci]? = some (Cn, T, N)) (hcode : Cond.code Z.1 Z.2.1 Z.2.2.1 Z.2.2.2 ∈ TB) (hini : Cond.initialized Z.1.cls ∈ TB) (hinst : Cond.instanceMethod Z.1 ∈ TB) (hsel : Cond.selects Cn Z.1 Z.1 ∈ TB) (hlink : Cond.methodLink Y.1.cls ix Z.1 ∈ TB) (hy : Z.1.cls ≠ "java/lang/invoke/MethodHandle" ∧ Z.1.cls ≠ "java/lang/invoke/VarHandle" ∧ (parseMethodDescriptor Z.1.desc).map (fun d => d.parameters.length) = some 0) (hR : am_rm R d Z.2.2.1 kc ks) (hd : decode Y.2.1 pc = .ok (.invokevirtual ix, 3)) (hn : nx = pc + 3) : am_S (am_J G Y p e R s m args below meth c Q kc ks) K pc (ai_callv1 ci sp nx) := by
  subst hn
  intro j hj L S M h H locs ls hP hS hl
  unfold ai_callv1 at h
  split at h
  · obtain ⟨h1, h2, h3⟩ := h
    exact am_vo C (As := []) (hsp _ _ _ h3) h1 hcl hcode hini hinst hsel hlink hy hR rfl rfl h2 hd hP hS hl (fun r M1 q => hj _ _ _ _ q)
  · cases h
theorem as_callv2N (C : am_C G Y p s m args meth c) {Z : aY} {d ci ix : Nat} {Cn host : String} {T : u_T} {N : Nat} {sp : aS} (hsp : am_Sp G Z d sp) (hcl : CL[ci]? = some (Cn, T, N)) (hcode : Cond.code Z.1 Z.2.1 Z.2.2.1 Z.2.2.2 ∈ TB) (hini : Cond.initialized Z.1.cls ∈ TB) (hinst : Cond.instanceMethod Z.1 ∈ TB) (hsel : Cond.selects Cn Z.1 Z.1 ∈ TB) (hlink : Cond.methodLinkNest Y.1.cls ix Z.1 host ∈ NWs) (hy : Z.1.cls ≠ "java/lang/invoke/MethodHandle" ∧ Z.1.cls ≠ "java/lang/invoke/VarHandle" ∧ (parseMethodDescriptor Z.1.desc).map (fun d => d.parameters.length) = some 1) (hR : am_rm R d Z.2.2.1 kc ks) (hd : decode Y.2.1 pc = .ok (.invokevirtual ix, 3)) (hn : nx = pc + 3) : am_S (am_J G Y p e R s m args below meth c Q kc ks) K pc (ai_callv2 ci sp nx) := by
  subst hn
  intro j hj L S M h H locs ls hP hS hl
  unfold ai_callv2 at h
  split at h
  · obtain ⟨h1, h2, h3⟩ := h
    exact am_vn C (As := [_]) (hsp _ _ _ h3) h1 hcl hcode hini hinst hsel hlink hy hR rfl rfl h2 hd hP hS hl (fun r M1 q => hj _ _ _ _ q)
  · cases h
theorem as_callv2 (C : am_C G Y p s m args meth c) {Z : aY} {d ci ix : Nat} {Cn : String} {T : u_T} {N : Nat} {sp : aS} (hsp : am_Sp G Z d sp) (hcl : CL[ci]? = some (Cn, T, N)) (hcode : Cond.code Z.1 Z.2.1 Z.2.2.1 Z.2.2.2 ∈ TB) (hini : Cond.initialized Z.1.cls ∈ TB) (hinst : Cond.instanceMethod Z.1 ∈ TB) (hsel : Cond.selects Cn Z.1 Z.1 ∈ TB) (hlink : Cond.methodLink Y.1.cls ix Z.1 ∈ TB) (hy : Z.1.cls ≠ "java/lang/invoke/MethodHandle" ∧ Z.1.cls ≠ "java/lang/invoke/VarHandle" ∧ (parseMethodDescriptor Z.1.desc).map (fun d => d.parameters.length) = some 1) (hR : am_rm R d Z.2.2.1 kc ks) (hd : decode Y.2.1 pc = .ok (.invokevirtual ix, 3)) (hn : nx = pc + 3) : am_S (am_J G Y p e R s m args below meth c Q kc ks) K pc (ai_callv2 ci sp nx) := by
  subst hn
  intro j hj L S M h H locs ls hP hS hl
  unfold ai_callv2 at h
  split at h
  · obtain ⟨h1, h2, h3⟩ := h
    exact am_vo C (As := [_]) (hsp _ _ _ h3) h1 hcl hcode hini hinst hsel hlink hy hR rfl rfl h2 hd hP hS hl (fun r M1 q => hj _ _ _ _ q)
  · cases h
theorem as_callv3N (C : am_C G Y p s m args meth c) {Z : aY} {d ci ix : Nat} {Cn host : String} {T : u_T} {N : Nat} {sp : aS} (hsp : am_Sp G Z d sp) (hcl : CL[ci]? = some (Cn, T, N)) (hcode : Cond.code Z.1 Z.2.1 Z.2.2.1 Z.2.2.2 ∈ TB) (hini : Cond.initialized Z.1.cls ∈ TB) (hinst : Cond.instanceMethod Z.1 ∈ TB) (hsel : Cond.selects Cn Z.1 Z.1 ∈ TB) (hlink : Cond.methodLinkNest Y.1.cls ix Z.1 host ∈ NWs) (hy : Z.1.cls ≠ "java/lang/invoke/MethodHandle" ∧ Z.1.cls ≠ "java/lang/invoke/VarHandle" ∧ (parseMethodDescriptor Z.1.desc).map (fun d => d.parameters.length) = some 2) (hR : am_rm R d Z.2.2.1 kc ks) (hd : decode Y.2.1 pc = .ok (.invokevirtual ix, 3)) (hn : nx = pc + 3) : am_S (am_J G Y p e R s m args below meth c Q kc ks) K pc (ai_callv3 ci sp nx) := by
  subst hn
  intro j hj L S M h H locs ls hP hS hl
  unfold ai_callv3 at h
  split at h
  · obtain ⟨h1, h2, h3⟩ := h
    exact am_vn C (As := [_, _]) (hsp _ _ _ h3) h1 hcl hcode hini hinst hsel hlink hy hR rfl rfl h2 hd hP hS hl (fun r M1 q => hj _ _ _ _ q)
  · cases h
theorem as_callv3 (C : am_C G Y p s m args meth c) {Z : aY} {d ci ix : Nat} {Cn : String} {T : u_T} {N : Nat} {sp : aS} (hsp : am_Sp G Z d sp) (hcl : CL[ci]? = some (Cn, T, N)) (hcode : Cond.code Z.1 Z.2.1 Z.2.2.1 Z.2.2.2 ∈ TB) (hini : Cond.initialized Z.1.cls ∈ TB) (hinst : Cond.instanceMethod Z.1 ∈ TB) (hsel : Cond.selects Cn Z.1 Z.1 ∈ TB) (hlink : Cond.methodLink Y.1.cls ix Z.1 ∈ TB) (hy : Z.1.cls ≠ "java/lang/invoke/MethodHandle" ∧ Z.1.cls ≠ "java/lang/invoke/VarHandle" ∧ (parseMethodDescriptor Z.1.desc).map (fun d => d.parameters.length) = some 2) (hR : am_rm R d Z.2.2.1 kc ks) (hd : decode Y.2.1 pc = .ok (.invokevirtual ix, 3)) (hn : nx = pc + 3) : am_S (am_J G Y p e R s m args below meth c Q kc ks) K pc (ai_callv3 ci sp nx) := by
  subst hn
  intro j hj L S M h H locs ls hP hS hl
  unfold ai_callv3 at h
  split at h
  · obtain ⟨h1, h2, h3⟩ := h
    exact am_vo C (As := [_, _]) (hsp _ _ _ h3) h1 hcl hcode hini hinst hsel hlink hy hR rfl rfl h2 hd hP hS hl (fun r M1 q => hj _ _ _ _ q)
  · cases h
theorem as_callv4N (C : am_C G Y p s m args meth c) {Z : aY} {d ci ix : Nat} {Cn host : String} {T : u_T} {N : Nat} {sp : aS} (hsp : am_Sp G Z d sp) (hcl : CL[ci]? = some (Cn, T, N)) (hcode : Cond.code Z.1 Z.2.1 Z.2.2.1 Z.2.2.2 ∈ TB) (hini : Cond.initialized Z.1.cls ∈ TB) (hinst : Cond.instanceMethod Z.1 ∈ TB) (hsel : Cond.selects Cn Z.1 Z.1 ∈ TB) (hlink : Cond.methodLinkNest Y.1.cls ix Z.1 host ∈ NWs) (hy : Z.1.cls ≠ "java/lang/invoke/MethodHandle" ∧ Z.1.cls ≠ "java/lang/invoke/VarHandle" ∧ (parseMethodDescriptor Z.1.desc).map (fun d => d.parameters.length) = some 3) (hR : am_rm R d Z.2.2.1 kc ks) (hd : decode Y.2.1 pc = .ok (.invokevirtual ix, 3)) (hn : nx = pc + 3) : am_S (am_J G Y p e R s m args below meth c Q kc ks) K pc (ai_callv4 ci sp nx) := by
  subst hn
  intro j hj L S M h H locs ls hP hS hl
  unfold ai_callv4 at h
  split at h
  · obtain ⟨h1, h2, h3⟩ := h
    exact am_vn C (As := [_, _, _]) (hsp _ _ _ h3) h1 hcl hcode hini hinst hsel hlink hy hR rfl rfl h2 hd hP hS hl (fun r M1 q => hj _ _ _ _ q)
  · cases h
theorem as_callv4 (C : am_C G Y p s m args meth c) {Z : aY} {d ci ix : Nat} {Cn : String} {T : u_T} {N : Nat} {sp : aS} (hsp : am_Sp G Z d sp) (hcl : CL[ci]? = some (Cn, T, N)) (hcode : Cond.code Z.1 Z.2.1 Z.2.2.1 Z.2.2.2 ∈ TB) (hini : Cond.initialized Z.1.cls ∈ TB) (hinst : Cond.instanceMethod Z.1 ∈ TB) (hsel : Cond.selects Cn Z.1 Z.1 ∈ TB) (hlink : Cond.methodLink Y.1.cls ix Z.1 ∈ TB) (hy : Z.1.cls ≠ "java/lang/invoke/MethodHandle" ∧ Z.1.cls ≠ "java/lang/invoke/VarHandle" ∧ (parseMethodDescriptor Z.1.desc).map (fun d => d.parameters.length) = some 3) (hR : am_rm R d Z.2.2.1 kc ks) (hd : decode Y.2.1 pc = .ok (.invokevirtual ix, 3)) (hn : nx = pc + 3) : am_S (am_J G Y p e R s m args below meth c Q kc ks) K pc (ai_callv4 ci sp nx) := by
  subst hn
  intro j hj L S M h H locs ls hP hS hl
  unfold ai_callv4 at h
  split at h
  · obtain ⟨h1, h2, h3⟩ := h
    exact am_vo C (As := [_, _, _]) (hsp _ _ _ h3) h1 hcl hcode hini hinst hsel hlink hy hR rfl rfl h2 hd hP hS hl (fun r M1 q => hj _ _ _ _ q)
  · cases h
theorem as_calls1 (C : am_C G Y p s m args meth c) {Z : aY} {d ix : Nat} {sp : aS} (hsp : am_Sp G Z d sp) (hcode : Cond.code Z.1 Z.2.1 Z.2.2.1 Z.2.2.2 ∈ TB) (hini : Cond.initialized Z.1.cls ∈ TB) (hstat : Cond.static Z.1 ∈ TB) (hlink : Cond.methodLink Y.1.cls ix Z.1 ∈ TB) (hy : Z.1.cls ≠ "java/lang/invoke/MethodHandle" ∧ Z.1.cls ≠ "java/lang/invoke/VarHandle" ∧ (parseMethodDescriptor Z.1.desc).map (fun d => d.parameters.length) = some 1) (hR : am_rm R d Z.2.2.1 kc ks) (hd : decode Y.2.1 pc = .ok (.invokestatic ix, 3)) (hn : nx = pc + 3) : am_S (am_J G Y p e R s m args below meth c Q kc ks) K pc (ai_calls1 sp nx) := by
  subst hn
  intro j hj L S M h H locs ls hP hS hl
  unfold ai_calls1 at h
  split at h
  · obtain ⟨h2, h3⟩ := h
    exact am_so C (As := [_]) (hsp _ _ _ h3) hcode hini hstat hlink hy hR rfl rfl h2 hd hP hS hl (fun r M1 q => hj _ _ _ _ q)
  · cases h
theorem as_calls2 (C : am_C G Y p s m args meth c) {Z : aY} {d ix : Nat} {sp : aS} (hsp : am_Sp G Z d sp) (hcode : Cond.code Z.1 Z.2.1 Z.2.2.1 Z.2.2.2 ∈ TB) (hini : Cond.initialized Z.1.cls ∈ TB) (hstat : Cond.static Z.1 ∈ TB) (hlink : Cond.methodLink Y.1.cls ix Z.1 ∈ TB) (hy : Z.1.cls ≠ "java/lang/invoke/MethodHandle" ∧ Z.1.cls ≠ "java/lang/invoke/VarHandle" ∧ (parseMethodDescriptor Z.1.desc).map (fun d => d.parameters.length) = some 2) (hR : am_rm R d Z.2.2.1 kc ks) (hd : decode Y.2.1 pc = .ok (.invokestatic ix, 3)) (hn : nx = pc + 3) : am_S (am_J G Y p e R s m args below meth c Q kc ks) K pc (ai_calls2 sp nx) := by
  subst hn
  intro j hj L S M h H locs ls hP hS hl
  unfold ai_calls2 at h
  split at h
  · obtain ⟨h2, h3⟩ := h
    exact am_so C (As := [_, _]) (hsp _ _ _ h3) hcode hini hstat hlink hy hR rfl rfl h2 hd hP hS hl (fun r M1 q => hj _ _ _ _ q)
  · cases h
theorem as_min (C : am_C G Y p s m args meth c) {ix : Nat} (hlink : Cond.methodLink Y.1.cls ix Lib.Math.min.name ∈ TB) (hstat : Cond.static Lib.Math.min.name ∈ TB) (hini : Cond.initialized "java/lang/Math" ∈ TB) (hcode : Cond.code Lib.Math.min.name Lib.Math.min.code 2 (some .int) ∈ TB) (hR : 1 ≤ R.frames ∧ 21 ≤ R.locals ∧ kc ≤ R.cells ∧ ks ≤ R.slots) (hd : decode Y.2.1 pc = .ok (.invokestatic ix, 3)) (hn : nx = pc + 3) : am_S (am_J G Y p e R s m args below meth c Q kc ks) K pc (ai_min nx) := by
  obtain ⟨hG, hx, hb, hml, hr, hown, hts, hlk, hT, hE, hB⟩ := C
  subst hn
  intro j hj L S M h H locs ls hP hS hl
  unfold ai_min at h
  split at h
  · have hf := am_few_sum (g_a G) h.1
    exact va_mmin hx hb (by rw [hml]; exact hl.1.symm) hown (hts _ hlink) (hts _ hstat) (hts _ hini) (hts _ hcode) hR.1 (by omega) hR.2.2.1 hR.2.2.2 hd (hj _ _ _ _ h.2 H locs ls hP hS hl)
  · cases h
end AMC
/-! the ends of a method -/
section AMR
variable {G : aG} {Y : aY} {p : Program} {e : Env} {R : Room} {s : State} {m : MethodId} {args : Array Value} {below : List Frame} {meth : Method} {c : Code} {K : aR} {pc : Nat}
def am_Z (G : aG) (K : aR) (s : State) (args : Array Value) (below : List Frame) : State → Prop := MQ below (am_Q G K (am_A G s.heap.size)) args s 0 0 (am_A G s.heap.size)
theorem as_iret (C : am_C G Y p s m args meth c) (hy : Y.2.2.2 = some .int) (hd : decode Y.2.1 pc = .ok (.ireturn, 1)) : am_S (am_J G Y p e R s m args below meth c (am_Z G K s args below) 0 0) K pc ai_iret := by
  obtain ⟨hG, hx, hb, hml, hr, hown, hts, hlk, hT, hE, hB⟩ := C
  intro j hj L S M h H locs ls hP hS hl
  unfold ai_iret at h
  split at h
  · next x => exact W.iret (hlocks := hlk) hx hb (hr.trans hy) (fun t ht _ => ⟨⟨some (.int x), M, rfl, h, by rw [ht]; exact hP⟩, hS.F ht⟩) hS.2.2 hd
  · cases h
theorem as_zret (C : am_C G Y p s m args meth c) (hy : Y.2.2.2 = some .boolean) (hd : decode Y.2.1 pc = .ok (.ireturn, 1)) : am_S (am_J G Y p e R s m args below meth c (am_Z G K s args below) 0 0) K pc ai_zret := by
  obtain ⟨hG, hx, hb, hml, hr, hown, hts, hlk, hT, hE, hB⟩ := C
  intro j hj L S M h H locs ls hP hS hl
  unfold ai_zret at h
  split at h
  · next x =>
    refine W.zret (hlocks := hlk) hx hb (hr.trans hy) ?_ (fun t ht _ => ⟨⟨some (.int x), M, rfl, h.2, by rw [ht]; exact hP⟩, hS.F ht⟩) hS.2.2 hd
    rcases h.1 with q | q <;> rw [q] <;> rfl
  · cases h
theorem as_lret (C : am_C G Y p s m args meth c) (hy : Y.2.2.2 = some .long) (hd : decode Y.2.1 pc = .ok (.lreturn, 1)) : am_S (am_J G Y p e R s m args below meth c (am_Z G K s args below) 0 0) K pc ai_lret := by
  obtain ⟨hG, hx, hb, hml, hr, hown, hts, hlk, hT, hE, hB⟩ := C
  intro j hj L S M h H locs ls hP hS hl
  unfold ai_lret at h
  split at h
  · next x => exact W.lret (hlocks := hlk) hx hb (hr.trans hy) (fun t ht _ => ⟨⟨some (.long x), M, rfl, h, by rw [ht]; exact hP⟩, hS.F ht⟩) hS.2.2 hd
  · cases h
theorem as_vret (C : am_C G Y p s m args meth c) (hy : Y.2.2.2 = none) (hd : decode Y.2.1 pc = .ok (.return_, 1)) : am_S (am_J G Y p e R s m args below meth c (am_Z G K s args below) 0 0) K pc ai_vret := by
  obtain ⟨hG, hx, hb, hml, hr, hown, hts, hlk, hT, hE, hB⟩ := C
  intro j hj L S M h H locs ls hP hS hl
  unfold ai_vret at h
  split at h
  · exact W.vret (hlocks := hlk) hx hb (hr.trans hy) (fun t ht _ => ⟨⟨none, M, rfl, h, by rw [ht]; exact hP⟩, hS.F ht⟩) hS.2.2 hd
  · cases h
end AMR
/-! a method as a whole -/
def am_at : List (Nat × aI) → Nat → aI
  | [], _ => ai_bad
  | q :: r, pc => if pc = q.1 then q.2 else am_at r pc
def am_all (P : Nat → aI → Prop) : List (Nat × aI) → Prop
  | [] => True
  | q :: r => P q.1 q.2 ∧ am_all P r
theorem am_all_at {P : Nat → aI → Prop} (hb : ∀ pc, P pc ai_bad) : ∀ (code : List (Nat × aI)) (pc : Nat), am_all P code → P pc (am_at code pc)
  | [], pc, _ => hb pc
  | q :: r, pc, h => by
    simp only [am_at]
    split
    · next e => rw [e]; exact h.1
    · exact am_all_at hb r pc h.2
def am_X (G : aG) (Y : aY) (d : Nat) (K : aR) : aJ := fun pc L S M => ∀ (p : Program) (e : Env) (s : State) (m : MethodId) (args : Array Value) (below : List Frame) (meth : Method) (c : Code), am_C G Y p s m args meth c → am_J G Y p e (am_room d) s m args below meth c (am_Z G K s args below) 0 0 pc L S M
def am_tab (G : aG) (Y : aY) (d : Nat) (code : List (Nat × aI)) : Prop := ∀ (K : aR) (p : Program) (e : Env) (s : State) (m : MethodId) (args : Array Value) (below : List Frame) (meth : Method) (c : Code), am_C G Y p s m args meth c → am_all (fun pc i => am_S (am_J G Y p e (am_room d) s m args below meth c (am_Z G K s args below) 0 0) K pc i) code
def am_run (code : List (Nat × aI)) (cuts : List Nat) (J : aJ) (K : aR) : Nat → aJ
  | 0 => fun _ _ _ _ => False
  | n + 1 => fun pc L S M => if cuts.contains pc = true then J pc L S M else am_at code pc (am_run code cuts J K n) K pc L S M
theorem am_step {G : aG} {Y : aY} {d : Nat} {code : List (Nat × aI)} (hT : am_tab G Y d code) {K : aR} {j : aJ} (hj : ∀ pc L S M, j pc L S M → am_X G Y d K pc L S M) {pc : Nat} {L : aL} {S : List Value} {M : aM} (h : am_at code pc j K pc L S M) : am_X G Y d K pc L S M := by
  intro p e s m args below meth c C
  exact am_all_at (P := fun pc i => am_S (am_J G Y p e (am_room d) s m args below meth c (am_Z G K s args below) 0 0) K pc i) (fun pc j hj L S M h => h.elim) code pc (hT K p e s m args below meth c C) j (fun pc L S M q => hj pc L S M q p e s m args below meth c C) L S M h
theorem am_go {G : aG} {Y : aY} {d : Nat} {code : List (Nat × aI)} (hT : am_tab G Y d code) {K : aR} {cuts : List Nat} : ∀ (n pc : Nat) (L : aL) (S : List Value) (M : aM), am_run code cuts (am_X G Y d K) K n pc L S M → am_X G Y d K pc L S M
  | 0, _, _, _, _, h => h.elim
  | n + 1, pc, L, S, M, h => by
    simp only [am_run] at h
    split at h
    · exact h
    · exact am_step hT (am_go hT n) h
/-- from a cut on -/
theorem am_from {G : aG} {Y : aY} {d : Nat} {code : List (Nat × aI)} (hT : am_tab G Y d code) {K : aR} (cuts : List Nat) (n : Nat) {pc : Nat} {L : aL} {S : List Value} {M : aM} (h : am_at code pc (am_run code cuts (am_X G Y d K) K n) K pc L S M) : am_X G Y d K pc L S M := am_step hT (am_go hT n) h
/-- the locals at the start -/
def am_l0 : Nat → List Value → aL
  | n, [] => List.replicate n none
  | 0, _ :: _ => []
  | n + 1, v :: r => some v :: (if am_c1 v = true then am_l0 n r else none :: am_l0 (n - 1) r)
theorem am_l0_in (ad : Nat → Nat) : ∀ (As : List Value) (n i k : Nat) (v : Value), (am_l0 n As)[k]? = some (some v) → (i + k, am_v ad v) ∈ lv_args i (As.map (am_v ad))
  | [], n, i, k, v, h => by
    simp only [am_l0, List.getElem?_replicate] at h
    split at h
    · cases h
    · cases h
  | a :: r, 0, i, k, v, h => by simp [am_l0] at h
  | a :: r, n + 1, i, k, v, h => by
    simp only [am_l0] at h
    simp only [List.map_cons, lv_args, List.mem_cons]
    cases k with
    | zero =>
      simp at h
      left
      rw [h]; rfl
    | succ k =>
      right
      rw [List.getElem?_cons_succ] at h
      by_cases hc : am_c1 a = true
      · rw [if_pos hc] at h
        rw [if_neg (by rw [am_c1_cat ad hc]; decide), show i + (k + 1) = i + 1 + k by omega]
        exact am_l0_in ad r n (i + 1) k v h
      · rw [if_neg hc] at h
        have h2 : (am_v ad a).category = 2 := by cases a <;> first | rfl | (exact absurd rfl hc)
        rw [if_pos h2]
        cases k with
        | zero => simp at h
        | succ k =>
          rw [List.getElem?_cons_succ] at h
          rw [show i + (k + 1 + 1) = i + 2 + k by omega]
          exact am_l0_in ad r (n - 1) (i + 2) k v h
theorem am_entry {G : aG} {Y : aY} {d : Nat} {K : aR} {As : List Value} {M : aM} (hG : am_ok G) (hy : plainName Y.1.cls = true) (hl : (lg_sl (As.map (am_v (g_a G)))).length ≤ Y.2.2.1) (h : am_X G Y d K 0 (am_l0 Y.2.2.1 As) [] M) : am_Met G Y d As M K := by
  intro sz
  refine Met.ofW (cc := Y.2.1) (maxL := Y.2.2.1) (ret := Y.2.2.2) hy rfl ?_
  intro p e s m args below meth c s₁ B hml hv
  obtain ⟨rfl, hsz, hP, hT, hE, hB⟩ := hv
  subst hsz
  have hts := atoms_spec (ws := am_wd Y) B.pre
  have hown : s.vm.findClass Y.1.cls = some m.cls := findClass_of_methodNamed B.named
  have C : am_C G Y p s m _ meth c := ⟨hG, B.exec, B.bytes, hml, B.returns, hown, fun w hw => hts w (List.mem_cons_of_mem _ hw), B.notSynchronized, hT, hE, hB⟩
  have hl0 := lv_entry (As.map (am_v (g_a G))) (n := Y.2.2.1) hl
  rw [lg_entry_eq]
  exact h p e s m _ below meth c C s.heap [] _ hP va_S.rf ⟨hl0.1, hl0.2.1, fun k v hk => hl0.2.2 _ (by simpa using am_l0_in (g_a G) As Y.2.2.1 0 k v hk)⟩
theorem am_rm_of {d d1 n : Nat} (h : d1 < d) (hn : n ≤ 21) : am_rm (am_room d) d1 n 0 0 := ⟨h, by show 8 + (n + 11) + 40 * d1 ≤ 40 * d; omega, Nat.le_refl 0, Nat.le_refl 0⟩
theorem hm_1000 (G : aG) : (1000, 5, QF) ∈ am_XA G := List.mem_cons_self
theorem hm_1001 (G : aG) : (1001, g_n G, g_x G) ∈ am_XA G := List.mem_cons_of_mem _ List.mem_cons_self
theorem li_10 : ((1 : Int32) = 0) = False := eq_false (by decide)
