/-! CONSTRUCTORS: straight lines; the world is a list of cells, new ones are put behind it -/
def ic_C (G : aG) (Y : aY) (A : Nat → Prop) (p : Program) (s : State) (m : MethodId) (args : Array Value) (meth : Method) (c : Code) (ls : Array Slot) : Prop :=
  p.tables.exec = Jvm.exec ∧ c.code = Y.2.1 ∧ c.maxLocals = Y.2.2.1 ∧ meth.sig.returnType = Y.2.2.2 ∧ s.vm.findClass Y.1.cls = some m.cls ∧ (∀ w ∈ TB, w.before args s = true) ∧ meth.locks = false ∧ am_T G s ∧ am_E G (g_B G) s s.heap ∧ (∀ q, A q → g_B G q) ∧ (∀ q, s.heap.size ≤ q → A q) ∧ ls.size = Y.2.2.1
def ic_J (G : aG) (A : Nat → Prop) (p : Program) (e : Env) (R : Room) (s : State) (m : MethodId) (args : Array Value) (below : List Frame) (meth : Method) (c : Code) (ls : Array Slot) (Q : State → Prop) (pc : Nat) (st : List Value) (ws : va_W) (kc ks : Nat) : Prop :=
  ∀ (H : Heap) (locs : List Loc), va_P (g_D G) CL ws H → va_D A ws → va_S A s.heap H locs → W p (g_l G) e R s m args below meth c H locs kc ks Q (F0 m pc ls st)
def ic_room (d mc ms : Nat) : Room := { frames := d, cells := mc, slots := ms, locals := 40 * d }
def ic_P (G : aG) (ws : va_W) (sz : Nat) (U : State) : Prop := U.heap.size = sz ∧ va_P (g_D G) CL ws U.heap ∧ am_T G U ∧ am_E G (g_B G) U U.heap ∧ (∀ q, sz ≤ q → g_B G q) ∧ va_D (g_B G) ws
theorem ic_P.calling {G : aG} {ws : va_W} {sz : Nat} {U : State} {g : JFrame} {mk : MethodId} {a : Array Value} (h : ic_P G ws sz U) : ic_P G ws sz (U.calling g mk a) := by
  obtain ⟨h1, h2, h3, h4, h5, h6⟩ := h
  refine ⟨h1, h2, ⟨va_K.moved (u := U) (U := U.calling g mk a) (Vm.Alike.refl U.vm) h3.1, fun w hw => ⟨(h3.2.1 w hw).1, ?_⟩, vk_R.same (u := U) rfl h3.2.2⟩, am_E.moved (u := U) (U := U.calling g mk a) (Vm.Alike.refl U.vm) h4, h5, h6⟩
  have hn := (h3.2.1 w hw).1
  exact va_Nw.same (u := U) (by cases w <;> first | (cases hn; done) | rfl) rfl (h3.2.1 w hw).2
def ic_Q (G : aG) (x : Nat × va_E) (sz : Nat) (wf : (Nat → Nat) → va_W) : Array Value → State → Outcome → State → Prop := va_Qv (fun _ : Nat → Nat => True) (fun u t => va_P (g_D G) CL (wf u) t.heap ∧ va_D (va_A [x] sz) (wf u)) (va_A [x] sz)
def ic_Met (G : aG) (Z : aY) (d mc ms ci : Nat) (fs0 As : List Value) (wf : Nat → (Nat → Nat) → va_W) : Prop := ∀ h0 sz : Nat, Met (g_l G) Z.1 (am_wd Z) (ic_room d mc ms) (va_Pc (.ref h0 :: As) (ic_P G [(h0, .inr (ci, fs0))] sz)) (ic_Q G (h0, .inr (ci, fs0)) sz (wf h0)) mc ms (va_A [(h0, .inr (ci, fs0))] sz)
theorem ic_fm {α : Type} {f : Nat → Option α} : ∀ {is : List Nat} {l : List α}, is.map f = l.map some → is.filterMap f = l
  | [], [], _ => rfl
  | [], _ :: _, h => by cases h
  | _ :: _, [], h => by cases h
  | i :: is, x :: l, h => by
    simp only [List.map_cons, List.cons.injEq] at h
    rw [List.filterMap_cons, h.1]
    simp only [ic_fm h.2]
section ICR
variable {G : aG} {Y : aY} {A : Nat → Prop} {p : Program} {e : Env} {R : Room} {s : State} {m : MethodId} {args : Array Value} {below : List Frame} {meth : Method} {c : Code} {ls : Array Slot} {Q : State → Prop} {pc nx kc ks : Nat} {st : List Value} {ws : va_W}
theorem ic_aload (C : ic_C G Y A p s m args meth c ls) {q : Fin 4} {k a : Nat} (hd : decode Y.2.1 pc = .ok (.aload_n q, 1)) (hk : (q : Nat) = k) (hl : ls[k]? = some (.val (.ref a))) (hn : nx = pc + 1) (kk : ic_J G A p e R s m args below meth c ls Q nx (.ref a :: st) ws kc ks) : ic_J G A p e R s m args below meth c ls Q pc st ws kc ks := by
  obtain ⟨hx, hb, hml, hr, hown, hts, hlk, hT, hE, hB, hA, hz⟩ := C
  subst hn
  intro H locs hP hD hS
  exact lv_aload_n hx hb hd hk hl (kk H locs hP hD hS)
theorem ic_iconst (C : ic_C G Y A p s m args meth c ls) {n : Int} {v : Int32} (hd : decode Y.2.1 pc = .ok (.iconst n, 1)) (hv : Int32.ofInt n = v) (hn : nx = pc + 1) (kk : ic_J G A p e R s m args below meth c ls Q nx (.int v :: st) ws kc ks) : ic_J G A p e R s m args below meth c ls Q pc st ws kc ks := by
  obtain ⟨hx, hb, hml, hr, hown, hts, hlk, hT, hE, hB, hA, hz⟩ := C
  subst hn
  intro H locs hP hD hS
  exact lv_iconst hx hb hd hv (kk H locs hP hD hS)
theorem ic_bipush (C : ic_C G Y A p s m args meth c ls) {n : Int} {v : Int32} (hd : decode Y.2.1 pc = .ok (.bipush n, 2)) (hv : (Int8.ofInt n).toInt32 = v) (hn : nx = pc + 2) (kk : ic_J G A p e R s m args below meth c ls Q nx (.int v :: st) ws kc ks) : ic_J G A p e R s m args below meth c ls Q pc st ws kc ks := by
  obtain ⟨hx, hb, hml, hr, hown, hts, hlk, hT, hE, hB, hA, hz⟩ := C
  subst hn
  intro H locs hP hD hS
  exact lv_bipush hx hb hd hv (kk H locs hP hD hS)
theorem ic_sipush (C : ic_C G Y A p s m args meth c ls) {n : Int} {v : Int32} (hd : decode Y.2.1 pc = .ok (.sipush n, 3)) (hv : (Int16.ofInt n).toInt32 = v) (hn : nx = pc + 3) (kk : ic_J G A p e R s m args below meth c ls Q nx (.int v :: st) ws kc ks) : ic_J G A p e R s m args below meth c ls Q pc st ws kc ks := by
  obtain ⟨hx, hb, hml, hr, hown, hts, hlk, hT, hE, hB, hA, hz⟩ := C
  subst hn
  intro H locs hP hD hS
  exact lv_sipush hx hb hd hv (kk H locs hP hD hS)
theorem ic_dup (C : ic_C G Y A p s m args meth c ls) {a : Nat} (hd : decode Y.2.1 pc = .ok (.dup, 1)) (hn : nx = pc + 1) (kk : ic_J G A p e R s m args below meth c ls Q nx (.ref a :: .ref a :: st) ws kc ks) : ic_J G A p e R s m args below meth c ls Q pc (.ref a :: st) ws kc ks := by
  obtain ⟨hx, hb, hml, hr, hown, hts, hlk, hT, hE, hB, hA, hz⟩ := C
  subst hn
  intro H locs hP hD hS
  exact lv_dup hx hb hd rfl (kk H locs hP hD hS)
theorem ic_iadd (C : ic_C G Y A p s m args meth c ls) {x y v : Int32} (hd : decode Y.2.1 pc = .ok (.iadd, 1)) (hv : x + y = v) (hn : nx = pc + 1) (kk : ic_J G A p e R s m args below meth c ls Q nx (.int v :: st) ws kc ks) : ic_J G A p e R s m args below meth c ls Q pc (.int y :: .int x :: st) ws kc ks := by
  obtain ⟨hx, hb, hml, hr, hown, hts, hlk, hT, hE, hB, hA, hz⟩ := C
  subst hn
  subst hv
  intro H locs hP hD hS
  exact lv_iadd hx hb hd (kk H locs hP hD hS)
theorem ic_objInit (C : ic_C G Y A p s m args meth c ls) {ix a : Nat} (hlink : Cond.methodLink Y.1.cls ix Lib.objectInit ∈ TB) (hinst : Cond.instanceMethod Lib.objectInit ∈ TB) (hcode : Cond.code Lib.objectInit ⟨#[0xb1]⟩ 1 none ∈ TB) (hf : 1 ≤ R.frames) (hlo : 12 ≤ R.locals) (hd : decode Y.2.1 pc = .ok (.invokespecial ix, 3)) (hn : nx = pc + 3) (kk : ic_J G A p e R s m args below meth c ls Q nx [] ws kc ks) : ic_J G A p e R s m args below meth c ls Q pc [.ref a] ws kc ks := by
  obtain ⟨hx, hb, hml, hr, hown, hts, hlk, hT, hE, hB, hA, hz⟩ := C
  subst hn
  intro H locs hP hD hS
  refine W.objInit hx hb hown (hts _ hlink) (hts _ hinst) (hts _ hcode) rfl (by rw [hml]; exact hz) rfl hd hf (by show 2 * 0 + 0 + 12 ≤ R.locals; omega) ?_
  exact W.eq (g2 := F0 m (pc + 3) ls []) rfl (kk H locs hP hD hS)
theorem ic_newa (C : ic_C G Y A p s m args meth c ls) {n : Int32} {N : Nat} (harr : Cond.arrayClass .int ∈ TB) (hn : ¬ n < 0) (hN : n.toNatClampNeg = N) (hbytes : N * componentBytes .int ≤ 536870912) (hcells : kc + 1 ≤ R.cells) (hslots : ks + N ≤ R.slots) (hd : decode Y.2.1 pc = .ok (.newarray .int, 2)) (hnx : nx = pc + 2) (kk : ∀ q : Nat, ic_J G A p e R s m args below meth c ls Q nx (.ref q :: st) (ws ++ [(q, .inl (g_c G, N, .inl (fun _ => 0)))]) (kc + 1) (ks + N)) : ic_J G A p e R s m args below meth c ls Q pc (.int n :: st) ws kc ks := by
  obtain ⟨hx, hb, hml, hr, hown, hts, hlk, hT, hE, hB, hA, hz⟩ := C
  subst hnx
  intro H locs hP hD hS
  refine va_newa (a0 := (N, .inl (fun _ => 0))) hx hb (atype := .int) (hts _ harr) rfl hT.1 hP hD hS hA (fun cA => rfl) hn hN hbytes hcells hslots hd (fun q cA H1 hK1 hP1 hD1 hS1 => ?_)
  have e1 : s.vm.findClass ("[" ++ FieldType.int.toString) = some (g_c G) := (hT.1.2 0 _ rfl).2
  have e2 : s.vm.findClass ("[" ++ FieldType.int.toString) = some cA := (hK1.2 1 _ rfl).2
  have e3 : cA = g_c G := Option.some.inj (e2.symm.trans e1)
  subst e3
  exact kk q H1 locs hP1 hD1 hS1
theorem ic_new (C : ic_C G Y A p s m args meth c ls) {Cn : String} {T : u_T} {N ci ix : Nat} (ty : Nat → FieldType) {fs : List Value} (hcl : CL[ci]? = some (Cn, T, N)) (hin : ∀ w ∈ u_ws Cn T N, w ∈ TB) (hty : ∀ k, k < N → parseFieldDescriptor (T k).2.2.1 = some (ty k)) (hlink : Cond.classLink Y.1.cls ix Cn ∈ TB) (hinst : Cond.instantiable Cn N ∈ TB) (hini : Cond.initialized Cn ∈ TB) (hfs : ∀ j, j < N → defaultValue (ty j) = vp_V fs j) (hcells : kc + 1 ≤ R.cells) (hslots : ks + N ≤ R.slots) (hd : decode Y.2.1 pc = .ok (.new ix, 3)) (hnx : nx = pc + 3) (kk : ∀ q : Nat, ic_J G A p e R s m args below meth c ls Q nx (.ref q :: st) (ws ++ [(q, .inr (ci, fs))]) (kc + 1) (ks + N)) : ic_J G A p e R s m args below meth c ls Q pc st ws kc ks := by
  obtain ⟨hx, hb, hml, hr, hown, hts, hlk, hT, hE, hB, hA, hz⟩ := C
  subst hnx
  intro H locs hP hD hS
  exact va_new (ci := ci) (fs := fs) hx hb hts hin ty hty hown (hts _ hlink) (hts _ hinst) (hts _ hini) hT.1 hP hD hS hA hcl hfs hcells hslots hd (fun q H1 hP1 hD1 hS1 => kk q H1 locs hP1 hD1 hS1)
theorem ic_putF (C : ic_C G Y A p s m args meth c ls) (hin2 : meth.name = "<init>") {Cn : String} {T : u_T} {N ci ix k a q0 : Nat} (ty0 : Nat → FieldType) {fs : List Value} {v : Value} {ty : FieldType} {ws' : va_W} (hcl : CL[ci]? = some (Cn, T, N)) (hin : ∀ w ∈ u_ws Cn T N, w ∈ TB) (hty : ∀ k, k < N → parseFieldDescriptor (T k).2.2.1 = some (ty0 k)) (hnm : ∀ a, a < N → ∀ b, b < N → a ≠ b → (T a).2.1 ≠ (T b).2.1) (he : ws[q0]? = some (a, .inr (ci, fs))) (hk : k < N) (hdc : (T k).1 = Y.1.cls) (hfi : (T k).2.2.2 = true) (hp : parseFieldDescriptor (T k).2.2.1 = some ty) (hna : narrow ty v = v) (hfit : fits ty v = true) (hlen : k < fs.length) (hlink : Cond.fieldLink Y.1.cls ix Y.1.cls (T k).2.1 (T k).2.2.1 ∈ TB) (hw : ws.set q0 (a, .inr (ci, fs.set k v)) = ws') (hd : decode Y.2.1 pc = .ok (.putfield ix, 3)) (hnx : nx = pc + 3) (kk : ic_J G A p e R s m args below meth c ls Q nx st ws' kc ks) : ic_J G A p e R s m args below meth c ls Q pc (v :: .ref a :: st) ws kc ks := by
  obtain ⟨hx, hb, hml, hr, hown, hts, hlk, hT, hE, hB, hA, hz⟩ := C
  subst hnx
  subst hw
  intro H locs hP hD hS
  exact va_putF hx hb hts hin ty0 hty hnm hown hT.1 hP hD hS q0 he hcl k hk (hts _ hlink) (fun _ h9 => by rw [← hdc]; exact h9) hfi hin2 hdc hp hna hfit hlen hd (fun H1 locs1 hP1 hD1 hS1 => kk H1 locs1 hP1 hD1 hS1)
theorem ic_put (C : ic_C G Y A p s m args meth c ls) {Cn : String} {T : u_T} {N ci ix k a q0 : Nat} (ty0 : Nat → FieldType) {fs : List Value} {v : Value} {ty : FieldType} {ws' : va_W} (hcl : CL[ci]? = some (Cn, T, N)) (hin : ∀ w ∈ u_ws Cn T N, w ∈ TB) (hty : ∀ k, k < N → parseFieldDescriptor (T k).2.2.1 = some (ty0 k)) (hnm : ∀ a, a < N → ∀ b, b < N → a ≠ b → (T a).2.1 ≠ (T b).2.1) (he : ws[q0]? = some (a, .inr (ci, fs))) (hk : k < N) (hdc : (T k).1 = Y.1.cls) (hfi : (T k).2.2.2 = false) (hp : parseFieldDescriptor (T k).2.2.1 = some ty) (hna : narrow ty v = v) (hfit : fits ty v = true) (hlen : k < fs.length) (hlink : Cond.fieldLink Y.1.cls ix Y.1.cls (T k).2.1 (T k).2.2.1 ∈ TB) (hw : ws.set q0 (a, .inr (ci, fs.set k v)) = ws') (hd : decode Y.2.1 pc = .ok (.putfield ix, 3)) (hnx : nx = pc + 3) (kk : ic_J G A p e R s m args below meth c ls Q nx st ws' kc ks) : ic_J G A p e R s m args below meth c ls Q pc (v :: .ref a :: st) ws kc ks := by
  obtain ⟨hx, hb, hml, hr, hown, hts, hlk, hT, hE, hB, hA, hz⟩ := C
  subst hnx
  subst hw
  intro H locs hP hD hS
  exact va_put hx hb hts hin ty0 hty hnm hown hT.1 hP hD hS q0 he hcl k hk (hts _ hlink) (fun _ h9 => by rw [← hdc]; exact h9) hfi hp hna hfit hlen hd (fun H1 locs1 hP1 hD1 hS1 => kk H1 locs1 hP1 hD1 hS1)
theorem ic_get (C : ic_C G Y A p s m args meth c ls) {Cn : String} {T : u_T} {N ci ix k a q0 : Nat} {fs : List Value} {v : Value} (hcl : CL[ci]? = some (Cn, T, N)) (hin : ∀ w ∈ u_ws Cn T N, w ∈ TB) (he : ws[q0]? = some (a, .inr (ci, fs))) (hk : k < N) (hdc : (T k).1 = Y.1.cls) (hv : fs[k]? = some v) (hlink : Cond.fieldLink Y.1.cls ix Y.1.cls (T k).2.1 (T k).2.2.1 ∈ TB) (hd : decode Y.2.1 pc = .ok (.getfield ix, 3)) (hnx : nx = pc + 3) (kk : ic_J G A p e R s m args below meth c ls Q nx (v :: st) ws kc ks) : ic_J G A p e R s m args below meth c ls Q pc (.ref a :: st) ws kc ks := by
  obtain ⟨hx, hb, hml, hr, hown, hts, hlk, hT, hE, hB, hA, hz⟩ := C
  subst hnx
  intro H locs hP hD hS
  exact va_get hx hb hts hin hown hT.1 hP q0 he hcl k hk (hts _ hlink) (fun _ h9 => by rw [← hdc]; exact h9) hv hd (kk H locs hP hD hS)
theorem ic_getsN (C : ic_C G Y A p s m args meth c ls) {ix : Nat} {Cn f d host : String} {v : Value} (hm : (Cn, f, d, v) ∈ XS) (hlink : Cond.fieldLinkNest Y.1.cls ix Cn f d host ∈ NWs) (hd : decode Y.2.1 pc = .ok (.getstatic ix, 3)) (hn : nx = pc + 3) (kk : ic_J G A p e R s m args below meth c ls Q nx (am_v (g_a G) v :: st) ws kc ks) : ic_J G A p e R s m args below meth c ls Q pc st ws kc ks := by
  obtain ⟨hx, hb, hml, hr, hown, hts, hlk, hT, hE, hB, hA, hz⟩ := C
  subst hn
  intro H locs hP hD hS
  exact va_getsN hx hb ((hE.2.1 _ hm).narrow hB) hS hown (va_Nw.use rfl (hT.2.1 _ hlink).2) (fun _ h9 => h9) hd (kk H locs hP hD hS)
theorem ic_xlen (C : ic_C G Y A p s m args meth c ls) {a n : Nat} {f : Nat → Int32} (hm : (a, n, f) ∈ am_XA G) (hd : decode Y.2.1 pc = .ok (.arraylength, 1)) (hn : nx = pc + 1) (kk : ic_J G A p e R s m args below meth c ls Q nx (.int (Int32.ofNat n) :: st) ws kc ks) : ic_J G A p e R s m args below meth c ls Q pc (.ref (g_a G a) :: st) ws kc ks := by
  obtain ⟨hx, hb, hml, hr, hown, hts, hlk, hT, hE, hB, hA, hz⟩ := C
  subst hn
  intro H locs hP hD hS
  exact va_tlen hx hb ((hE.1 _ hm).narrow hB) hS rfl hd (kk H locs hP hD hS)
theorem ic_vret {G : aG} {Y : aY} {x : Nat × va_E} {d mc ms : Nat} {p : Program} {e : Env} {s : State} {m : MethodId} {args : Array Value} {below : List Frame} {meth : Method} {c : Code} {ls : Array Slot} {pc : Nat} {ws : va_W} {wf : (Nat → Nat) → va_W} (C : ic_C G Y (va_A [x] s.heap.size) p s m args meth c ls) (u : Nat → Nat) (hw : wf u = ws) (hy : Y.2.2.2 = none) (hd : decode Y.2.1 pc = .ok (.return_, 1)) : ic_J G (va_A [x] s.heap.size) p e (ic_room d mc ms) s m args below meth c ls (MQ below (ic_Q G x s.heap.size wf) args s mc ms (va_A [x] s.heap.size)) pc [] ws mc ms := by
  obtain ⟨hx, hb, hml, hr, hown, hts, hlk, hT, hE, hB, hA, hz⟩ := C
  subst hw
  intro H locs hP hD hS
  exact W.vret (hlocks := hlk) hx hb (hr.trans hy) (fun t ht _ => ⟨⟨u, rfl, trivial, by rw [ht]; exact hP, hD⟩, hS.F ht⟩) hS.2.2 hd
theorem ic_callN (C : ic_C G Y A p s m args meth c ls) {Z : aY} {d mc ms ci ix n b : Nat} {fs0 As : List Value} {wf : Nat → (Nat → Nat) → va_W} {host : String} {wr : va_W} {st0 : List Value} (hM : ic_Met G Z d mc ms ci fs0 As wf) (hcode : Cond.code Z.1 Z.2.1 Z.2.2.1 none ∈ TB) (hzr : Z.2.2.2 = none) (hini : Cond.initialized Z.1.cls ∈ TB) (hinst : Cond.instanceMethod Z.1 ∈ TB) (hlink : Cond.methodLinkNest Y.1.cls ix Z.1 host ∈ NWs) (hnm : Z.1.name = "<init>")
    (hy : Z.1.cls ≠ "java/lang/invoke/MethodHandle" ∧ Z.1.cls ≠ "java/lang/invoke/VarHandle" ∧ (parseMethodDescriptor Z.1.desc).map (fun d => d.parameters.length) = some n) (hRf : d + 1 ≤ R.frames) (hRl : 8 + (Z.2.2.1 + 11) + 40 * d ≤ R.locals) (hRc : kc + mc ≤ R.cells) (hRs : ks + ms ≤ R.slots) (hn : As.length = n) (hst0 : st0 = As.reverse ++ .ref b :: st) (hfew : (st.map fun v => v.category).sum ≤ 8) (isC isR : List Nat) (hC : isC.map (fun i => ws[i]?) = [(b, .inr (ci, fs0))].map some) (hndC : va_nd isC = true) (hR : isR.map (fun i => ws[i]?) = wr.map some) (hnd : va_nd isR = true) (hdis : ∀ i ∈ isR, i ∉ isC) (hd : decode Y.2.1 pc = .ok (.invokespecial ix, 3)) (hnx : nx = pc + 3)
    (kk : ∀ u : Nat → Nat, ic_J G A p e R s m args below meth c ls Q nx st (wr ++ wf b u) (kc + mc) (ks + ms)) : ic_J G A p e R s m args below meth c ls Q pc st0 ws kc ks := by
  obtain ⟨hx, hb, hml, hr, hown, hts, hlk, hT, hE, hB, hA, hz⟩ := C
  subst hnx
  subst hst0
  intro H locs hP hD hS
  have hPc := va_P.sub (ws' := [(b, .inr (ci, fs0))]) hP isC (ic_fm hC)
  have hDc := hD.sub (ws' := [(b, .inr (ci, fs0))]) isC hndC hC
  have hFc := va_free (wc := [(b, .inr (ci, fs0))]) hD hS hA isC hC
  refine va_callv (va_runIN (As := As) (rest := st) ⟨hx, hb, hml, hown, hts⟩ (hM b H.size) ⟨va_cnB n hts (by rw [← hzr] at hcode; exact am_good Z hcode) (by rw [← hzr]; rfl) rfl rfl (hT.2.1 _ hlink).2 (hts _ hini) hy ⟨hRf, hRl⟩, hnm, hts _ hinst⟩ ⟨fun a U g mk q => ⟨q.1, q.2.calling⟩, fun U hU hW => ⟨rfl, by rw [hU], by rw [hU]; exact hPc, hT.warm hW, ?_, ?_, ?_⟩⟩ rfl hn hz rfl (lv_room hfew) hd ⟨hRc, hRs⟩) hS (fun q _ h => hFc q h) hFc (fun u t H1 locs1 ht hvm _ hBB hz1 hk1 hS1 => ?_)
  · rw [hU]
    exact (hE.kept (fun a h1 h2 => hS.2.1 a h1 (fun z => h2 (hB a z)))).moved hW.alike
  · exact fun q hq => hB q (hA q (Nat.le_trans hS.1 hq))
  · exact hDc.weaken (fun k q h1 h2 => hB _ h2)
  · obtain ⟨hP1, hD1⟩ := hBB
    rw [ht] at hP1
    obtain ⟨hP2, hD2⟩ := va_join (wr := wr) (w1 := wf b u) hP hD isC isR hC hR hnd hdis hk1 hFc hP1 hD1
    exact kk u H1 locs1 hP2 hD2 hS1
theorem ic_copy (C : ic_C G Y A p s m args meth c ls) {a0 n0 ix a q1 n1 k : Nat} {f g : Nat → Int32} {n : Int32} {ws' : va_W} (hm : (a0, n0, f) ∈ am_XA G) (hlink : Cond.methodLink Y.1.cls ix arraycopyName ∈ TB) (hnat : Cond.native arraycopyName ∈ TB) (hstat : Cond.static arraycopyName ∈ TB) (hini : Cond.initialized "java/lang/System" ∈ TB) (he : ws[q1]? = some (a, .inl (g_c G, n1, .inl g))) (h3 : ¬ n < 0) (hk : n.toNatClampNeg = k) (h4 : k ≤ n0) (h5 : k ≤ n1) (hf : 1 ≤ R.frames) (hlo : nativeFrameWords "java/lang/System" "arraycopy" 5 + 11 ≤ R.locals) (hw : ws.set q1 (a, .inl (g_c G, n1, .inl (va_cpy f g 0 0 k))) = ws') (hd : decode Y.2.1 pc = .ok (.invokestatic ix, 3)) (hnx : nx = pc + 3) (kk : ic_J G A p e R s m args below meth c ls Q nx [] ws' kc ks) : ic_J G A p e R s m args below meth c ls Q pc [.int n, .int 0, .ref a, .int 0, .ref (g_a G a0)] ws kc ks := by
  obtain ⟨hx, hb, hml, hr, hown, hts, hlk, hT, hE, hB, hA, hz⟩ := C
  subst hnx
  subst hw
  subst hk
  intro H locs hP hD hS T hTH X
  have z0 : (0 : Int32).toNatClampNeg = 0 := rfl
  have hni : n.toInt = (n.toNatClampNeg : Int) := by
    have h0 := Int32.le_iff_toInt_le.mp (Int32.not_lt.mp h3)
    have h1 : (0 : Int) ≤ n.toInt := by simpa using h0
    show n.toInt = ((n.toInt.toNat : Nat) : Int)
    omega
  obtain ⟨scr, hs1, ⟨hs6, k0, hk0, cm0, hkk0⟩, hs3, hs4, -, hs5, hs7⟩ := (hE.1 _ hm).narrow hB
  have hs4 : n0 ≤ scr.slots.size := hs4
  have hs5 : ∀ j : Nat, j < n0 → scr.slots[j]? = some (.int (f j)) := hs5
  have hc0 : H[g_a G a0]? = some scr := by rw [hS.2.1 _ (Array.getElem?_eq_some_iff.mp hs1).1 hs7]; exact hs1
  have hc1 : H[a]? = some (vp_cell (g_c G) (n1, .inl g)) := hP q1 _ he
  obtain ⟨-, k1, hk1, cm1, hkk1⟩ := (hT.1.2 0 _ rfl).1 n1 (fun j => .int (g j))
  obtain ⟨vm1, X1, step⟩ := X.arraycopy hx hown (hts _ hlink) (hts _ hnat) (hts _ hstat) (hts _ hini) (src := g_a G a0) (dst := a) (cs := scr) (cd := vp_cell (g_c G) (n1, .inl g)) (srcPos := 0) (destPos := 0) (n := n) (by rw [hTH]; exact hc0) (by rw [hTH]; exact hc1)
    hs6 (fun _ h => by cases h) hs3 (fun h => by cases h) hk0 hk1 hkk0 hkk1 (by simp [refKind]) (by decide) (by decide) h3
    (by rw [hni]; simp only [Int32.toInt_zero]; omega)
    (by rw [hni]; simp only [Int32.toInt_zero]; show ¬ _ > ((arrV (g_c G) n1 (fun j => .int (g j))).slots.size : Int); rw [arrV_size]; omega)
    (fun vm₁ _ i hi => by
      have e : scr.slots.getD ((0 : Int32).toNatClampNeg + i) .null = .int (f ((0 : Int32).toNatClampNeg + i)) := by
        rw [Array.getD_eq_getD_getElem?, hs5 _ (by rw [z0]; omega)]
        rfl
      rw [e]
      exact ⟨rfl, trivial⟩)
    (g := F0 m pc ls [.int n, .int 0, .ref a, .int 0, .ref (g_a G a0)]) rfl (by rw [hml]; exact hz) (rest := []) rfl (by rw [hb]; exact hd) hf (by show 2 * 0 + 0 + _ ≤ _; omega)
  have e1 : copied scr (vp_cell (g_c G) (n1, .inl g)) 0 0 n = vp_cell (g_c G) (n1, .inl (va_cpy f g 0 0 n.toNatClampNeg)) := va_copiedX (fun z => .int z) scr (g_c G) (sp := 0) (dp := 0) f g hs5 (by omega : 0 + n.toNatClampNeg ≤ n0)
  rw [e1] at X1 step
  have hl : a < H.size := (Array.getElem?_eq_some_iff.mp hc1).1
  have oq : ∀ q : Nat, q ≠ a → (H.setIfInBounds a (vp_cell (g_c G) (n1, .inl (va_cpy f g 0 0 n.toNatClampNeg))))[q]? = H[q]? := fun q hq => by simp [Array.getElem?_setIfInBounds, Ne.symm hq]
  obtain ⟨t, a1, b1⟩ := kk _ _ (hP.set hD he (show (H.setIfInBounds a _)[a]? = some _ by simp [Array.getElem?_setIfInBounds, hl]) oq) (hD.set he) ⟨by simp; exact hS.1, fun q g1 g2 => by
      rw [oq q (fun e => g2 (by rw [e]; exact hD.2 q1 _ he))]
      exact hS.2.1 q g1 g2, fun q hq => by
      rcases List.mem_append.mp hq with h | h
      · exact hS.2.2 q h
      · obtain ⟨z, -, hz⟩ := List.mem_map.mp h
        rw [← hz]
        exact hD.2 q1 _ he⟩ _ (show ((T.setVm vm1).setCell a (vp_cell (g_c G) (n1, .inl (va_cpy f g 0 0 n.toNatClampNeg)))).heap = _ by rw [← hTH]; rfl) X1
  exact ⟨t, step t a1, b1⟩
theorem ic_call (C : ic_C G Y A p s m args meth c ls) {Z : aY} {d mc ms ci ix n b : Nat} {fs0 As : List Value} {wf : Nat → (Nat → Nat) → va_W} {wr : va_W} {st0 : List Value} (hM : ic_Met G Z d mc ms ci fs0 As wf) (hcode : Cond.code Z.1 Z.2.1 Z.2.2.1 none ∈ TB) (hzr : Z.2.2.2 = none) (hini : Cond.initialized Z.1.cls ∈ TB) (hinst : Cond.instanceMethod Z.1 ∈ TB) (hlink : Cond.methodLink Y.1.cls ix Z.1 ∈ TB) (hnm : Z.1.name = "<init>")
    (hy : Z.1.cls ≠ "java/lang/invoke/MethodHandle" ∧ Z.1.cls ≠ "java/lang/invoke/VarHandle" ∧ (parseMethodDescriptor Z.1.desc).map (fun d => d.parameters.length) = some n) (hRf : d + 1 ≤ R.frames) (hRl : 8 + (Z.2.2.1 + 11) + 40 * d ≤ R.locals) (hRc : kc + mc ≤ R.cells) (hRs : ks + ms ≤ R.slots) (hn : As.length = n) (hst0 : st0 = As.reverse ++ .ref b :: st) (hfew : (st.map fun v => v.category).sum ≤ 8) (isC isR : List Nat) (hC : isC.map (fun i => ws[i]?) = [(b, .inr (ci, fs0))].map some) (hndC : va_nd isC = true) (hR : isR.map (fun i => ws[i]?) = wr.map some) (hnd : va_nd isR = true) (hdis : ∀ i ∈ isR, i ∉ isC) (hd : decode Y.2.1 pc = .ok (.invokespecial ix, 3)) (hnx : nx = pc + 3)
    (kk : ∀ u : Nat → Nat, ic_J G A p e R s m args below meth c ls Q nx st (wr ++ wf b u) (kc + mc) (ks + ms)) : ic_J G A p e R s m args below meth c ls Q pc st0 ws kc ks := by
  obtain ⟨hx, hb, hml, hr, hown, hts, hlk, hT, hE, hB, hA, hz⟩ := C
  subst hnx
  subst hst0
  intro H locs hP hD hS
  have hPc := va_P.sub (ws' := [(b, .inr (ci, fs0))]) hP isC (ic_fm hC)
  have hDc := hD.sub (ws' := [(b, .inr (ci, fs0))]) isC hndC hC
  have hFc := va_free (wc := [(b, .inr (ci, fs0))]) hD hS hA isC hC
  refine va_callv (va_runI (As := As) (rest := st) ⟨hx, hb, hml, hown, hts⟩ (hM b H.size) (cwI n hts (by rw [← hzr] at hcode; exact am_good Z hcode) (by rw [← hzr]; rfl) rfl rfl (hts _ hini) (hts _ hlink) (hts _ hinst) hnm hy ⟨hRf, hRl⟩) ⟨fun a U g mk q => ⟨q.1, q.2.calling⟩, fun U hU hW => ⟨rfl, by rw [hU], by rw [hU]; exact hPc, hT.warm hW, ?_, ?_, ?_⟩⟩ rfl hn hz rfl (lv_room hfew) hd ⟨hRc, hRs⟩) hS (fun q _ h => hFc q h) hFc (fun u t H1 locs1 ht hvm _ hBB hz1 hk1 hS1 => ?_)
  · rw [hU]
    exact (hE.kept (fun a h1 h2 => hS.2.1 a h1 (fun z => h2 (hB a z)))).moved hW.alike
  · exact fun q hq => hB q (hA q (Nat.le_trans hS.1 hq))
  · exact hDc.weaken (fun k q h1 h2 => hB _ h2)
  · obtain ⟨hP1, hD1⟩ := hBB
    rw [ht] at hP1
    obtain ⟨hP2, hD2⟩ := va_join (wr := wr) (w1 := wf b u) hP hD isC isR hC hR hnd hdis hk1 hFc hP1 hD1
    exact kk u H1 locs1 hP2 hD2 hS1
end ICR
/-- a constructor from its entry -/
theorem ic_entry {G : aG} {Z : aY} {d mc ms ci : Nat} {fs0 As : List Value} {wf : Nat → (Nat → Nat) → va_W} (hy : plainName Z.1.cls = true) (hnm : Z.1.name = "<init>") (hl : ∀ h0, (lg_sl (.ref h0 :: As)).length ≤ Z.2.2.1)
    (h : ∀ (h0 : Nat) (p : Program) (e : Env) (s : State) (m : MethodId) (args : Array Value) (below : List Frame) (meth : Method) (c : Code) (ls : Array Slot), ic_C G Z (va_A [(h0, .inr (ci, fs0))] s.heap.size) p s m args meth c ls → meth.name = "<init>" → lv_has ls Z.2.2.1 (lv_args 0 (.ref h0 :: As)) → ic_J G (va_A [(h0, .inr (ci, fs0))] s.heap.size) p e (ic_room d mc ms) s m args below meth c ls (MQ below (ic_Q G (h0, .inr (ci, fs0)) s.heap.size (wf h0)) args s mc ms (va_A [(h0, .inr (ci, fs0))] s.heap.size)) 0 [] [(h0, .inr (ci, fs0))] 0 0) : ic_Met G Z d mc ms ci fs0 As wf := by
  intro h0 sz
  refine Met.ofW (cc := Z.2.1) (maxL := Z.2.2.1) (ret := Z.2.2.2) hy rfl ?_
  intro p e s m args below meth c s₁ B hml hv
  obtain ⟨rfl, hsz, hP, hT, hE, hB, hD0⟩ := hv
  subst hsz
  have hts := atoms_spec (ws := am_wd Z) B.pre
  have hown : s.vm.findClass Z.1.cls = some m.cls := findClass_of_methodNamed B.named
  have hin : meth.name = "<init>" := ((name_of_methodNamed B.named B.method).1).trans hnm
  have hl0 := lv_entry (.ref h0 :: As) (n := Z.2.2.1) (hl h0)
  rw [lg_entry_eq]
  refine h h0 p e s m _ below meth c _ ⟨B.exec, B.bytes, hml, B.returns, hown, fun w hw => hts w (List.mem_cons_of_mem _ hw), B.notSynchronized, hT, hE, ?_, fun q hq => Or.inr hq, hl0.1⟩ hin hl0 s.heap [] hP (hD0.self) va_S.rf
  rintro q (⟨k, x, hk⟩ | hq)
  · exact hD0.2 k _ hk
  · exact hB q hq
