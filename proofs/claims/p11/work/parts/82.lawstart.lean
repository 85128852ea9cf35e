/-! printed by wip/gen/lawstart.py: the law up to its loop -/
def M0 : aM := fun i => match i with
  | 3 => fun j => if j = 9 then 5 else 0
  | 10 => va_cpy QF (fun _ => 0) 0 0 5
  | 11 => fun j => if j = 4 then -1 else 0
  | 19 => fun j => if j = 4 then -1 else 0
  | _ => fun _ => 0
theorem am_E_of {G : aG} {B : Nat → Prop} {U : State} {H : Heap} (h1 : va_T .int (g_a G 1000) 5 (fun j => .int (QF j)) B U H) (h2 : va_T .int (g_a G 1001) (g_n G) (fun j => .int (g_x G j)) B U H) (h3 : va_Z "DatumDesk" "QUOTE" "[I" (.ref (g_a G 1000)) B U H) (h4 : am_str G B U H) : am_E G B U H := by
  refine ⟨fun q hq => ?_, fun q hq => ?_, h4⟩
  · unfold am_XA at hq
    simp only [List.mem_cons, List.not_mem_nil, or_false] at hq
    rcases hq with rfl | rfl
    · exact h1
    · exact h2
  · unfold XS at hq
    simp only [List.mem_cons, List.not_mem_nil, or_false] at hq
    subst hq
    exact h3
theorem am_ok_of {G : aG} {M : aM} {A : Nat → Prop} (h : va_D A (am_W G M)) (hA : ∀ q, A q → g_B G q) : am_ok G := ⟨fun i j hi hj e => h.1 i j _ _ (am_W_get (List.getElem?_eq_getElem hi)) (am_W_get (List.getElem?_eq_getElem hj)) e, fun i hi => hA _ (h.2 i _ (am_W_get (List.getElem?_eq_getElem hi)))⟩
def G_at (l : Launch) (D : va_G) (cI : ClassId) (ad : Nat → Nat) (z L : Nat) (xs : Nat → Int32) : aG := (l, D, cI, ad, (fun q => z ≤ q), L, xs)
def ad_1 (aQ b aS aV aF hD hM : Nat) (u v : Nat → Nat) : Nat → Nat := fun i => match i with
  | 0 => hD
  | 19 => hM
  | 1000 => aQ
  | 1001 => b
  | 1002 => aS
  | 1003 => aV
  | 1004 => aF
  | i => if i < 19 then u i else v i
set_option maxRecDepth 20000 in
set_option maxHeartbeats 4000000 in
theorem law_start {p : Program} {e : Env} {s : State} {m : MethodId} {below : List Frame} {meth : Method} {c : Code} (l : Launch) {b L : Nat} {xs : Nat → Int32} (C0 : lw_At p s m meth c b L xs)
    (hloop : ∀ G : aG, am_C G Y_Law p s m #[Value.ref b] meth c → (∀ q, g_B G q → s.heap.size ≤ q) → g_n G = L → g_x G = xs → g_l G = l → am_J G Y_Law p e room_1 s m #[Value.ref b] below meth c (lw_Z below #[Value.ref b] s) 33 10545 18 [some (.ref 1001), some (.ref 0), some (.ref 19), some (.int 0)] [] M0) : W p l e room_1 s m #[Value.ref b] below meth c s.heap [] 0 0 (lw_Z below #[Value.ref b] s) (entryFrame m ([Value.ref b] : List Value).toArray 4) := by
  obtain ⟨hx, hb, hr, hml, hown, hts, hX, hbl, hlk, hgv⟩ := id C0
  have htb : ∀ w ∈ TB, w.before #[Value.ref b] s = true := fun w hw => hts w (List.mem_filter.mp hw).1
  obtain ⟨c0, iS0, hKn0⟩ := u_known (C := "DatumDesk$Nodes") (T := T_Nodes) (N := 10) (n := 10) htb in_Nodes (htb _ (tb_of 108 rfl rfl))
  obtain ⟨c1, iS1, hKn1⟩ := u_known (C := "DatumDesk$Reader") (T := T_Reader) (N := 5) (n := 5) htb in_Reader (htb _ (tb_of 152 rfl rfl))
  obtain ⟨c2, iS2, hKn2⟩ := u_known (C := "DatumDesk$Text") (T := T_Text) (N := 2) (n := 2) htb in_Text (htb _ (tb_of 93 rfl rfl))
  obtain ⟨c3, iS3, hKn3⟩ := u_known (C := "DatumDesk$Tokens") (T := T_Tokens) (N := 4) (n := 4) htb in_Tokens (htb _ (tb_of 158 rfl rfl))
  obtain ⟨c4, iS4, hKn4⟩ := u_known (C := "DatumDesk$Waiting") (T := T_Waiting) (N := 3) (n := 3) htb in_Waiting (htb _ (tb_of 194 rfl rfl))
  obtain ⟨c5, iS5, hKn5⟩ := u_known (C := "DatumDesk$Writer") (T := T_Writer) (N := 2) (n := 2) htb in_Writer (htb _ (tb_of 211 rfl rfl))
  obtain ⟨c6, iS6, hKn6⟩ := u_known (C := "DatumDesk") (T := T_Desk) (N := 5) (n := 5) htb in_Desk (htb _ (tb_of 85 rfl rfl))
  obtain ⟨c7, iS7, hKn7⟩ := u_known (C := "DatumDeskModel") (T := T_Model) (N := 21) (n := 21) htb in_Model (htb _ (tb_of 512 rfl rfl))
  obtain ⟨D, hKc⟩ : ∃ D : va_G, ∀ (k : Nat) (q : vw_C), CL[k]? = some q → u_Kn s q.1 q.2.1 q.2.2 (D.1 k) (D.2 k) := by
    refine ⟨(fun k => match k with | 0 => c0 | 1 => c1 | 2 => c2 | 3 => c3 | 4 => c4 | 5 => c5 | 6 => c6 | _ => c7, fun k => match k with | 0 => iS0 | 1 => iS1 | 2 => iS2 | 3 => iS3 | 4 => iS4 | 5 => iS5 | 6 => iS6 | _ => iS7), ?_⟩
    intro k q hq
    match k, hq with
    | 0, hq => cases hq; exact hKn0
    | 1, hq => cases hq; exact hKn1
    | 2, hq => cases hq; exact hKn2
    | 3, hq => cases hq; exact hKn3
    | 4, hq => cases hq; exact hKn4
    | 5, hq => cases hq; exact hKn5
    | 6, hq => cases hq; exact hKn6
    | 7, hq => cases hq; exact hKn7
    | k + 8, hq => simp [CL] at hq
  obtain ⟨cI, kI, cm, hc1, hc2, hc3⟩ := Cond.arrayClass_spec (htb _ (tb_of 106 rfl rfl))
  have hK : va_K D CL [(cI, .int)] s := by
    refine ⟨hKc, fun k q hq => ?_⟩
    match k, hq with
    | 0, hq => cases hq; exact ⟨fun n z => ⟨fun k h => (by cases h), kI, hc2, cm, hc3⟩, hc1⟩
    | k + 1, hq => simp at hq
  have hN : ∀ w ∈ NWs, nw_is w = true ∧ va_Nw w s := fun w hw => by
    have h1 := List.mem_filter.mp hw
    refine ⟨h1.2, va_Nw.of ?_ (hts w h1.1)⟩
    have h2 := h1.2
    cases w <;> first | (cases h2; done) | rfl
  have hfl := flat_of_before _ hgv
  obtain ⟨aQ, hQ1, hQ2⟩ := va_Tof (tm := (Jvm.Term.static "DatumDesk" "QUOTE" "[I")) (ty := .int) (N := 5) (f := fun j => .int (QF j)) (A := fun q => s.heap.size ≤ q) (by decide) (hfl _ (by decide +kernel)) (va_eqt (z := 5) (hfl _ (by decide +kernel))) (fun j hj => by
    rcases (show j = 0 ∨ j = 1 ∨ j = 2 ∨ j = 3 ∨ j = 4 by omega) with rfl | rfl | rfl | rfl | rfl
    · exact va_eqt (z := 113) (hfl _ (by decide +kernel))
    · exact va_eqt (z := 117) (hfl _ (by decide +kernel))
    · exact va_eqt (z := 111) (hfl _ (by decide +kernel))
    · exact va_eqt (z := 116) (hfl _ (by decide +kernel))
    · exact va_eqt (z := 101) (hfl _ (by decide +kernel))) (fun a ha hq => by omega)
  have hZ : va_Z "DatumDesk" "QUOTE" "[I" (.ref aQ) (fun q => s.heap.size ≤ q) s s.heap := va_Zof (hts _ (List.mem_of_getElem? (i := 114) rfl)) (htb _ (tb_of 70 rfl rfl)) hQ1 (fun a ha hq => by omega)
  have hXT : va_T .int b L (fun j => .int (xs j)) (fun q => s.heap.size ≤ q) s s.heap := by
    obtain ⟨scr, h1, h2, h3, h4, h5⟩ := hX
    exact ⟨scr, h1, h2, h3, by omega, (by rw [h4]), h5, by omega⟩
  obtain ⟨adK, adV, hSS, hSe⟩ := vk_Sof (s := s) (args := #[Value.ref b]) (N := 1) (tm := fun _ => Jvm.Term.string "DatumDeskModel" 106) (len := [5]) (byt := [[113, 117, 111, 116, 101]]) (A := fun q => s.heap.size ≤ q) (fun i hi => by rcases (show i = 0 by omega) with rfl; decide) (fun i hi => hfl _ (by decide +kernel)) (fun i hi => hfl _ (by decide +kernel)) (fun i hi => hfl _ (by decide +kernel)) (fun i hi => by rcases (show i = 0 by omega) with rfl; exact hfl _ (by decide +kernel)) (fun i hi j hj => by
    rcases (show i = 0 by omega) with rfl
    have hj : j < 5 := hj
    rcases (show j = 0 ∨ j = 1 ∨ j = 2 ∨ j = 3 ∨ j = 4 by omega) with rfl | rfl | rfl | rfl | rfl
    · exact hfl _ (by decide +kernel)
    · exact hfl _ (by decide +kernel)
    · exact hfl _ (by decide +kernel)
    · exact hfl _ (by decide +kernel)
    · exact hfl _ (by decide +kernel)) (fun i j hi hj hij => by omega) (fun a ha hq => by omega)
  obtain ⟨hs1, hs2, hs3, hs4⟩ := hSS.1 0 (by decide)
  have hs5 : va_T .byte (adV 0) 5 (fun j => .int (QF j)) (fun q => s.heap.size ≤ q) s s.heap := by
    obtain ⟨cell, g1, g2, g3, g4, g5, g6, g7⟩ := hs4
    refine ⟨cell, g1, g2, g3, g4, g5, fun j hj => ?_, g7⟩
    rw [g6 j hj]
    rcases (show j = 0 ∨ j = 1 ∨ j = 2 ∨ j = 3 ∨ j = 4 by omega) with rfl | rfl | rfl | rfl | rfl <;> rfl
  have hs6 : va_Z "java/lang/String" "COMPACT_STRINGS" "Z" (.int 1) (fun q => s.heap.size ≤ q) s s.heap := va_Zof (hts _ (List.mem_of_getElem? (i := 640) rfl)) (htb _ (tb_of 79 rfl rfl)) (va_eqi (hfl _ (by decide +kernel))) (fun a ha hq => by omega)
  have hs7 := va_Zqof (A := fun q => s.heap.size ≤ q) (hts (Jvm.Cond.laysStatic "jdk/internal/util/Preconditions" "SIOOBE_FORMATTER" "Ljava/util/function/BiFunction;") (List.mem_of_getElem? (i := 648) rfl)) (htb _ (tb_of 81 rfl rfl)) (hfl _ (by decide +kernel)) (fun a ha hq => by omega)
  obtain ⟨aF, hs8⟩ : ∃ aF : Nat, va_Z "jdk/internal/util/Preconditions" "SIOOBE_FORMATTER" "Ljava/util/function/BiFunction;" .null (fun q => s.heap.size ≤ q) s s.heap ∨ va_Z "jdk/internal/util/Preconditions" "SIOOBE_FORMATTER" "Ljava/util/function/BiFunction;" (.ref aF) (fun q => s.heap.size ≤ q) s s.heap := by
    rcases hs7 with q | ⟨t, q⟩
    · exact ⟨0, Or.inl q⟩
    · exact ⟨t, Or.inr q⟩
  have hR : vk_R "DatumDeskModel" 106 "quote" (adK 0) s := vk_R.of (hts _ (List.mem_of_getElem? (i := 630) rfl)) (hSe 0 (by decide))
  have hl := lv_entry ([.ref b]) (n := 4) (Nat.le_of_ble_eq_true rfl)
  rw [lg_entry_eq]
  generalize (lg_sl ([.ref b]) ++ List.replicate (4 - (lg_sl ([.ref b])).length) Slot.unset).toArray = ls at hl ⊢
  have hl : lv_has ls 4 [(0, .ref b)] := hl
  have hE : ∀ ad : Nat → Nat, ad 1000 = aQ → ad 1001 = b → ad 1002 = adK 0 → ad 1003 = adV 0 → ad 1004 = aF → am_E (G_at l D cI ad s.heap.size L xs) (fun q => s.heap.size ≤ q) s s.heap := fun ad h1 h2 h3 h4 h5 => am_E_of (G := G_at l D cI ad s.heap.size L xs) (by show va_T .int (ad 1000) 5 _ _ _ _; rw [h1]; exact hQ2) (by show va_T .int (ad 1001) L (fun j => .int (xs j)) _ _ _; rw [h2]; exact hXT) (by show va_Z _ _ _ (.ref (ad 1000)) _ _ _; rw [h1]; exact hZ) (by
    refine ⟨?_, ?_, ?_, ?_, hs6, ?_⟩
    · show va_O _ (ad 1002) _ _ _; rw [h3]; exact hs1
    · show va_OF _ _ _ _ (ad 1002) _ _ _; rw [h3]; exact hs2
    · show va_OF _ _ _ (.ref (ad 1003)) (ad 1002) _ _ _; rw [h3, h4]; exact hs3
    · show va_T _ (ad 1003) _ _ _ _ _; rw [h4]; exact hs5
    · show _ ∨ va_Z _ _ _ (.ref (ad 1004)) _ _ _; rw [h5]; exact hs8)
  obtain ⟨G0, hG0⟩ : ∃ G0, G0 = G_at l D cI (fun i => if i = 1000 then aQ else if i = 1002 then adK 0 else if i = 1003 then adV 0 else if i = 1004 then aF else b) s.heap.size L xs := ⟨_, rfl⟩
  have CC : ∀ ls : Array Slot, ls.size = 4 → ic_C G0 Y_Law (fun q => s.heap.size ≤ q) p s m #[Value.ref b] meth c ls := fun ls hz => by
    subst hG0
    exact ⟨hx, hb, hml, hr, hown, htb, hlk, ⟨hK, hN, hR⟩, hE _ rfl rfl rfl rfl rfl, fun q hq => hq, fun q hq => hq, hz⟩
  have J0 : ic_J G0 (fun q => s.heap.size ≤ q) p e room_1 s m #[Value.ref b] below meth c ls (lw_Z below #[Value.ref b] s) 0 [] [] 0 0 := by
    have C := CC ls hl.1
    refine ic_new C (Cn := "DatumDesk") (T := T_Desk) (N := 5) (ci := 6) (ix := 7) (nx := 3) t_Desk (fs := [.null, .null, .null, .null, .null]) rfl in_Desk tok_Desk (tb_of 84 rfl rfl) (tb_of 85 rfl rfl) (tb_of 70 rfl rfl) (fun j hj => by rcases (show j = 0 ∨ j = 1 ∨ j = 2 ∨ j = 3 ∨ j = 4 by omega) with rfl | rfl | rfl | rfl | rfl <;> rfl) (Nat.le_of_ble_eq_true rfl) (Nat.le_of_ble_eq_true rfl) (by decide +kernel) rfl (fun hD => ?_)
    change ic_J _ _ _ _ _ _ _ _ _ _ _ _ _ 3 [.ref hD] [(hD, .inr (6, [.null, .null, .null, .null, .null]))] 1 5
    refine ic_dup C (nx := 4) (by decide +kernel) rfl ?_
    refine ic_call C (b := hD) (st := [.ref hD]) (wr := []) (nx := 7) (ci_Desk G0) (tb_of 88 rfl rfl) rfl (tb_of 70 rfl rfl) (tb_of 87 rfl rfl) (tb_of 86 rfl rfl) rfl hy_Desk_init (Nat.le_of_ble_eq_true rfl) (Nat.le_of_ble_eq_true rfl) (Nat.le_of_ble_eq_true rfl) (Nat.le_of_ble_eq_true rfl) rfl rfl (Nat.le_of_ble_eq_true rfl) [0] [] rfl (by decide) rfl (by decide) (by decide) (by decide +kernel) rfl (fun u => ?_)
    change ic_J _ _ _ _ _ _ _ _ _ _ _ _ _ 7 [.ref hD] (wf_Desk G0 hD u) 19 3739
    intro H locs hP hDD hS
    refine lv_astore_n hx hb (k := 1) (by decide +kernel) rfl hl (by decide) rfl (fun ls1 hl1 => ?_)
    have hl1 : lv_has ls1 4 [(1, .ref hD), (0, .ref b)] := hl1
    have C := CC ls1 hl1.1
    have J1 : ic_J G0 (fun q => s.heap.size ≤ q) p e room_1 s m #[Value.ref b] below meth c ls1 (lw_Z below #[Value.ref b] s) 8 [] (wf_Desk G0 hD u) 19 3739 := by
      refine ic_new C (Cn := "DatumDeskModel") (T := T_Model) (N := 21) (ci := 7) (ix := 10) (nx := 11) t_Model (fs := [.null, .int 0, .int 0, .int 0, .int 0, .int 0, .null, .null, .null, .null, .null, .int 0, .null, .int 0, .null, .null, .null, .null, .int 0, .null, .null]) rfl in_Model tok_Model (tb_of 511 rfl rfl) (tb_of 512 rfl rfl) (tb_of 78 rfl rfl) (fun j hj => by rcases (show j = 0 ∨ j = 1 ∨ j = 2 ∨ j = 3 ∨ j = 4 ∨ j = 5 ∨ j = 6 ∨ j = 7 ∨ j = 8 ∨ j = 9 ∨ j = 10 ∨ j = 11 ∨ j = 12 ∨ j = 13 ∨ j = 14 ∨ j = 15 ∨ j = 16 ∨ j = 17 ∨ j = 18 ∨ j = 19 ∨ j = 20 by omega) with rfl | rfl | rfl | rfl | rfl | rfl | rfl | rfl | rfl | rfl | rfl | rfl | rfl | rfl | rfl | rfl | rfl | rfl | rfl | rfl | rfl <;> rfl) (Nat.le_of_ble_eq_true rfl) (Nat.le_of_ble_eq_true rfl) (by decide +kernel) rfl (fun hM => ?_)
      refine ic_dup C (nx := 12) (by decide +kernel) rfl ?_
      refine ic_call C (b := hM) (st := [.ref hM]) (wr := wf_Desk G0 hD u) (nx := 15) (ci_Model G0) (tb_of 515 rfl rfl) rfl (tb_of 78 rfl rfl) (tb_of 514 rfl rfl) (tb_of 513 rfl rfl) rfl hy_Model_init (Nat.le_of_ble_eq_true rfl) (Nat.le_of_ble_eq_true rfl) (Nat.le_of_ble_eq_true rfl) (Nat.le_of_ble_eq_true rfl) rfl rfl (Nat.le_of_ble_eq_true rfl) [19] [0, 1, 2, 3, 4, 5, 6, 7, 8, 9, 10, 11, 12, 13, 14, 15, 16, 17, 18] rfl (by decide) rfl (by decide) (by decide) (by decide +kernel) rfl (fun v => ?_)
      change ic_J _ _ _ _ _ _ _ _ _ _ _ _ _ 15 [.ref hM] (wf_Desk G0 hD u ++ wf_Model G0 hM v) 33 10545
      intro H locs hP hDD hS
      refine lv_astore_n hx hb (k := 2) (by decide +kernel) rfl hl1 (by decide) rfl (fun ls2 hl2 => ?_)
      have hl2 : lv_has ls2 4 [(2, .ref hM), (1, .ref hD), (0, .ref b)] := hl2
      refine lv_iconst hx hb (n := 0) (v := 0) (by decide +kernel) (by decide +kernel) ?_
      refine lv_istore_n hx hb (k := 3) (by decide +kernel) rfl hl2 (by decide) rfl (fun ls3 hl3 => ?_)
      have hl3 : lv_has ls3 4 [(3, .int 0), (2, .ref hM), (1, .ref hD), (0, .ref b)] := hl3
      obtain ⟨G1, hG1⟩ : ∃ G1, G1 = G_at l D cI (ad_1 aQ b (adK 0) (adV 0) aF hD hM u v) s.heap.size L xs := ⟨_, rfl⟩
      have hws : am_W G1 M0 = wf_Desk G0 hD u ++ wf_Model G0 hM v := by
        subst hG0
        subst hG1
        rfl
      rw [← hws] at hP hDD
      have hok : am_ok G1 := am_ok_of hDD (fun q hq => by subst hG1; exact hq)
      have C1 : am_C G1 Y_Law p s m #[Value.ref b] meth c := by
        subst hG1
        exact ⟨hok, hx, hb, hml, hr, hown, htb, hlk, ⟨hK, hN, hR⟩, hE _ rfl rfl rfl rfl rfl, fun q hq => hq⟩
      have JJ := hloop G1 C1 (fun q hq => by subst hG1; exact hq) (by subst hG1; rfl) (by subst hG1; rfl) (by subst hG1; rfl)
      have hP2 : va_P (g_D G1) CL (am_W G1 M0) H := by
        subst hG0
        subst hG1
        exact hP
      have hS2 : va_S (am_A G1 s.heap.size) s.heap H locs := ⟨hS.1, fun q h1 h2 => hS.2.1 q h1 (fun h3 => h2 (Or.inr h3)), fun q hq => Or.inr (hS.2.2 q hq)⟩
      have hlv : am_lv ls3 4 (g_a G1) [some (.ref 1001), some (.ref 0), some (.ref 19), some (.int 0)] := by
        refine ⟨hl3.1, hl3.2.1, fun k v hk => ?_⟩
        subst hG1
        match k, hk with
        | 0, hk => cases hk; exact lv_at hl3 3 rfl
        | 1, hk => cases hk; exact lv_at hl3 2 rfl
        | 2, hk => cases hk; exact lv_at hl3 1 rfl
        | 3, hk => cases hk; exact lv_at hl3 0 rfl
        | k + 4, hk => simp at hk
      have JF := JJ H locs ls3 hP2 hS2 hlv
      subst hG0
      subst hG1
      exact JF
    exact J1 H locs hP hDD hS
  have hPe : va_P (g_D G0) CL [] s.heap := fun k q h => by simp at h
  have hDe : va_D (fun q => s.heap.size ≤ q) [] := ⟨fun i j p q h => by simp at h, fun k q h => by simp at h⟩
  have F := J0 s.heap [] hPe hDe va_S.rf
  subst hG0
  exact F
