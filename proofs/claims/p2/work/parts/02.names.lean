/-! printed by wip/gen/gen.py out of the claim: names, fields, the world, the words -/
abbrev aK : Type := Nat ⊕ (Nat × List (Option Value))
def T_Nodes : u_T := fun k => match k with
  | 0 => ("DatumDesk$Nodes", "kinds", "[I", true)
  | 1 => ("DatumDesk$Nodes", "amounts", "[I", true)
  | 2 => ("DatumDesk$Nodes", "starts", "[I", true)
  | 3 => ("DatumDesk$Nodes", "heads", "[I", true)
  | 4 => ("DatumDesk$Nodes", "tails", "[I", true)
  | 5 => ("DatumDesk$Nodes", "count", "I", false)
  | 6 => ("DatumDesk$Nodes", "data", "[I", true)
  | 7 => ("DatumDesk$Nodes", "dataCount", "I", false)
  | 8 => ("DatumDesk$Nodes", "letters", "[I", true)
  | _ => ("DatumDesk$Nodes", "letterCount", "I", false)
def t_Nodes : Nat → FieldType := fun k => match k with
  | 0 => .array .int
  | 1 => .array .int
  | 2 => .array .int
  | 3 => .array .int
  | 4 => .array .int
  | 5 => .int
  | 6 => .array .int
  | 7 => .int
  | 8 => .array .int
  | _ => .int
theorem nm_Nodes : ∀ a, a < 10 → ∀ b, b < 10 → a ≠ b → (T_Nodes a).2.1 ≠ (T_Nodes b).2.1 := by decide +kernel
theorem tok_Nodes : ∀ k, k < 10 → parseFieldDescriptor (T_Nodes k).2.2.1 = some (t_Nodes k) := by decide +kernel
def T_Reader : u_T := fun k => match k with
  | 0 => ("DatumDesk$Reader", "text", "LDatumDesk$Text;", true)
  | 1 => ("DatumDesk$Reader", "nodes", "LDatumDesk$Nodes;", true)
  | 2 => ("DatumDesk$Reader", "tokens", "LDatumDesk$Tokens;", true)
  | 3 => ("DatumDesk$Reader", "cursor", "I", false)
  | _ => ("DatumDesk$Reader", "faultPlace", "I", false)
def t_Reader : Nat → FieldType := fun k => match k with
  | 0 => .object "DatumDesk$Text"
  | 1 => .object "DatumDesk$Nodes"
  | 2 => .object "DatumDesk$Tokens"
  | 3 => .int
  | _ => .int
theorem nm_Reader : ∀ a, a < 5 → ∀ b, b < 5 → a ≠ b → (T_Reader a).2.1 ≠ (T_Reader b).2.1 := by decide +kernel
theorem tok_Reader : ∀ k, k < 5 → parseFieldDescriptor (T_Reader k).2.2.1 = some (t_Reader k) := by decide +kernel
def T_Text : u_T := fun k => match k with
  | 0 => ("DatumDesk$Text", "bytes", "[I", true)
  | _ => ("DatumDesk$Text", "length", "I", false)
def t_Text : Nat → FieldType := fun k => match k with
  | 0 => .array .int
  | _ => .int
theorem nm_Text : ∀ a, a < 2 → ∀ b, b < 2 → a ≠ b → (T_Text a).2.1 ≠ (T_Text b).2.1 := by decide +kernel
theorem tok_Text : ∀ k, k < 2 → parseFieldDescriptor (T_Text k).2.2.1 = some (t_Text k) := by decide +kernel
def T_Tokens : u_T := fun k => match k with
  | 0 => ("DatumDesk$Tokens", "sorts", "[I", true)
  | 1 => ("DatumDesk$Tokens", "starts", "[I", true)
  | 2 => ("DatumDesk$Tokens", "ends", "[I", true)
  | _ => ("DatumDesk$Tokens", "count", "I", false)
def t_Tokens : Nat → FieldType := fun k => match k with
  | 0 => .array .int
  | 1 => .array .int
  | 2 => .array .int
  | _ => .int
theorem nm_Tokens : ∀ a, a < 4 → ∀ b, b < 4 → a ≠ b → (T_Tokens a).2.1 ≠ (T_Tokens b).2.1 := by decide +kernel
theorem tok_Tokens : ∀ k, k < 4 → parseFieldDescriptor (T_Tokens k).2.2.1 = some (t_Tokens k) := by decide +kernel
def T_Waiting : u_T := fun k => match k with
  | 0 => ("DatumDesk$Waiting", "bytes", "[I", true)
  | 1 => ("DatumDesk$Waiting", "first", "I", false)
  | _ => ("DatumDesk$Waiting", "count", "I", false)
def t_Waiting : Nat → FieldType := fun k => match k with
  | 0 => .array .int
  | 1 => .int
  | _ => .int
theorem nm_Waiting : ∀ a, a < 3 → ∀ b, b < 3 → a ≠ b → (T_Waiting a).2.1 ≠ (T_Waiting b).2.1 := by decide +kernel
theorem tok_Waiting : ∀ k, k < 3 → parseFieldDescriptor (T_Waiting k).2.2.1 = some (t_Waiting k) := by decide +kernel
def T_Writer : u_T := fun k => match k with
  | 0 => ("DatumDesk$Writer", "nodes", "LDatumDesk$Nodes;", true)
  | _ => ("DatumDesk$Writer", "waiting", "LDatumDesk$Waiting;", true)
def t_Writer : Nat → FieldType := fun k => match k with
  | 0 => .object "DatumDesk$Nodes"
  | _ => .object "DatumDesk$Waiting"
theorem nm_Writer : ∀ a, a < 2 → ∀ b, b < 2 → a ≠ b → (T_Writer a).2.1 ≠ (T_Writer b).2.1 := by decide +kernel
theorem tok_Writer : ∀ k, k < 2 → parseFieldDescriptor (T_Writer k).2.2.1 = some (t_Writer k) := by decide +kernel
def T_Desk : u_T := fun k => match k with
  | 0 => ("DatumDesk", "text", "LDatumDesk$Text;", true)
  | 1 => ("DatumDesk", "nodes", "LDatumDesk$Nodes;", true)
  | 2 => ("DatumDesk", "reader", "LDatumDesk$Reader;", true)
  | 3 => ("DatumDesk", "waiting", "LDatumDesk$Waiting;", true)
  | _ => ("DatumDesk", "writer", "LDatumDesk$Writer;", true)
def t_Desk : Nat → FieldType := fun k => match k with
  | 0 => .object "DatumDesk$Text"
  | 1 => .object "DatumDesk$Nodes"
  | 2 => .object "DatumDesk$Reader"
  | 3 => .object "DatumDesk$Waiting"
  | _ => .object "DatumDesk$Writer"
theorem nm_Desk : ∀ a, a < 5 → ∀ b, b < 5 → a ≠ b → (T_Desk a).2.1 ≠ (T_Desk b).2.1 := by decide +kernel
theorem tok_Desk : ∀ k, k < 5 → parseFieldDescriptor (T_Desk k).2.2.1 = some (t_Desk k) := by decide +kernel
def T_Model : u_T := fun k => match k with
  | 0 => ("DatumDeskModel", "text", "[I", true)
  | 1 => ("DatumDeskModel", "size", "I", false)
  | 2 => ("DatumDeskModel", "at", "I", false)
  | 3 => ("DatumDeskModel", "place", "I", false)
  | 4 => ("DatumDeskModel", "fault", "I", false)
  | 5 => ("DatumDeskModel", "nodes", "I", false)
  | 6 => ("DatumDeskModel", "kinds", "[I", true)
  | 7 => ("DatumDeskModel", "values", "[I", true)
  | 8 => ("DatumDeskModel", "bytes", "[I", true)
  | 9 => ("DatumDeskModel", "heads", "[I", true)
  | 10 => ("DatumDeskModel", "tails", "[I", true)
  | 11 => ("DatumDeskModel", "data", "I", false)
  | 12 => ("DatumDeskModel", "datums", "[I", true)
  | 13 => ("DatumDeskModel", "open", "I", false)
  | 14 => ("DatumDeskModel", "firsts", "[I", true)
  | 15 => ("DatumDeskModel", "lasts", "[I", true)
  | 16 => ("DatumDeskModel", "states", "[I", true)
  | 17 => ("DatumDeskModel", "written", "[I", true)
  | 18 => ("DatumDeskModel", "waits", "I", false)
  | 19 => ("DatumDeskModel", "ones", "[I", true)
  | _ => ("DatumDeskModel", "others", "[I", true)
def t_Model : Nat → FieldType := fun k => match k with
  | 0 => .array .int
  | 1 => .int
  | 2 => .int
  | 3 => .int
  | 4 => .int
  | 5 => .int
  | 6 => .array .int
  | 7 => .array .int
  | 8 => .array .int
  | 9 => .array .int
  | 10 => .array .int
  | 11 => .int
  | 12 => .array .int
  | 13 => .int
  | 14 => .array .int
  | 15 => .array .int
  | 16 => .array .int
  | 17 => .array .int
  | 18 => .int
  | 19 => .array .int
  | _ => .array .int
theorem nm_Model : ∀ a, a < 21 → ∀ b, b < 21 → a ≠ b → (T_Model a).2.1 ≠ (T_Model b).2.1 := by decide +kernel
theorem tok_Model : ∀ k, k < 21 → parseFieldDescriptor (T_Model k).2.2.1 = some (t_Model k) := by decide +kernel
abbrev CL : List vw_C := [("DatumDesk$Nodes", T_Nodes, 10), ("DatumDesk$Reader", T_Reader, 5), ("DatumDesk$Text", T_Text, 2), ("DatumDesk$Tokens", T_Tokens, 4), ("DatumDesk$Waiting", T_Waiting, 3), ("DatumDesk$Writer", T_Writer, 2), ("DatumDesk", T_Desk, 5), ("DatumDeskModel", T_Model, 21)]
def SH : List aK := [.inr (6, [some (.ref 1), some (.ref 3), some (.ref 11), some (.ref 16), some (.ref 18)]), .inr (2, [some (.ref 2), none]), .inl 400, .inr (0, [some (.ref 4), some (.ref 5), some (.ref 6), some (.ref 7), some (.ref 8), none, some (.ref 9), none, some (.ref 10), none]), .inl 200, .inl 200, .inl 200, .inl 200, .inl 200, .inl 200, .inl 405, .inr (1, [some (.ref 1), some (.ref 3), some (.ref 12), none, none]), .inr (3, [some (.ref 13), some (.ref 14), some (.ref 15), none]), .inl 401, .inl 401, .inl 401, .inr (4, [some (.ref 17), none, none]), .inl 500, .inr (5, [some (.ref 3), some (.ref 16)]), .inr (7, [some (.ref 20), none, none, none, none, none, some (.ref 21), some (.ref 22), some (.ref 23), some (.ref 24), some (.ref 25), none, some (.ref 26), none, some (.ref 27), some (.ref 28), some (.ref 29), some (.ref 30), none, some (.ref 31), some (.ref 32)]), .inl 400, .inl 200, .inl 200, .inl 4000, .inl 200, .inl 200, .inl 200, .inl 15, .inl 15, .inl 15, .inl 500, .inl 420, .inl 420]
def QF : Nat → Int32 := fun k => match k with
  | 0 => 113
  | 1 => 117
  | 2 => 111
  | 3 => 116
  | _ => 101
def XS : List (String × String × String × Value) := [("DatumDesk", "QUOTE", "[I", .ref 1000)]
def nw_is (w : Cond) : Bool := match w with
  | .fieldLinkNest _ _ _ _ _ _ => true
  | .methodLinkNest _ _ _ _ => true
  | _ => false
def TB : List Cond := lw_tbl.filter goodWord
def NWs : List Cond := lw_tbl.filter nw_is
theorem tb_of (i : Nat) {w : Cond} (h : lw_tbl[i]? = some w) (hg : goodWord w = true) : w ∈ TB := List.mem_filter.mpr ⟨List.mem_of_getElem? h, hg⟩
theorem nw_of (i : Nat) {w : Cond} (h : lw_tbl[i]? = some w) (hg : nw_is w = true) : w ∈ NWs := List.mem_filter.mpr ⟨List.mem_of_getElem? h, hg⟩
theorem TB_good : ∀ w ∈ TB, (w.onTables && w.keeps) = true ∨ ∃ ty, w = .arrayClass ty := fun w h => good_of_word (List.mem_filter.mp h).2
set_option maxRecDepth 20000 in
theorem in_Nodes : ∀ w ∈ u_ws "DatumDesk$Nodes" T_Nodes 10, w ∈ TB := by
  intro w hw
  have h : w ∈ [(Cond.laysFinal "DatumDesk$Nodes" "DatumDesk$Nodes" "kinds" "[I"), (Cond.laysFinal "DatumDesk$Nodes" "DatumDesk$Nodes" "amounts" "[I"), (Cond.laysFinal "DatumDesk$Nodes" "DatumDesk$Nodes" "starts" "[I"), (Cond.laysFinal "DatumDesk$Nodes" "DatumDesk$Nodes" "heads" "[I"), (Cond.laysFinal "DatumDesk$Nodes" "DatumDesk$Nodes" "tails" "[I"), (Cond.lays "DatumDesk$Nodes" "DatumDesk$Nodes" "count" "I"), (Cond.laysFinal "DatumDesk$Nodes" "DatumDesk$Nodes" "data" "[I"), (Cond.lays "DatumDesk$Nodes" "DatumDesk$Nodes" "dataCount" "I"), (Cond.laysFinal "DatumDesk$Nodes" "DatumDesk$Nodes" "letters" "[I"), (Cond.lays "DatumDesk$Nodes" "DatumDesk$Nodes" "letterCount" "I")] := hw
  simp only [List.mem_cons, List.not_mem_nil, or_false] at h
  rcases h with rfl | rfl | rfl | rfl | rfl | rfl | rfl | rfl | rfl | rfl
  · exact tb_of 130 rfl rfl
  · exact tb_of 132 rfl rfl
  · exact tb_of 134 rfl rfl
  · exact tb_of 136 rfl rfl
  · exact tb_of 138 rfl rfl
  · exact tb_of 140 rfl rfl
  · exact tb_of 142 rfl rfl
  · exact tb_of 144 rfl rfl
  · exact tb_of 146 rfl rfl
  · exact tb_of 148 rfl rfl
set_option maxRecDepth 20000 in
theorem in_Reader : ∀ w ∈ u_ws "DatumDesk$Reader" T_Reader 5, w ∈ TB := by
  intro w hw
  have h : w ∈ [(Cond.laysFinal "DatumDesk$Reader" "DatumDesk$Reader" "text" "LDatumDesk$Text;"), (Cond.laysFinal "DatumDesk$Reader" "DatumDesk$Reader" "nodes" "LDatumDesk$Nodes;"), (Cond.laysFinal "DatumDesk$Reader" "DatumDesk$Reader" "tokens" "LDatumDesk$Tokens;"), (Cond.lays "DatumDesk$Reader" "DatumDesk$Reader" "cursor" "I"), (Cond.lays "DatumDesk$Reader" "DatumDesk$Reader" "faultPlace" "I")] := hw
  simp only [List.mem_cons, List.not_mem_nil, or_false] at h
  rcases h with rfl | rfl | rfl | rfl | rfl
  · exact tb_of 182 rfl rfl
  · exact tb_of 184 rfl rfl
  · exact tb_of 186 rfl rfl
  · exact tb_of 188 rfl rfl
  · exact tb_of 190 rfl rfl
set_option maxRecDepth 20000 in
theorem in_Text : ∀ w ∈ u_ws "DatumDesk$Text" T_Text 2, w ∈ TB := by
  intro w hw
  have h : w ∈ [(Cond.laysFinal "DatumDesk$Text" "DatumDesk$Text" "bytes" "[I"), (Cond.lays "DatumDesk$Text" "DatumDesk$Text" "length" "I")] := hw
  simp only [List.mem_cons, List.not_mem_nil, or_false] at h
  rcases h with rfl | rfl
  · exact tb_of 101 rfl rfl
  · exact tb_of 103 rfl rfl
set_option maxRecDepth 20000 in
theorem in_Tokens : ∀ w ∈ u_ws "DatumDesk$Tokens" T_Tokens 4, w ∈ TB := by
  intro w hw
  have h : w ∈ [(Cond.laysFinal "DatumDesk$Tokens" "DatumDesk$Tokens" "sorts" "[I"), (Cond.laysFinal "DatumDesk$Tokens" "DatumDesk$Tokens" "starts" "[I"), (Cond.laysFinal "DatumDesk$Tokens" "DatumDesk$Tokens" "ends" "[I"), (Cond.lays "DatumDesk$Tokens" "DatumDesk$Tokens" "count" "I")] := hw
  simp only [List.mem_cons, List.not_mem_nil, or_false] at h
  rcases h with rfl | rfl | rfl | rfl
  · exact tb_of 167 rfl rfl
  · exact tb_of 169 rfl rfl
  · exact tb_of 171 rfl rfl
  · exact tb_of 173 rfl rfl
set_option maxRecDepth 20000 in
theorem in_Waiting : ∀ w ∈ u_ws "DatumDesk$Waiting" T_Waiting 3, w ∈ TB := by
  intro w hw
  have h : w ∈ [(Cond.laysFinal "DatumDesk$Waiting" "DatumDesk$Waiting" "bytes" "[I"), (Cond.lays "DatumDesk$Waiting" "DatumDesk$Waiting" "first" "I"), (Cond.lays "DatumDesk$Waiting" "DatumDesk$Waiting" "count" "I")] := hw
  simp only [List.mem_cons, List.not_mem_nil, or_false] at h
  rcases h with rfl | rfl | rfl
  · exact tb_of 203 rfl rfl
  · exact tb_of 205 rfl rfl
  · exact tb_of 207 rfl rfl
set_option maxRecDepth 20000 in
theorem in_Writer : ∀ w ∈ u_ws "DatumDesk$Writer" T_Writer 2, w ∈ TB := by
  intro w hw
  have h : w ∈ [(Cond.laysFinal "DatumDesk$Writer" "DatumDesk$Writer" "nodes" "LDatumDesk$Nodes;"), (Cond.laysFinal "DatumDesk$Writer" "DatumDesk$Writer" "waiting" "LDatumDesk$Waiting;")] := hw
  simp only [List.mem_cons, List.not_mem_nil, or_false] at h
  rcases h with rfl | rfl
  · exact tb_of 218 rfl rfl
  · exact tb_of 220 rfl rfl
set_option maxRecDepth 20000 in
theorem in_Desk : ∀ w ∈ u_ws "DatumDesk" T_Desk 5, w ∈ TB := by
  intro w hw
  have h : w ∈ [(Cond.laysFinal "DatumDesk" "DatumDesk" "text" "LDatumDesk$Text;"), (Cond.laysFinal "DatumDesk" "DatumDesk" "nodes" "LDatumDesk$Nodes;"), (Cond.laysFinal "DatumDesk" "DatumDesk" "reader" "LDatumDesk$Reader;"), (Cond.laysFinal "DatumDesk" "DatumDesk" "waiting" "LDatumDesk$Waiting;"), (Cond.laysFinal "DatumDesk" "DatumDesk" "writer" "LDatumDesk$Writer;")] := hw
  simp only [List.mem_cons, List.not_mem_nil, or_false] at h
  rcases h with rfl | rfl | rfl | rfl | rfl
  · exact tb_of 228 rfl rfl
  · exact tb_of 230 rfl rfl
  · exact tb_of 232 rfl rfl
  · exact tb_of 234 rfl rfl
  · exact tb_of 236 rfl rfl
set_option maxRecDepth 20000 in
theorem in_Model : ∀ w ∈ u_ws "DatumDeskModel" T_Model 21, w ∈ TB := by
  intro w hw
  have h : w ∈ [(Cond.laysFinal "DatumDeskModel" "DatumDeskModel" "text" "[I"), (Cond.lays "DatumDeskModel" "DatumDeskModel" "size" "I"), (Cond.lays "DatumDeskModel" "DatumDeskModel" "at" "I"), (Cond.lays "DatumDeskModel" "DatumDeskModel" "place" "I"), (Cond.lays "DatumDeskModel" "DatumDeskModel" "fault" "I"), (Cond.lays "DatumDeskModel" "DatumDeskModel" "nodes" "I"), (Cond.laysFinal "DatumDeskModel" "DatumDeskModel" "kinds" "[I"), (Cond.laysFinal "DatumDeskModel" "DatumDeskModel" "values" "[I"), (Cond.laysFinal "DatumDeskModel" "DatumDeskModel" "bytes" "[I"), (Cond.laysFinal "DatumDeskModel" "DatumDeskModel" "heads" "[I"), (Cond.laysFinal "DatumDeskModel" "DatumDeskModel" "tails" "[I"), (Cond.lays "DatumDeskModel" "DatumDeskModel" "data" "I"), (Cond.laysFinal "DatumDeskModel" "DatumDeskModel" "datums" "[I"), (Cond.lays "DatumDeskModel" "DatumDeskModel" "open" "I"), (Cond.laysFinal "DatumDeskModel" "DatumDeskModel" "firsts" "[I"), (Cond.laysFinal "DatumDeskModel" "DatumDeskModel" "lasts" "[I"), (Cond.laysFinal "DatumDeskModel" "DatumDeskModel" "states" "[I"), (Cond.laysFinal "DatumDeskModel" "DatumDeskModel" "written" "[I"), (Cond.lays "DatumDeskModel" "DatumDeskModel" "waits" "I"), (Cond.laysFinal "DatumDeskModel" "DatumDeskModel" "ones" "[I"), (Cond.laysFinal "DatumDeskModel" "DatumDeskModel" "others" "[I")] := hw
  simp only [List.mem_cons, List.not_mem_nil, or_false] at h
  rcases h with rfl | rfl | rfl | rfl | rfl | rfl | rfl | rfl | rfl | rfl | rfl | rfl | rfl | rfl | rfl | rfl | rfl | rfl | rfl | rfl | rfl
  · exact tb_of 538 rfl rfl
  · exact tb_of 540 rfl rfl
  · exact tb_of 542 rfl rfl
  · exact tb_of 544 rfl rfl
  · exact tb_of 546 rfl rfl
  · exact tb_of 548 rfl rfl
  · exact tb_of 550 rfl rfl
  · exact tb_of 552 rfl rfl
  · exact tb_of 554 rfl rfl
  · exact tb_of 556 rfl rfl
  · exact tb_of 558 rfl rfl
  · exact tb_of 560 rfl rfl
  · exact tb_of 562 rfl rfl
  · exact tb_of 564 rfl rfl
  · exact tb_of 566 rfl rfl
  · exact tb_of 568 rfl rfl
  · exact tb_of 570 rfl rfl
  · exact tb_of 572 rfl rfl
  · exact tb_of 574 rfl rfl
  · exact tb_of 576 rfl rfl
  · exact tb_of 578 rfl rfl
