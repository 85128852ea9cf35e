def c_Writer_writeNode (s_Nodes_kindOf : aS) (s_Nodes_amountOf : aS) (s_Writer_writeNumber : aS) (s_Writer_writeName : aS) (s_Writer_writeString : aS) (s_Writer_writePair : aS) (s_Waiting_append : aS) : List (Nat × aI) := [
  (0, ai_iload 2 1),
  (1, ai_const 15 3),
  (3, ai_cmple 7 6),
  (6, ai_vret),
  (7, ai_aload 0 8),
  (8, ai_getf 5 0 11),
  (11, ai_iload 1 12),
  (12, ai_callv2 0 s_Nodes_kindOf 15),
  (15, ai_switch [(1, 48), (2, 63), (3, 71), (4, 79), (5, 88)] 109),
  (48, ai_aload 0 49),
  (49, ai_aload 0 50),
  (50, ai_getf 5 0 53),
  (53, ai_iload 1 54),
  (54, ai_callv2 0 s_Nodes_amountOf 57),
  (57, ai_callv2 5 s_Writer_writeNumber 60),
  (60, ai_goto 109),
  (63, ai_aload 0 64),
  (64, ai_iload 1 65),
  (65, ai_callv2 5 s_Writer_writeName 68),
  (68, ai_goto 109),
  (71, ai_aload 0 72),
  (72, ai_iload 1 73),
  (73, ai_callv2 5 s_Writer_writeString 76),
  (76, ai_goto 109),
  (79, ai_aload 0 80),
  (80, ai_iload 1 81),
  (81, ai_iload 2 82),
  (82, ai_callv3 5 s_Writer_writePair 85),
  (85, ai_goto 109),
  (88, ai_aload 0 89),
  (89, ai_getf 5 1 92),
  (92, ai_const 40 94),
  (94, ai_callv2 4 s_Waiting_append 97),
  (97, ai_aload 0 98),
  (98, ai_getf 5 1 101),
  (101, ai_const 41 103),
  (103, ai_callv2 4 s_Waiting_append 106),
  (106, ai_goto 109),
  (109, ai_vret)]
set_option maxRecDepth 100000 in
set_option maxHeartbeats 4000000 in
theorem tb_Writer_writeNode {G : aG} {d : Nat} {s_Nodes_kindOf : aS} {d_Nodes_kindOf : Nat} (h_Nodes_kindOf : am_Sp G Y_Nodes_kindOf d_Nodes_kindOf s_Nodes_kindOf) (l_Nodes_kindOf : d_Nodes_kindOf < d) {s_Nodes_amountOf : aS} {d_Nodes_amountOf : Nat} (h_Nodes_amountOf : am_Sp G Y_Nodes_amountOf d_Nodes_amountOf s_Nodes_amountOf) (l_Nodes_amountOf : d_Nodes_amountOf < d) {s_Writer_writeNumber : aS} {d_Writer_writeNumber : Nat} (h_Writer_writeNumber : am_Sp G Y_Writer_writeNumber d_Writer_writeNumber s_Writer_writeNumber) (l_Writer_writeNumber : d_Writer_writeNumber < d) {s_Writer_writeName : aS} {d_Writer_writeName : Nat} (h_Writer_writeName : am_Sp G Y_Writer_writeName d_Writer_writeName s_Writer_writeName) (l_Writer_writeName : d_Writer_writeName < d) {s_Writer_writeString : aS} {d_Writer_writeString : Nat} (h_Writer_writeString : am_Sp G Y_Writer_writeString d_Writer_writeString s_Writer_writeString) (l_Writer_writeString : d_Writer_writeString < d) {s_Writer_writePair : aS} {d_Writer_writePair : Nat} (h_Writer_writePair : am_Sp G Y_Writer_writePair d_Writer_writePair s_Writer_writePair) (l_Writer_writePair : d_Writer_writePair < d) {s_Waiting_append : aS} {d_Waiting_append : Nat} (h_Waiting_append : am_Sp G Y_Waiting_append d_Waiting_append s_Waiting_append) (l_Waiting_append : d_Waiting_append < d) : am_tab G Y_Writer_writeNode d (c_Writer_writeNode s_Nodes_kindOf s_Nodes_amountOf s_Writer_writeNumber s_Writer_writeName s_Writer_writeString s_Writer_writePair s_Waiting_append) := by
  intro K p e s m args below meth c C
  exact ⟨as_iload_n C (pc := 0) (q := 2) (by decide +kernel) rfl rfl,
    as_bipush C (pc := 1) (n := 15) (by decide +kernel) (by decide +kernel) rfl,
    as_cmple C (pc := 3) (off := 4) (by decide +kernel) (by decide) rfl,
    as_vret C (pc := 6) rfl (by decide +kernel),
    as_aload_n C (pc := 7) (q := 0) (by decide +kernel) rfl rfl,
    as_getf C (pc := 8) (T := T_Writer) (N := 2) rfl in_Writer (by decide) rfl w_216 (by decide +kernel) rfl,
    as_iload_n C (pc := 11) (q := 1) (by decide +kernel) rfl rfl,
    as_callv2N C (pc := 12) h_Nodes_kindOf (T := T_Nodes) (N := 10) rfl w_401 w_72 w_400 w_33 w_459 hy_Nodes_kindOf (am_rm_of l_Nodes_kindOf (by decide)) (by decide +kernel) rfl,
    as_table C (pc := 15) (dflt := 94) (lo := 1) (hi := 5) (offs := #[33, 48, 56, 64, 73]) (len := 33) (by decide +kernel) (by decide +kernel) (by decide) (by decide),
    as_aload_n C (pc := 48) (q := 0) (by decide +kernel) rfl rfl,
    as_aload_n C (pc := 49) (q := 0) (by decide +kernel) rfl rfl,
    as_getf C (pc := 50) (T := T_Writer) (N := 2) rfl in_Writer (by decide) rfl w_216 (by decide +kernel) rfl,
    as_iload_n C (pc := 53) (q := 1) (by decide +kernel) rfl rfl,
    as_callv2N C (pc := 54) h_Nodes_amountOf (T := T_Nodes) (N := 10) rfl w_409 w_72 w_408 w_34 w_460 hy_Nodes_amountOf (am_rm_of l_Nodes_amountOf (by decide)) (by decide +kernel) rfl,
    as_callv2 C (pc := 57) h_Writer_writeNumber (T := T_Writer) (N := 2) rfl w_464 w_77 w_463 w_42 w_461 hy_Writer_writeNumber (am_rm_of l_Writer_writeNumber (by decide)) (by decide +kernel) rfl,
    as_goto C (pc := 60) (off := 49) (by decide +kernel) (by decide),
    as_aload_n C (pc := 63) (q := 0) (by decide +kernel) rfl rfl,
    as_iload_n C (pc := 64) (q := 1) (by decide +kernel) rfl rfl,
    as_callv2 C (pc := 65) h_Writer_writeName (T := T_Writer) (N := 2) rfl w_473 w_77 w_472 w_44 w_470 hy_Writer_writeName (am_rm_of l_Writer_writeName (by decide)) (by decide +kernel) rfl,
    as_goto C (pc := 68) (off := 41) (by decide +kernel) (by decide),
    as_aload_n C (pc := 71) (q := 0) (by decide +kernel) rfl rfl,
    as_iload_n C (pc := 72) (q := 1) (by decide +kernel) rfl rfl,
    as_callv2 C (pc := 73) h_Writer_writeString (T := T_Writer) (N := 2) rfl w_478 w_77 w_477 w_45 w_475 hy_Writer_writeString (am_rm_of l_Writer_writeString (by decide)) (by decide +kernel) rfl,
    as_goto C (pc := 76) (off := 33) (by decide +kernel) (by decide),
    as_aload_n C (pc := 79) (q := 0) (by decide +kernel) rfl rfl,
    as_iload_n C (pc := 80) (q := 1) (by decide +kernel) rfl rfl,
    as_iload_n C (pc := 81) (q := 2) (by decide +kernel) rfl rfl,
    as_callv3 C (pc := 82) h_Writer_writePair (T := T_Writer) (N := 2) rfl w_482 w_77 w_481 w_46 w_479 hy_Writer_writePair (am_rm_of l_Writer_writePair (by decide)) (by decide +kernel) rfl,
    as_goto C (pc := 85) (off := 24) (by decide +kernel) (by decide),
    as_aload_n C (pc := 88) (q := 0) (by decide +kernel) rfl rfl,
    as_getf C (pc := 89) (T := T_Writer) (N := 2) rfl in_Writer (by decide) rfl w_217 (by decide +kernel) rfl,
    as_bipush C (pc := 92) (n := 40) (by decide +kernel) (by decide +kernel) rfl,
    as_callv2N C (pc := 94) h_Waiting_append (T := T_Waiting) (N := 3) rfl w_468 w_76 w_467 w_43 w_465 hy_Waiting_append (am_rm_of l_Waiting_append (by decide)) (by decide +kernel) rfl,
    as_aload_n C (pc := 97) (q := 0) (by decide +kernel) rfl rfl,
    as_getf C (pc := 98) (T := T_Writer) (N := 2) rfl in_Writer (by decide) rfl w_217 (by decide +kernel) rfl,
    as_bipush C (pc := 101) (n := 41) (by decide +kernel) (by decide +kernel) rfl,
    as_callv2N C (pc := 103) h_Waiting_append (T := T_Waiting) (N := 3) rfl w_468 w_76 w_467 w_43 w_465 hy_Waiting_append (am_rm_of l_Waiting_append (by decide)) (by decide +kernel) rfl,
    as_goto C (pc := 106) (off := 3) (by decide +kernel) (by decide),
    as_vret C (pc := 109) rfl (by decide +kernel), trivial⟩
abbrev k_Writer_writeNode : List Nat := []
theorem r_Writer_writeNode_0 {s_Nodes_kindOf : aS} {s_Nodes_amountOf : aS} {s_Writer_writeNumber : aS} {s_Writer_writeName : aS} {s_Writer_writeString : aS} {s_Writer_writePair : aS} {s_Waiting_append : aS} {J : aJ} {K : aR} {n : Nat} {L : aL} {S : List Value} {M : aM} : am_run (c_Writer_writeNode s_Nodes_kindOf s_Nodes_amountOf s_Writer_writeNumber s_Writer_writeName s_Writer_writeString s_Writer_writePair s_Waiting_append) k_Writer_writeNode J K (n + 1) 0 L S M = ai_iload 2 1 (am_run (c_Writer_writeNode s_Nodes_kindOf s_Nodes_amountOf s_Writer_writeNumber s_Writer_writeName s_Writer_writeString s_Writer_writePair s_Waiting_append) k_Writer_writeNode J K n) K 0 L S M := by rfl
theorem r_Writer_writeNode_1 {s_Nodes_kindOf : aS} {s_Nodes_amountOf : aS} {s_Writer_writeNumber : aS} {s_Writer_writeName : aS} {s_Writer_writeString : aS} {s_Writer_writePair : aS} {s_Waiting_append : aS} {J : aJ} {K : aR} {n : Nat} {L : aL} {S : List Value} {M : aM} : am_run (c_Writer_writeNode s_Nodes_kindOf s_Nodes_amountOf s_Writer_writeNumber s_Writer_writeName s_Writer_writeString s_Writer_writePair s_Waiting_append) k_Writer_writeNode J K (n + 1) 1 L S M = ai_const 15 3 (am_run (c_Writer_writeNode s_Nodes_kindOf s_Nodes_amountOf s_Writer_writeNumber s_Writer_writeName s_Writer_writeString s_Writer_writePair s_Waiting_append) k_Writer_writeNode J K n) K 1 L S M := by rfl
theorem r_Writer_writeNode_3 {s_Nodes_kindOf : aS} {s_Nodes_amountOf : aS} {s_Writer_writeNumber : aS} {s_Writer_writeName : aS} {s_Writer_writeString : aS} {s_Writer_writePair : aS} {s_Waiting_append : aS} {J : aJ} {K : aR} {n : Nat} {L : aL} {S : List Value} {M : aM} : am_run (c_Writer_writeNode s_Nodes_kindOf s_Nodes_amountOf s_Writer_writeNumber s_Writer_writeName s_Writer_writeString s_Writer_writePair s_Waiting_append) k_Writer_writeNode J K (n + 1) 3 L S M = ai_cmple 7 6 (am_run (c_Writer_writeNode s_Nodes_kindOf s_Nodes_amountOf s_Writer_writeNumber s_Writer_writeName s_Writer_writeString s_Writer_writePair s_Waiting_append) k_Writer_writeNode J K n) K 3 L S M := by rfl
theorem r_Writer_writeNode_6 {s_Nodes_kindOf : aS} {s_Nodes_amountOf : aS} {s_Writer_writeNumber : aS} {s_Writer_writeName : aS} {s_Writer_writeString : aS} {s_Writer_writePair : aS} {s_Waiting_append : aS} {J : aJ} {K : aR} {n : Nat} {L : aL} {S : List Value} {M : aM} : am_run (c_Writer_writeNode s_Nodes_kindOf s_Nodes_amountOf s_Writer_writeNumber s_Writer_writeName s_Writer_writeString s_Writer_writePair s_Waiting_append) k_Writer_writeNode J K (n + 1) 6 L S M = ai_vret (am_run (c_Writer_writeNode s_Nodes_kindOf s_Nodes_amountOf s_Writer_writeNumber s_Writer_writeName s_Writer_writeString s_Writer_writePair s_Waiting_append) k_Writer_writeNode J K n) K 6 L S M := by rfl
theorem r_Writer_writeNode_7 {s_Nodes_kindOf : aS} {s_Nodes_amountOf : aS} {s_Writer_writeNumber : aS} {s_Writer_writeName : aS} {s_Writer_writeString : aS} {s_Writer_writePair : aS} {s_Waiting_append : aS} {J : aJ} {K : aR} {n : Nat} {L : aL} {S : List Value} {M : aM} : am_run (c_Writer_writeNode s_Nodes_kindOf s_Nodes_amountOf s_Writer_writeNumber s_Writer_writeName s_Writer_writeString s_Writer_writePair s_Waiting_append) k_Writer_writeNode J K (n + 1) 7 L S M = ai_aload 0 8 (am_run (c_Writer_writeNode s_Nodes_kindOf s_Nodes_amountOf s_Writer_writeNumber s_Writer_writeName s_Writer_writeString s_Writer_writePair s_Waiting_append) k_Writer_writeNode J K n) K 7 L S M := by rfl
theorem r_Writer_writeNode_8 {s_Nodes_kindOf : aS} {s_Nodes_amountOf : aS} {s_Writer_writeNumber : aS} {s_Writer_writeName : aS} {s_Writer_writeString : aS} {s_Writer_writePair : aS} {s_Waiting_append : aS} {J : aJ} {K : aR} {n : Nat} {L : aL} {S : List Value} {M : aM} : am_run (c_Writer_writeNode s_Nodes_kindOf s_Nodes_amountOf s_Writer_writeNumber s_Writer_writeName s_Writer_writeString s_Writer_writePair s_Waiting_append) k_Writer_writeNode J K (n + 1) 8 L S M = ai_getf 5 0 11 (am_run (c_Writer_writeNode s_Nodes_kindOf s_Nodes_amountOf s_Writer_writeNumber s_Writer_writeName s_Writer_writeString s_Writer_writePair s_Waiting_append) k_Writer_writeNode J K n) K 8 L S M := by rfl
theorem r_Writer_writeNode_11 {s_Nodes_kindOf : aS} {s_Nodes_amountOf : aS} {s_Writer_writeNumber : aS} {s_Writer_writeName : aS} {s_Writer_writeString : aS} {s_Writer_writePair : aS} {s_Waiting_append : aS} {J : aJ} {K : aR} {n : Nat} {L : aL} {S : List Value} {M : aM} : am_run (c_Writer_writeNode s_Nodes_kindOf s_Nodes_amountOf s_Writer_writeNumber s_Writer_writeName s_Writer_writeString s_Writer_writePair s_Waiting_append) k_Writer_writeNode J K (n + 1) 11 L S M = ai_iload 1 12 (am_run (c_Writer_writeNode s_Nodes_kindOf s_Nodes_amountOf s_Writer_writeNumber s_Writer_writeName s_Writer_writeString s_Writer_writePair s_Waiting_append) k_Writer_writeNode J K n) K 11 L S M := by rfl
theorem r_Writer_writeNode_12 {s_Nodes_kindOf : aS} {s_Nodes_amountOf : aS} {s_Writer_writeNumber : aS} {s_Writer_writeName : aS} {s_Writer_writeString : aS} {s_Writer_writePair : aS} {s_Waiting_append : aS} {J : aJ} {K : aR} {n : Nat} {L : aL} {S : List Value} {M : aM} : am_run (c_Writer_writeNode s_Nodes_kindOf s_Nodes_amountOf s_Writer_writeNumber s_Writer_writeName s_Writer_writeString s_Writer_writePair s_Waiting_append) k_Writer_writeNode J K (n + 1) 12 L S M = ai_callv2 0 s_Nodes_kindOf 15 (am_run (c_Writer_writeNode s_Nodes_kindOf s_Nodes_amountOf s_Writer_writeNumber s_Writer_writeName s_Writer_writeString s_Writer_writePair s_Waiting_append) k_Writer_writeNode J K n) K 12 L S M := by rfl
theorem r_Writer_writeNode_15 {s_Nodes_kindOf : aS} {s_Nodes_amountOf : aS} {s_Writer_writeNumber : aS} {s_Writer_writeName : aS} {s_Writer_writeString : aS} {s_Writer_writePair : aS} {s_Waiting_append : aS} {J : aJ} {K : aR} {n : Nat} {L : aL} {S : List Value} {M : aM} : am_run (c_Writer_writeNode s_Nodes_kindOf s_Nodes_amountOf s_Writer_writeNumber s_Writer_writeName s_Writer_writeString s_Writer_writePair s_Waiting_append) k_Writer_writeNode J K (n + 1) 15 L S M = ai_switch [(1, 48), (2, 63), (3, 71), (4, 79), (5, 88)] 109 (am_run (c_Writer_writeNode s_Nodes_kindOf s_Nodes_amountOf s_Writer_writeNumber s_Writer_writeName s_Writer_writeString s_Writer_writePair s_Waiting_append) k_Writer_writeNode J K n) K 15 L S M := by rfl
theorem r_Writer_writeNode_48 {s_Nodes_kindOf : aS} {s_Nodes_amountOf : aS} {s_Writer_writeNumber : aS} {s_Writer_writeName : aS} {s_Writer_writeString : aS} {s_Writer_writePair : aS} {s_Waiting_append : aS} {J : aJ} {K : aR} {n : Nat} {L : aL} {S : List Value} {M : aM} : am_run (c_Writer_writeNode s_Nodes_kindOf s_Nodes_amountOf s_Writer_writeNumber s_Writer_writeName s_Writer_writeString s_Writer_writePair s_Waiting_append) k_Writer_writeNode J K (n + 1) 48 L S M = ai_aload 0 49 (am_run (c_Writer_writeNode s_Nodes_kindOf s_Nodes_amountOf s_Writer_writeNumber s_Writer_writeName s_Writer_writeString s_Writer_writePair s_Waiting_append) k_Writer_writeNode J K n) K 48 L S M := by rfl
theorem r_Writer_writeNode_49 {s_Nodes_kindOf : aS} {s_Nodes_amountOf : aS} {s_Writer_writeNumber : aS} {s_Writer_writeName : aS} {s_Writer_writeString : aS} {s_Writer_writePair : aS} {s_Waiting_append : aS} {J : aJ} {K : aR} {n : Nat} {L : aL} {S : List Value} {M : aM} : am_run (c_Writer_writeNode s_Nodes_kindOf s_Nodes_amountOf s_Writer_writeNumber s_Writer_writeName s_Writer_writeString s_Writer_writePair s_Waiting_append) k_Writer_writeNode J K (n + 1) 49 L S M = ai_aload 0 50 (am_run (c_Writer_writeNode s_Nodes_kindOf s_Nodes_amountOf s_Writer_writeNumber s_Writer_writeName s_Writer_writeString s_Writer_writePair s_Waiting_append) k_Writer_writeNode J K n) K 49 L S M := by rfl
theorem r_Writer_writeNode_50 {s_Nodes_kindOf : aS} {s_Nodes_amountOf : aS} {s_Writer_writeNumber : aS} {s_Writer_writeName : aS} {s_Writer_writeString : aS} {s_Writer_writePair : aS} {s_Waiting_append : aS} {J : aJ} {K : aR} {n : Nat} {L : aL} {S : List Value} {M : aM} : am_run (c_Writer_writeNode s_Nodes_kindOf s_Nodes_amountOf s_Writer_writeNumber s_Writer_writeName s_Writer_writeString s_Writer_writePair s_Waiting_append) k_Writer_writeNode J K (n + 1) 50 L S M = ai_getf 5 0 53 (am_run (c_Writer_writeNode s_Nodes_kindOf s_Nodes_amountOf s_Writer_writeNumber s_Writer_writeName s_Writer_writeString s_Writer_writePair s_Waiting_append) k_Writer_writeNode J K n) K 50 L S M := by rfl
theorem r_Writer_writeNode_53 {s_Nodes_kindOf : aS} {s_Nodes_amountOf : aS} {s_Writer_writeNumber : aS} {s_Writer_writeName : aS} {s_Writer_writeString : aS} {s_Writer_writePair : aS} {s_Waiting_append : aS} {J : aJ} {K : aR} {n : Nat} {L : aL} {S : List Value} {M : aM} : am_run (c_Writer_writeNode s_Nodes_kindOf s_Nodes_amountOf s_Writer_writeNumber s_Writer_writeName s_Writer_writeString s_Writer_writePair s_Waiting_append) k_Writer_writeNode J K (n + 1) 53 L S M = ai_iload 1 54 (am_run (c_Writer_writeNode s_Nodes_kindOf s_Nodes_amountOf s_Writer_writeNumber s_Writer_writeName s_Writer_writeString s_Writer_writePair s_Waiting_append) k_Writer_writeNode J K n) K 53 L S M := by rfl
theorem r_Writer_writeNode_54 {s_Nodes_kindOf : aS} {s_Nodes_amountOf : aS} {s_Writer_writeNumber : aS} {s_Writer_writeName : aS} {s_Writer_writeString : aS} {s_Writer_writePair : aS} {s_Waiting_append : aS} {J : aJ} {K : aR} {n : Nat} {L : aL} {S : List Value} {M : aM} : am_run (c_Writer_writeNode s_Nodes_kindOf s_Nodes_amountOf s_Writer_writeNumber s_Writer_writeName s_Writer_writeString s_Writer_writePair s_Waiting_append) k_Writer_writeNode J K (n + 1) 54 L S M = ai_callv2 0 s_Nodes_amountOf 57 (am_run (c_Writer_writeNode s_Nodes_kindOf s_Nodes_amountOf s_Writer_writeNumber s_Writer_writeName s_Writer_writeString s_Writer_writePair s_Waiting_append) k_Writer_writeNode J K n) K 54 L S M := by rfl
theorem r_Writer_writeNode_57 {s_Nodes_kindOf : aS} {s_Nodes_amountOf : aS} {s_Writer_writeNumber : aS} {s_Writer_writeName : aS} {s_Writer_writeString : aS} {s_Writer_writePair : aS} {s_Waiting_append : aS} {J : aJ} {K : aR} {n : Nat} {L : aL} {S : List Value} {M : aM} : am_run (c_Writer_writeNode s_Nodes_kindOf s_Nodes_amountOf s_Writer_writeNumber s_Writer_writeName s_Writer_writeString s_Writer_writePair s_Waiting_append) k_Writer_writeNode J K (n + 1) 57 L S M = ai_callv2 5 s_Writer_writeNumber 60 (am_run (c_Writer_writeNode s_Nodes_kindOf s_Nodes_amountOf s_Writer_writeNumber s_Writer_writeName s_Writer_writeString s_Writer_writePair s_Waiting_append) k_Writer_writeNode J K n) K 57 L S M := by rfl
theorem r_Writer_writeNode_60 {s_Nodes_kindOf : aS} {s_Nodes_amountOf : aS} {s_Writer_writeNumber : aS} {s_Writer_writeName : aS} {s_Writer_writeString : aS} {s_Writer_writePair : aS} {s_Waiting_append : aS} {J : aJ} {K : aR} {n : Nat} {L : aL} {S : List Value} {M : aM} : am_run (c_Writer_writeNode s_Nodes_kindOf s_Nodes_amountOf s_Writer_writeNumber s_Writer_writeName s_Writer_writeString s_Writer_writePair s_Waiting_append) k_Writer_writeNode J K (n + 1) 60 L S M = ai_goto 109 (am_run (c_Writer_writeNode s_Nodes_kindOf s_Nodes_amountOf s_Writer_writeNumber s_Writer_writeName s_Writer_writeString s_Writer_writePair s_Waiting_append) k_Writer_writeNode J K n) K 60 L S M := by rfl
theorem r_Writer_writeNode_63 {s_Nodes_kindOf : aS} {s_Nodes_amountOf : aS} {s_Writer_writeNumber : aS} {s_Writer_writeName : aS} {s_Writer_writeString : aS} {s_Writer_writePair : aS} {s_Waiting_append : aS} {J : aJ} {K : aR} {n : Nat} {L : aL} {S : List Value} {M : aM} : am_run (c_Writer_writeNode s_Nodes_kindOf s_Nodes_amountOf s_Writer_writeNumber s_Writer_writeName s_Writer_writeString s_Writer_writePair s_Waiting_append) k_Writer_writeNode J K (n + 1) 63 L S M = ai_aload 0 64 (am_run (c_Writer_writeNode s_Nodes_kindOf s_Nodes_amountOf s_Writer_writeNumber s_Writer_writeName s_Writer_writeString s_Writer_writePair s_Waiting_append) k_Writer_writeNode J K n) K 63 L S M := by rfl
theorem r_Writer_writeNode_64 {s_Nodes_kindOf : aS} {s_Nodes_amountOf : aS} {s_Writer_writeNumber : aS} {s_Writer_writeName : aS} {s_Writer_writeString : aS} {s_Writer_writePair : aS} {s_Waiting_append : aS} {J : aJ} {K : aR} {n : Nat} {L : aL} {S : List Value} {M : aM} : am_run (c_Writer_writeNode s_Nodes_kindOf s_Nodes_amountOf s_Writer_writeNumber s_Writer_writeName s_Writer_writeString s_Writer_writePair s_Waiting_append) k_Writer_writeNode J K (n + 1) 64 L S M = ai_iload 1 65 (am_run (c_Writer_writeNode s_Nodes_kindOf s_Nodes_amountOf s_Writer_writeNumber s_Writer_writeName s_Writer_writeString s_Writer_writePair s_Waiting_append) k_Writer_writeNode J K n) K 64 L S M := by rfl
theorem r_Writer_writeNode_65 {s_Nodes_kindOf : aS} {s_Nodes_amountOf : aS} {s_Writer_writeNumber : aS} {s_Writer_writeName : aS} {s_Writer_writeString : aS} {s_Writer_writePair : aS} {s_Waiting_append : aS} {J : aJ} {K : aR} {n : Nat} {L : aL} {S : List Value} {M : aM} : am_run (c_Writer_writeNode s_Nodes_kindOf s_Nodes_amountOf s_Writer_writeNumber s_Writer_writeName s_Writer_writeString s_Writer_writePair s_Waiting_append) k_Writer_writeNode J K (n + 1) 65 L S M = ai_callv2 5 s_Writer_writeName 68 (am_run (c_Writer_writeNode s_Nodes_kindOf s_Nodes_amountOf s_Writer_writeNumber s_Writer_writeName s_Writer_writeString s_Writer_writePair s_Waiting_append) k_Writer_writeNode J K n) K 65 L S M := by rfl
theorem r_Writer_writeNode_68 {s_Nodes_kindOf : aS} {s_Nodes_amountOf : aS} {s_Writer_writeNumber : aS} {s_Writer_writeName : aS} {s_Writer_writeString : aS} {s_Writer_writePair : aS} {s_Waiting_append : aS} {J : aJ} {K : aR} {n : Nat} {L : aL} {S : List Value} {M : aM} : am_run (c_Writer_writeNode s_Nodes_kindOf s_Nodes_amountOf s_Writer_writeNumber s_Writer_writeName s_Writer_writeString s_Writer_writePair s_Waiting_append) k_Writer_writeNode J K (n + 1) 68 L S M = ai_goto 109 (am_run (c_Writer_writeNode s_Nodes_kindOf s_Nodes_amountOf s_Writer_writeNumber s_Writer_writeName s_Writer_writeString s_Writer_writePair s_Waiting_append) k_Writer_writeNode J K n) K 68 L S M := by rfl
theorem r_Writer_writeNode_71 {s_Nodes_kindOf : aS} {s_Nodes_amountOf : aS} {s_Writer_writeNumber : aS} {s_Writer_writeName : aS} {s_Writer_writeString : aS} {s_Writer_writePair : aS} {s_Waiting_append : aS} {J : aJ} {K : aR} {n : Nat} {L : aL} {S : List Value} {M : aM} : am_run (c_Writer_writeNode s_Nodes_kindOf s_Nodes_amountOf s_Writer_writeNumber s_Writer_writeName s_Writer_writeString s_Writer_writePair s_Waiting_append) k_Writer_writeNode J K (n + 1) 71 L S M = ai_aload 0 72 (am_run (c_Writer_writeNode s_Nodes_kindOf s_Nodes_amountOf s_Writer_writeNumber s_Writer_writeName s_Writer_writeString s_Writer_writePair s_Waiting_append) k_Writer_writeNode J K n) K 71 L S M := by rfl
theorem r_Writer_writeNode_72 {s_Nodes_kindOf : aS} {s_Nodes_amountOf : aS} {s_Writer_writeNumber : aS} {s_Writer_writeName : aS} {s_Writer_writeString : aS} {s_Writer_writePair : aS} {s_Waiting_append : aS} {J : aJ} {K : aR} {n : Nat} {L : aL} {S : List Value} {M : aM} : am_run (c_Writer_writeNode s_Nodes_kindOf s_Nodes_amountOf s_Writer_writeNumber s_Writer_writeName s_Writer_writeString s_Writer_writePair s_Waiting_append) k_Writer_writeNode J K (n + 1) 72 L S M = ai_iload 1 73 (am_run (c_Writer_writeNode s_Nodes_kindOf s_Nodes_amountOf s_Writer_writeNumber s_Writer_writeName s_Writer_writeString s_Writer_writePair s_Waiting_append) k_Writer_writeNode J K n) K 72 L S M := by rfl
theorem r_Writer_writeNode_73 {s_Nodes_kindOf : aS} {s_Nodes_amountOf : aS} {s_Writer_writeNumber : aS} {s_Writer_writeName : aS} {s_Writer_writeString : aS} {s_Writer_writePair : aS} {s_Waiting_append : aS} {J : aJ} {K : aR} {n : Nat} {L : aL} {S : List Value} {M : aM} : am_run (c_Writer_writeNode s_Nodes_kindOf s_Nodes_amountOf s_Writer_writeNumber s_Writer_writeName s_Writer_writeString s_Writer_writePair s_Waiting_append) k_Writer_writeNode J K (n + 1) 73 L S M = ai_callv2 5 s_Writer_writeString 76 (am_run (c_Writer_writeNode s_Nodes_kindOf s_Nodes_amountOf s_Writer_writeNumber s_Writer_writeName s_Writer_writeString s_Writer_writePair s_Waiting_append) k_Writer_writeNode J K n) K 73 L S M := by rfl
theorem r_Writer_writeNode_76 {s_Nodes_kindOf : aS} {s_Nodes_amountOf : aS} {s_Writer_writeNumber : aS} {s_Writer_writeName : aS} {s_Writer_writeString : aS} {s_Writer_writePair : aS} {s_Waiting_append : aS} {J : aJ} {K : aR} {n : Nat} {L : aL} {S : List Value} {M : aM} : am_run (c_Writer_writeNode s_Nodes_kindOf s_Nodes_amountOf s_Writer_writeNumber s_Writer_writeName s_Writer_writeString s_Writer_writePair s_Waiting_append) k_Writer_writeNode J K (n + 1) 76 L S M = ai_goto 109 (am_run (c_Writer_writeNode s_Nodes_kindOf s_Nodes_amountOf s_Writer_writeNumber s_Writer_writeName s_Writer_writeString s_Writer_writePair s_Waiting_append) k_Writer_writeNode J K n) K 76 L S M := by rfl
theorem r_Writer_writeNode_79 {s_Nodes_kindOf : aS} {s_Nodes_amountOf : aS} {s_Writer_writeNumber : aS} {s_Writer_writeName : aS} {s_Writer_writeString : aS} {s_Writer_writePair : aS} {s_Waiting_append : aS} {J : aJ} {K : aR} {n : Nat} {L : aL} {S : List Value} {M : aM} : am_run (c_Writer_writeNode s_Nodes_kindOf s_Nodes_amountOf s_Writer_writeNumber s_Writer_writeName s_Writer_writeString s_Writer_writePair s_Waiting_append) k_Writer_writeNode J K (n + 1) 79 L S M = ai_aload 0 80 (am_run (c_Writer_writeNode s_Nodes_kindOf s_Nodes_amountOf s_Writer_writeNumber s_Writer_writeName s_Writer_writeString s_Writer_writePair s_Waiting_append) k_Writer_writeNode J K n) K 79 L S M := by rfl
theorem r_Writer_writeNode_80 {s_Nodes_kindOf : aS} {s_Nodes_amountOf : aS} {s_Writer_writeNumber : aS} {s_Writer_writeName : aS} {s_Writer_writeString : aS} {s_Writer_writePair : aS} {s_Waiting_append : aS} {J : aJ} {K : aR} {n : Nat} {L : aL} {S : List Value} {M : aM} : am_run (c_Writer_writeNode s_Nodes_kindOf s_Nodes_amountOf s_Writer_writeNumber s_Writer_writeName s_Writer_writeString s_Writer_writePair s_Waiting_append) k_Writer_writeNode J K (n + 1) 80 L S M = ai_iload 1 81 (am_run (c_Writer_writeNode s_Nodes_kindOf s_Nodes_amountOf s_Writer_writeNumber s_Writer_writeName s_Writer_writeString s_Writer_writePair s_Waiting_append) k_Writer_writeNode J K n) K 80 L S M := by rfl
theorem r_Writer_writeNode_81 {s_Nodes_kindOf : aS} {s_Nodes_amountOf : aS} {s_Writer_writeNumber : aS} {s_Writer_writeName : aS} {s_Writer_writeString : aS} {s_Writer_writePair : aS} {s_Waiting_append : aS} {J : aJ} {K : aR} {n : Nat} {L : aL} {S : List Value} {M : aM} : am_run (c_Writer_writeNode s_Nodes_kindOf s_Nodes_amountOf s_Writer_writeNumber s_Writer_writeName s_Writer_writeString s_Writer_writePair s_Waiting_append) k_Writer_writeNode J K (n + 1) 81 L S M = ai_iload 2 82 (am_run (c_Writer_writeNode s_Nodes_kindOf s_Nodes_amountOf s_Writer_writeNumber s_Writer_writeName s_Writer_writeString s_Writer_writePair s_Waiting_append) k_Writer_writeNode J K n) K 81 L S M := by rfl
theorem r_Writer_writeNode_82 {s_Nodes_kindOf : aS} {s_Nodes_amountOf : aS} {s_Writer_writeNumber : aS} {s_Writer_writeName : aS} {s_Writer_writeString : aS} {s_Writer_writePair : aS} {s_Waiting_append : aS} {J : aJ} {K : aR} {n : Nat} {L : aL} {S : List Value} {M : aM} : am_run (c_Writer_writeNode s_Nodes_kindOf s_Nodes_amountOf s_Writer_writeNumber s_Writer_writeName s_Writer_writeString s_Writer_writePair s_Waiting_append) k_Writer_writeNode J K (n + 1) 82 L S M = ai_callv3 5 s_Writer_writePair 85 (am_run (c_Writer_writeNode s_Nodes_kindOf s_Nodes_amountOf s_Writer_writeNumber s_Writer_writeName s_Writer_writeString s_Writer_writePair s_Waiting_append) k_Writer_writeNode J K n) K 82 L S M := by rfl
theorem r_Writer_writeNode_85 {s_Nodes_kindOf : aS} {s_Nodes_amountOf : aS} {s_Writer_writeNumber : aS} {s_Writer_writeName : aS} {s_Writer_writeString : aS} {s_Writer_writePair : aS} {s_Waiting_append : aS} {J : aJ} {K : aR} {n : Nat} {L : aL} {S : List Value} {M : aM} : am_run (c_Writer_writeNode s_Nodes_kindOf s_Nodes_amountOf s_Writer_writeNumber s_Writer_writeName s_Writer_writeString s_Writer_writePair s_Waiting_append) k_Writer_writeNode J K (n + 1) 85 L S M = ai_goto 109 (am_run (c_Writer_writeNode s_Nodes_kindOf s_Nodes_amountOf s_Writer_writeNumber s_Writer_writeName s_Writer_writeString s_Writer_writePair s_Waiting_append) k_Writer_writeNode J K n) K 85 L S M := by rfl
theorem r_Writer_writeNode_88 {s_Nodes_kindOf : aS} {s_Nodes_amountOf : aS} {s_Writer_writeNumber : aS} {s_Writer_writeName : aS} {s_Writer_writeString : aS} {s_Writer_writePair : aS} {s_Waiting_append : aS} {J : aJ} {K : aR} {n : Nat} {L : aL} {S : List Value} {M : aM} : am_run (c_Writer_writeNode s_Nodes_kindOf s_Nodes_amountOf s_Writer_writeNumber s_Writer_writeName s_Writer_writeString s_Writer_writePair s_Waiting_append) k_Writer_writeNode J K (n + 1) 88 L S M = ai_aload 0 89 (am_run (c_Writer_writeNode s_Nodes_kindOf s_Nodes_amountOf s_Writer_writeNumber s_Writer_writeName s_Writer_writeString s_Writer_writePair s_Waiting_append) k_Writer_writeNode J K n) K 88 L S M := by rfl
theorem r_Writer_writeNode_89 {s_Nodes_kindOf : aS} {s_Nodes_amountOf : aS} {s_Writer_writeNumber : aS} {s_Writer_writeName : aS} {s_Writer_writeString : aS} {s_Writer_writePair : aS} {s_Waiting_append : aS} {J : aJ} {K : aR} {n : Nat} {L : aL} {S : List Value} {M : aM} : am_run (c_Writer_writeNode s_Nodes_kindOf s_Nodes_amountOf s_Writer_writeNumber s_Writer_writeName s_Writer_writeString s_Writer_writePair s_Waiting_append) k_Writer_writeNode J K (n + 1) 89 L S M = ai_getf 5 1 92 (am_run (c_Writer_writeNode s_Nodes_kindOf s_Nodes_amountOf s_Writer_writeNumber s_Writer_writeName s_Writer_writeString s_Writer_writePair s_Waiting_append) k_Writer_writeNode J K n) K 89 L S M := by rfl
theorem r_Writer_writeNode_92 {s_Nodes_kindOf : aS} {s_Nodes_amountOf : aS} {s_Writer_writeNumber : aS} {s_Writer_writeName : aS} {s_Writer_writeString : aS} {s_Writer_writePair : aS} {s_Waiting_append : aS} {J : aJ} {K : aR} {n : Nat} {L : aL} {S : List Value} {M : aM} : am_run (c_Writer_writeNode s_Nodes_kindOf s_Nodes_amountOf s_Writer_writeNumber s_Writer_writeName s_Writer_writeString s_Writer_writePair s_Waiting_append) k_Writer_writeNode J K (n + 1) 92 L S M = ai_const 40 94 (am_run (c_Writer_writeNode s_Nodes_kindOf s_Nodes_amountOf s_Writer_writeNumber s_Writer_writeName s_Writer_writeString s_Writer_writePair s_Waiting_append) k_Writer_writeNode J K n) K 92 L S M := by rfl
theorem r_Writer_writeNode_94 {s_Nodes_kindOf : aS} {s_Nodes_amountOf : aS} {s_Writer_writeNumber : aS} {s_Writer_writeName : aS} {s_Writer_writeString : aS} {s_Writer_writePair : aS} {s_Waiting_append : aS} {J : aJ} {K : aR} {n : Nat} {L : aL} {S : List Value} {M : aM} : am_run (c_Writer_writeNode s_Nodes_kindOf s_Nodes_amountOf s_Writer_writeNumber s_Writer_writeName s_Writer_writeString s_Writer_writePair s_Waiting_append) k_Writer_writeNode J K (n + 1) 94 L S M = ai_callv2 4 s_Waiting_append 97 (am_run (c_Writer_writeNode s_Nodes_kindOf s_Nodes_amountOf s_Writer_writeNumber s_Writer_writeName s_Writer_writeString s_Writer_writePair s_Waiting_append) k_Writer_writeNode J K n) K 94 L S M := by rfl
theorem r_Writer_writeNode_97 {s_Nodes_kindOf : aS} {s_Nodes_amountOf : aS} {s_Writer_writeNumber : aS} {s_Writer_writeName : aS} {s_Writer_writeString : aS} {s_Writer_writePair : aS} {s_Waiting_append : aS} {J : aJ} {K : aR} {n : Nat} {L : aL} {S : List Value} {M : aM} : am_run (c_Writer_writeNode s_Nodes_kindOf s_Nodes_amountOf s_Writer_writeNumber s_Writer_writeName s_Writer_writeString s_Writer_writePair s_Waiting_append) k_Writer_writeNode J K (n + 1) 97 L S M = ai_aload 0 98 (am_run (c_Writer_writeNode s_Nodes_kindOf s_Nodes_amountOf s_Writer_writeNumber s_Writer_writeName s_Writer_writeString s_Writer_writePair s_Waiting_append) k_Writer_writeNode J K n) K 97 L S M := by rfl
theorem r_Writer_writeNode_98 {s_Nodes_kindOf : aS} {s_Nodes_amountOf : aS} {s_Writer_writeNumber : aS} {s_Writer_writeName : aS} {s_Writer_writeString : aS} {s_Writer_writePair : aS} {s_Waiting_append : aS} {J : aJ} {K : aR} {n : Nat} {L : aL} {S : List Value} {M : aM} : am_run (c_Writer_writeNode s_Nodes_kindOf s_Nodes_amountOf s_Writer_writeNumber s_Writer_writeName s_Writer_writeString s_Writer_writePair s_Waiting_append) k_Writer_writeNode J K (n + 1) 98 L S M = ai_getf 5 1 101 (am_run (c_Writer_writeNode s_Nodes_kindOf s_Nodes_amountOf s_Writer_writeNumber s_Writer_writeName s_Writer_writeString s_Writer_writePair s_Waiting_append) k_Writer_writeNode J K n) K 98 L S M := by rfl
theorem r_Writer_writeNode_101 {s_Nodes_kindOf : aS} {s_Nodes_amountOf : aS} {s_Writer_writeNumber : aS} {s_Writer_writeName : aS} {s_Writer_writeString : aS} {s_Writer_writePair : aS} {s_Waiting_append : aS} {J : aJ} {K : aR} {n : Nat} {L : aL} {S : List Value} {M : aM} : am_run (c_Writer_writeNode s_Nodes_kindOf s_Nodes_amountOf s_Writer_writeNumber s_Writer_writeName s_Writer_writeString s_Writer_writePair s_Waiting_append) k_Writer_writeNode J K (n + 1) 101 L S M = ai_const 41 103 (am_run (c_Writer_writeNode s_Nodes_kindOf s_Nodes_amountOf s_Writer_writeNumber s_Writer_writeName s_Writer_writeString s_Writer_writePair s_Waiting_append) k_Writer_writeNode J K n) K 101 L S M := by rfl
theorem r_Writer_writeNode_103 {s_Nodes_kindOf : aS} {s_Nodes_amountOf : aS} {s_Writer_writeNumber : aS} {s_Writer_writeName : aS} {s_Writer_writeString : aS} {s_Writer_writePair : aS} {s_Waiting_append : aS} {J : aJ} {K : aR} {n : Nat} {L : aL} {S : List Value} {M : aM} : am_run (c_Writer_writeNode s_Nodes_kindOf s_Nodes_amountOf s_Writer_writeNumber s_Writer_writeName s_Writer_writeString s_Writer_writePair s_Waiting_append) k_Writer_writeNode J K (n + 1) 103 L S M = ai_callv2 4 s_Waiting_append 106 (am_run (c_Writer_writeNode s_Nodes_kindOf s_Nodes_amountOf s_Writer_writeNumber s_Writer_writeName s_Writer_writeString s_Writer_writePair s_Waiting_append) k_Writer_writeNode J K n) K 103 L S M := by rfl
theorem r_Writer_writeNode_106 {s_Nodes_kindOf : aS} {s_Nodes_amountOf : aS} {s_Writer_writeNumber : aS} {s_Writer_writeName : aS} {s_Writer_writeString : aS} {s_Writer_writePair : aS} {s_Waiting_append : aS} {J : aJ} {K : aR} {n : Nat} {L : aL} {S : List Value} {M : aM} : am_run (c_Writer_writeNode s_Nodes_kindOf s_Nodes_amountOf s_Writer_writeNumber s_Writer_writeName s_Writer_writeString s_Writer_writePair s_Waiting_append) k_Writer_writeNode J K (n + 1) 106 L S M = ai_goto 109 (am_run (c_Writer_writeNode s_Nodes_kindOf s_Nodes_amountOf s_Writer_writeNumber s_Writer_writeName s_Writer_writeString s_Writer_writePair s_Waiting_append) k_Writer_writeNode J K n) K 106 L S M := by rfl
theorem r_Writer_writeNode_109 {s_Nodes_kindOf : aS} {s_Nodes_amountOf : aS} {s_Writer_writeNumber : aS} {s_Writer_writeName : aS} {s_Writer_writeString : aS} {s_Writer_writePair : aS} {s_Waiting_append : aS} {J : aJ} {K : aR} {n : Nat} {L : aL} {S : List Value} {M : aM} : am_run (c_Writer_writeNode s_Nodes_kindOf s_Nodes_amountOf s_Writer_writeNumber s_Writer_writeName s_Writer_writeString s_Writer_writePair s_Waiting_append) k_Writer_writeNode J K (n + 1) 109 L S M = ai_vret (am_run (c_Writer_writeNode s_Nodes_kindOf s_Nodes_amountOf s_Writer_writeNumber s_Writer_writeName s_Writer_writeString s_Writer_writePair s_Waiting_append) k_Writer_writeNode J K n) K 109 L S M := by rfl
def c_Writer_writeNumber (s_Waiting_append : aS) : List (Nat × aI) := [
  (0, ai_iload 1 1),
  (1, ai_ifge 13 4),
  (4, ai_aload 0 5),
  (5, ai_getf 5 1 8),
  (8, ai_const 45 10),
  (10, ai_callv2 4 s_Waiting_append 13),
  (13, ai_iload 1 14),
  (14, ai_ifge 22 17),
  (17, ai_iload 1 18),
  (18, ai_ineg 19),
  (19, ai_goto 23),
  (22, ai_iload 1 23),
  (23, ai_istore 2 24),
  (24, ai_const 100000000 26),
  (26, ai_istore 3 27),
  (27, ai_iload 3 28),
  (28, ai_ifle 65 31),
  (31, ai_iload 2 32),
  (32, ai_iload 3 33),
  (33, ai_cmpge 41 36),
  (36, ai_iload 3 37),
  (37, ai_const 1 38),
  (38, ai_cmpne 57 41),
  (41, ai_aload 0 42),
  (42, ai_getf 5 1 45),
  (45, ai_const 48 47),
  (47, ai_iload 2 48),
  (48, ai_iload 3 49),
  (49, ai_idiv 50),
  (50, ai_const 10 52),
  (52, ai_irem 53),
  (53, ai_iadd 54),
  (54, ai_callv2 4 s_Waiting_append 57),
  (57, ai_iload 3 58),
  (58, ai_const 10 60),
  (60, ai_idiv 61),
  (61, ai_istore 3 62),
  (62, ai_goto 27),
  (65, ai_vret)]
set_option maxRecDepth 100000 in
set_option maxHeartbeats 4000000 in
theorem tb_Writer_writeNumber {G : aG} {d : Nat} {s_Waiting_append : aS} {d_Waiting_append : Nat} (h_Waiting_append : am_Sp G Y_Waiting_append d_Waiting_append s_Waiting_append) (l_Waiting_append : d_Waiting_append < d) : am_tab G Y_Writer_writeNumber d (c_Writer_writeNumber s_Waiting_append) := by
  intro K p e s m args below meth c C
  exact ⟨as_iload_n C (pc := 0) (q := 1) (by decide +kernel) rfl rfl,
    as_ifge C (pc := 1) (off := 12) (by decide +kernel) (by decide) rfl,
    as_aload_n C (pc := 4) (q := 0) (by decide +kernel) rfl rfl,
    as_getf C (pc := 5) (T := T_Writer) (N := 2) rfl in_Writer (by decide) rfl w_217 (by decide +kernel) rfl,
    as_bipush C (pc := 8) (n := 45) (by decide +kernel) (by decide +kernel) rfl,
    as_callv2N C (pc := 10) h_Waiting_append (T := T_Waiting) (N := 3) rfl w_468 w_76 w_467 w_43 w_465 hy_Waiting_append (am_rm_of l_Waiting_append (by decide)) (by decide +kernel) rfl,
    as_iload_n C (pc := 13) (q := 1) (by decide +kernel) rfl rfl,
    as_ifge C (pc := 14) (off := 8) (by decide +kernel) (by decide) rfl,
    as_iload_n C (pc := 17) (q := 1) (by decide +kernel) rfl rfl,
    as_ineg C (pc := 18) (by decide +kernel) rfl,
    as_goto C (pc := 19) (off := 4) (by decide +kernel) (by decide),
    as_iload_n C (pc := 22) (q := 1) (by decide +kernel) rfl rfl,
    as_istore_n C (pc := 23) (q := 2) (by decide +kernel) rfl (by decide) rfl,
    as_ldc C (pc := 24) (ix := 47) w_469 (by decide +kernel) rfl,
    as_istore_n C (pc := 26) (q := 3) (by decide +kernel) rfl (by decide) rfl,
    as_iload_n C (pc := 27) (q := 3) (by decide +kernel) rfl rfl,
    as_ifle C (pc := 28) (off := 37) (by decide +kernel) (by decide) rfl,
    as_iload_n C (pc := 31) (q := 2) (by decide +kernel) rfl rfl,
    as_iload_n C (pc := 32) (q := 3) (by decide +kernel) rfl rfl,
    as_cmpge C (pc := 33) (off := 8) (by decide +kernel) (by decide) rfl,
    as_iload_n C (pc := 36) (q := 3) (by decide +kernel) rfl rfl,
    as_iconst C (pc := 37) (n := 1) (by decide +kernel) (by decide +kernel) rfl,
    as_cmpne C (pc := 38) (off := 19) (by decide +kernel) (by decide) rfl,
    as_aload_n C (pc := 41) (q := 0) (by decide +kernel) rfl rfl,
    as_getf C (pc := 42) (T := T_Writer) (N := 2) rfl in_Writer (by decide) rfl w_217 (by decide +kernel) rfl,
    as_bipush C (pc := 45) (n := 48) (by decide +kernel) (by decide +kernel) rfl,
    as_iload_n C (pc := 47) (q := 2) (by decide +kernel) rfl rfl,
    as_iload_n C (pc := 48) (q := 3) (by decide +kernel) rfl rfl,
    as_idiv C (pc := 49) (by decide +kernel) rfl,
    as_bipush C (pc := 50) (n := 10) (by decide +kernel) (by decide +kernel) rfl,
    as_irem C (pc := 52) (by decide +kernel) rfl,
    as_iadd C (pc := 53) (by decide +kernel) rfl,
    as_callv2N C (pc := 54) h_Waiting_append (T := T_Waiting) (N := 3) rfl w_468 w_76 w_467 w_43 w_465 hy_Waiting_append (am_rm_of l_Waiting_append (by decide)) (by decide +kernel) rfl,
    as_iload_n C (pc := 57) (q := 3) (by decide +kernel) rfl rfl,
    as_bipush C (pc := 58) (n := 10) (by decide +kernel) (by decide +kernel) rfl,
    as_idiv C (pc := 60) (by decide +kernel) rfl,
    as_istore_n C (pc := 61) (q := 3) (by decide +kernel) rfl (by decide) rfl,
    as_goto C (pc := 62) (off := (-35)) (by decide +kernel) (by decide),
    as_vret C (pc := 65) rfl (by decide +kernel), trivial⟩
abbrev k_Writer_writeNumber : List Nat := [27]
theorem q_Writer_writeNumber_27 {s_Waiting_append : aS} : am_at (c_Writer_writeNumber s_Waiting_append) 27 = ai_iload 3 28 := by rfl
theorem r_Writer_writeNumber_0 {s_Waiting_append : aS} {J : aJ} {K : aR} {n : Nat} {L : aL} {S : List Value} {M : aM} : am_run (c_Writer_writeNumber s_Waiting_append) k_Writer_writeNumber J K (n + 1) 0 L S M = ai_iload 1 1 (am_run (c_Writer_writeNumber s_Waiting_append) k_Writer_writeNumber J K n) K 0 L S M := by rfl
theorem r_Writer_writeNumber_1 {s_Waiting_append : aS} {J : aJ} {K : aR} {n : Nat} {L : aL} {S : List Value} {M : aM} : am_run (c_Writer_writeNumber s_Waiting_append) k_Writer_writeNumber J K (n + 1) 1 L S M = ai_ifge 13 4 (am_run (c_Writer_writeNumber s_Waiting_append) k_Writer_writeNumber J K n) K 1 L S M := by rfl
theorem r_Writer_writeNumber_4 {s_Waiting_append : aS} {J : aJ} {K : aR} {n : Nat} {L : aL} {S : List Value} {M : aM} : am_run (c_Writer_writeNumber s_Waiting_append) k_Writer_writeNumber J K (n + 1) 4 L S M = ai_aload 0 5 (am_run (c_Writer_writeNumber s_Waiting_append) k_Writer_writeNumber J K n) K 4 L S M := by rfl
theorem r_Writer_writeNumber_5 {s_Waiting_append : aS} {J : aJ} {K : aR} {n : Nat} {L : aL} {S : List Value} {M : aM} : am_run (c_Writer_writeNumber s_Waiting_append) k_Writer_writeNumber J K (n + 1) 5 L S M = ai_getf 5 1 8 (am_run (c_Writer_writeNumber s_Waiting_append) k_Writer_writeNumber J K n) K 5 L S M := by rfl
theorem r_Writer_writeNumber_8 {s_Waiting_append : aS} {J : aJ} {K : aR} {n : Nat} {L : aL} {S : List Value} {M : aM} : am_run (c_Writer_writeNumber s_Waiting_append) k_Writer_writeNumber J K (n + 1) 8 L S M = ai_const 45 10 (am_run (c_Writer_writeNumber s_Waiting_append) k_Writer_writeNumber J K n) K 8 L S M := by rfl
theorem r_Writer_writeNumber_10 {s_Waiting_append : aS} {J : aJ} {K : aR} {n : Nat} {L : aL} {S : List Value} {M : aM} : am_run (c_Writer_writeNumber s_Waiting_append) k_Writer_writeNumber J K (n + 1) 10 L S M = ai_callv2 4 s_Waiting_append 13 (am_run (c_Writer_writeNumber s_Waiting_append) k_Writer_writeNumber J K n) K 10 L S M := by rfl
theorem r_Writer_writeNumber_13 {s_Waiting_append : aS} {J : aJ} {K : aR} {n : Nat} {L : aL} {S : List Value} {M : aM} : am_run (c_Writer_writeNumber s_Waiting_append) k_Writer_writeNumber J K (n + 1) 13 L S M = ai_iload 1 14 (am_run (c_Writer_writeNumber s_Waiting_append) k_Writer_writeNumber J K n) K 13 L S M := by rfl
theorem r_Writer_writeNumber_14 {s_Waiting_append : aS} {J : aJ} {K : aR} {n : Nat} {L : aL} {S : List Value} {M : aM} : am_run (c_Writer_writeNumber s_Waiting_append) k_Writer_writeNumber J K (n + 1) 14 L S M = ai_ifge 22 17 (am_run (c_Writer_writeNumber s_Waiting_append) k_Writer_writeNumber J K n) K 14 L S M := by rfl
theorem r_Writer_writeNumber_17 {s_Waiting_append : aS} {J : aJ} {K : aR} {n : Nat} {L : aL} {S : List Value} {M : aM} : am_run (c_Writer_writeNumber s_Waiting_append) k_Writer_writeNumber J K (n + 1) 17 L S M = ai_iload 1 18 (am_run (c_Writer_writeNumber s_Waiting_append) k_Writer_writeNumber J K n) K 17 L S M := by rfl
theorem r_Writer_writeNumber_18 {s_Waiting_append : aS} {J : aJ} {K : aR} {n : Nat} {L : aL} {S : List Value} {M : aM} : am_run (c_Writer_writeNumber s_Waiting_append) k_Writer_writeNumber J K (n + 1) 18 L S M = ai_ineg 19 (am_run (c_Writer_writeNumber s_Waiting_append) k_Writer_writeNumber J K n) K 18 L S M := by rfl
theorem r_Writer_writeNumber_19 {s_Waiting_append : aS} {J : aJ} {K : aR} {n : Nat} {L : aL} {S : List Value} {M : aM} : am_run (c_Writer_writeNumber s_Waiting_append) k_Writer_writeNumber J K (n + 1) 19 L S M = ai_goto 23 (am_run (c_Writer_writeNumber s_Waiting_append) k_Writer_writeNumber J K n) K 19 L S M := by rfl
theorem r_Writer_writeNumber_22 {s_Waiting_append : aS} {J : aJ} {K : aR} {n : Nat} {L : aL} {S : List Value} {M : aM} : am_run (c_Writer_writeNumber s_Waiting_append) k_Writer_writeNumber J K (n + 1) 22 L S M = ai_iload 1 23 (am_run (c_Writer_writeNumber s_Waiting_append) k_Writer_writeNumber J K n) K 22 L S M := by rfl
theorem r_Writer_writeNumber_23 {s_Waiting_append : aS} {J : aJ} {K : aR} {n : Nat} {L : aL} {S : List Value} {M : aM} : am_run (c_Writer_writeNumber s_Waiting_append) k_Writer_writeNumber J K (n + 1) 23 L S M = ai_istore 2 24 (am_run (c_Writer_writeNumber s_Waiting_append) k_Writer_writeNumber J K n) K 23 L S M := by rfl
theorem r_Writer_writeNumber_24 {s_Waiting_append : aS} {J : aJ} {K : aR} {n : Nat} {L : aL} {S : List Value} {M : aM} : am_run (c_Writer_writeNumber s_Waiting_append) k_Writer_writeNumber J K (n + 1) 24 L S M = ai_const 100000000 26 (am_run (c_Writer_writeNumber s_Waiting_append) k_Writer_writeNumber J K n) K 24 L S M := by rfl
theorem r_Writer_writeNumber_26 {s_Waiting_append : aS} {J : aJ} {K : aR} {n : Nat} {L : aL} {S : List Value} {M : aM} : am_run (c_Writer_writeNumber s_Waiting_append) k_Writer_writeNumber J K (n + 1) 26 L S M = ai_istore 3 27 (am_run (c_Writer_writeNumber s_Waiting_append) k_Writer_writeNumber J K n) K 26 L S M := by rfl
theorem r_Writer_writeNumber_27 {s_Waiting_append : aS} {J : aJ} {K : aR} {n : Nat} {L : aL} {S : List Value} {M : aM} : am_run (c_Writer_writeNumber s_Waiting_append) k_Writer_writeNumber J K (n + 1) 27 L S M = J 27 L S M := by rfl
theorem r_Writer_writeNumber_28 {s_Waiting_append : aS} {J : aJ} {K : aR} {n : Nat} {L : aL} {S : List Value} {M : aM} : am_run (c_Writer_writeNumber s_Waiting_append) k_Writer_writeNumber J K (n + 1) 28 L S M = ai_ifle 65 31 (am_run (c_Writer_writeNumber s_Waiting_append) k_Writer_writeNumber J K n) K 28 L S M := by rfl
theorem r_Writer_writeNumber_31 {s_Waiting_append : aS} {J : aJ} {K : aR} {n : Nat} {L : aL} {S : List Value} {M : aM} : am_run (c_Writer_writeNumber s_Waiting_append) k_Writer_writeNumber J K (n + 1) 31 L S M = ai_iload 2 32 (am_run (c_Writer_writeNumber s_Waiting_append) k_Writer_writeNumber J K n) K 31 L S M := by rfl
theorem r_Writer_writeNumber_32 {s_Waiting_append : aS} {J : aJ} {K : aR} {n : Nat} {L : aL} {S : List Value} {M : aM} : am_run (c_Writer_writeNumber s_Waiting_append) k_Writer_writeNumber J K (n + 1) 32 L S M = ai_iload 3 33 (am_run (c_Writer_writeNumber s_Waiting_append) k_Writer_writeNumber J K n) K 32 L S M := by rfl
theorem r_Writer_writeNumber_33 {s_Waiting_append : aS} {J : aJ} {K : aR} {n : Nat} {L : aL} {S : List Value} {M : aM} : am_run (c_Writer_writeNumber s_Waiting_append) k_Writer_writeNumber J K (n + 1) 33 L S M = ai_cmpge 41 36 (am_run (c_Writer_writeNumber s_Waiting_append) k_Writer_writeNumber J K n) K 33 L S M := by rfl
theorem r_Writer_writeNumber_36 {s_Waiting_append : aS} {J : aJ} {K : aR} {n : Nat} {L : aL} {S : List Value} {M : aM} : am_run (c_Writer_writeNumber s_Waiting_append) k_Writer_writeNumber J K (n + 1) 36 L S M = ai_iload 3 37 (am_run (c_Writer_writeNumber s_Waiting_append) k_Writer_writeNumber J K n) K 36 L S M := by rfl
theorem r_Writer_writeNumber_37 {s_Waiting_append : aS} {J : aJ} {K : aR} {n : Nat} {L : aL} {S : List Value} {M : aM} : am_run (c_Writer_writeNumber s_Waiting_append) k_Writer_writeNumber J K (n + 1) 37 L S M = ai_const 1 38 (am_run (c_Writer_writeNumber s_Waiting_append) k_Writer_writeNumber J K n) K 37 L S M := by rfl
theorem r_Writer_writeNumber_38 {s_Waiting_append : aS} {J : aJ} {K : aR} {n : Nat} {L : aL} {S : List Value} {M : aM} : am_run (c_Writer_writeNumber s_Waiting_append) k_Writer_writeNumber J K (n + 1) 38 L S M = ai_cmpne 57 41 (am_run (c_Writer_writeNumber s_Waiting_append) k_Writer_writeNumber J K n) K 38 L S M := by rfl
theorem r_Writer_writeNumber_41 {s_Waiting_append : aS} {J : aJ} {K : aR} {n : Nat} {L : aL} {S : List Value} {M : aM} : am_run (c_Writer_writeNumber s_Waiting_append) k_Writer_writeNumber J K (n + 1) 41 L S M = ai_aload 0 42 (am_run (c_Writer_writeNumber s_Waiting_append) k_Writer_writeNumber J K n) K 41 L S M := by rfl
theorem r_Writer_writeNumber_42 {s_Waiting_append : aS} {J : aJ} {K : aR} {n : Nat} {L : aL} {S : List Value} {M : aM} : am_run (c_Writer_writeNumber s_Waiting_append) k_Writer_writeNumber J K (n + 1) 42 L S M = ai_getf 5 1 45 (am_run (c_Writer_writeNumber s_Waiting_append) k_Writer_writeNumber J K n) K 42 L S M := by rfl
theorem r_Writer_writeNumber_45 {s_Waiting_append : aS} {J : aJ} {K : aR} {n : Nat} {L : aL} {S : List Value} {M : aM} : am_run (c_Writer_writeNumber s_Waiting_append) k_Writer_writeNumber J K (n + 1) 45 L S M = ai_const 48 47 (am_run (c_Writer_writeNumber s_Waiting_append) k_Writer_writeNumber J K n) K 45 L S M := by rfl
theorem r_Writer_writeNumber_47 {s_Waiting_append : aS} {J : aJ} {K : aR} {n : Nat} {L : aL} {S : List Value} {M : aM} : am_run (c_Writer_writeNumber s_Waiting_append) k_Writer_writeNumber J K (n + 1) 47 L S M = ai_iload 2 48 (am_run (c_Writer_writeNumber s_Waiting_append) k_Writer_writeNumber J K n) K 47 L S M := by rfl
theorem r_Writer_writeNumber_48 {s_Waiting_append : aS} {J : aJ} {K : aR} {n : Nat} {L : aL} {S : List Value} {M : aM} : am_run (c_Writer_writeNumber s_Waiting_append) k_Writer_writeNumber J K (n + 1) 48 L S M = ai_iload 3 49 (am_run (c_Writer_writeNumber s_Waiting_append) k_Writer_writeNumber J K n) K 48 L S M := by rfl
theorem r_Writer_writeNumber_49 {s_Waiting_append : aS} {J : aJ} {K : aR} {n : Nat} {L : aL} {S : List Value} {M : aM} : am_run (c_Writer_writeNumber s_Waiting_append) k_Writer_writeNumber J K (n + 1) 49 L S M = ai_idiv 50 (am_run (c_Writer_writeNumber s_Waiting_append) k_Writer_writeNumber J K n) K 49 L S M := by rfl
theorem r_Writer_writeNumber_50 {s_Waiting_append : aS} {J : aJ} {K : aR} {n : Nat} {L : aL} {S : List Value} {M : aM} : am_run (c_Writer_writeNumber s_Waiting_append) k_Writer_writeNumber J K (n + 1) 50 L S M = ai_const 10 52 (am_run (c_Writer_writeNumber s_Waiting_append) k_Writer_writeNumber J K n) K 50 L S M := by rfl
theorem r_Writer_writeNumber_52 {s_Waiting_append : aS} {J : aJ} {K : aR} {n : Nat} {L : aL} {S : List Value} {M : aM} : am_run (c_Writer_writeNumber s_Waiting_append) k_Writer_writeNumber J K (n + 1) 52 L S M = ai_irem 53 (am_run (c_Writer_writeNumber s_Waiting_append) k_Writer_writeNumber J K n) K 52 L S M := by rfl
theorem r_Writer_writeNumber_53 {s_Waiting_append : aS} {J : aJ} {K : aR} {n : Nat} {L : aL} {S : List Value} {M : aM} : am_run (c_Writer_writeNumber s_Waiting_append) k_Writer_writeNumber J K (n + 1) 53 L S M = ai_iadd 54 (am_run (c_Writer_writeNumber s_Waiting_append) k_Writer_writeNumber J K n) K 53 L S M := by rfl
theorem r_Writer_writeNumber_54 {s_Waiting_append : aS} {J : aJ} {K : aR} {n : Nat} {L : aL} {S : List Value} {M : aM} : am_run (c_Writer_writeNumber s_Waiting_append) k_Writer_writeNumber J K (n + 1) 54 L S M = ai_callv2 4 s_Waiting_append 57 (am_run (c_Writer_writeNumber s_Waiting_append) k_Writer_writeNumber J K n) K 54 L S M := by rfl
theorem r_Writer_writeNumber_57 {s_Waiting_append : aS} {J : aJ} {K : aR} {n : Nat} {L : aL} {S : List Value} {M : aM} : am_run (c_Writer_writeNumber s_Waiting_append) k_Writer_writeNumber J K (n + 1) 57 L S M = ai_iload 3 58 (am_run (c_Writer_writeNumber s_Waiting_append) k_Writer_writeNumber J K n) K 57 L S M := by rfl
theorem r_Writer_writeNumber_58 {s_Waiting_append : aS} {J : aJ} {K : aR} {n : Nat} {L : aL} {S : List Value} {M : aM} : am_run (c_Writer_writeNumber s_Waiting_append) k_Writer_writeNumber J K (n + 1) 58 L S M = ai_const 10 60 (am_run (c_Writer_writeNumber s_Waiting_append) k_Writer_writeNumber J K n) K 58 L S M := by rfl
theorem r_Writer_writeNumber_60 {s_Waiting_append : aS} {J : aJ} {K : aR} {n : Nat} {L : aL} {S : List Value} {M : aM} : am_run (c_Writer_writeNumber s_Waiting_append) k_Writer_writeNumber J K (n + 1) 60 L S M = ai_idiv 61 (am_run (c_Writer_writeNumber s_Waiting_append) k_Writer_writeNumber J K n) K 60 L S M := by rfl
theorem r_Writer_writeNumber_61 {s_Waiting_append : aS} {J : aJ} {K : aR} {n : Nat} {L : aL} {S : List Value} {M : aM} : am_run (c_Writer_writeNumber s_Waiting_append) k_Writer_writeNumber J K (n + 1) 61 L S M = ai_istore 3 62 (am_run (c_Writer_writeNumber s_Waiting_append) k_Writer_writeNumber J K n) K 61 L S M := by rfl
theorem r_Writer_writeNumber_62 {s_Waiting_append : aS} {J : aJ} {K : aR} {n : Nat} {L : aL} {S : List Value} {M : aM} : am_run (c_Writer_writeNumber s_Waiting_append) k_Writer_writeNumber J K (n + 1) 62 L S M = ai_goto 27 (am_run (c_Writer_writeNumber s_Waiting_append) k_Writer_writeNumber J K n) K 62 L S M := by rfl
theorem r_Writer_writeNumber_65 {s_Waiting_append : aS} {J : aJ} {K : aR} {n : Nat} {L : aL} {S : List Value} {M : aM} : am_run (c_Writer_writeNumber s_Waiting_append) k_Writer_writeNumber J K (n + 1) 65 L S M = ai_vret (am_run (c_Writer_writeNumber s_Waiting_append) k_Writer_writeNumber J K n) K 65 L S M := by rfl
def c_Writer_writeName (s_Nodes_amountOf : aS) (s_Nodes_byteOf : aS) (s_Waiting_append : aS) : List (Nat × aI) := [
  (0, ai_aload 0 1),
  (1, ai_getf 5 0 4),
  (4, ai_iload 1 5),
  (5, ai_callv2 0 s_Nodes_amountOf 8),
  (8, ai_istore 2 9),
  (9, ai_const 0 10),
  (10, ai_istore 3 11),
  (11, ai_iload 3 12),
  (12, ai_iload 2 13),
  (13, ai_cmpge 38 16),
  (16, ai_aload 0 17),
  (17, ai_getf 5 1 20),
  (20, ai_aload 0 21),
  (21, ai_getf 5 0 24),
  (24, ai_iload 1 25),
  (25, ai_iload 3 26),
  (26, ai_callv3 0 s_Nodes_byteOf 29),
  (29, ai_callv2 4 s_Waiting_append 32),
  (32, ai_iinc 3 1 35),
  (35, ai_goto 11),
  (38, ai_vret)]
set_option maxRecDepth 100000 in
set_option maxHeartbeats 4000000 in
theorem tb_Writer_writeName {G : aG} {d : Nat} {s_Nodes_amountOf : aS} {d_Nodes_amountOf : Nat} (h_Nodes_amountOf : am_Sp G Y_Nodes_amountOf d_Nodes_amountOf s_Nodes_amountOf) (l_Nodes_amountOf : d_Nodes_amountOf < d) {s_Nodes_byteOf : aS} {d_Nodes_byteOf : Nat} (h_Nodes_byteOf : am_Sp G Y_Nodes_byteOf d_Nodes_byteOf s_Nodes_byteOf) (l_Nodes_byteOf : d_Nodes_byteOf < d) {s_Waiting_append : aS} {d_Waiting_append : Nat} (h_Waiting_append : am_Sp G Y_Waiting_append d_Waiting_append s_Waiting_append) (l_Waiting_append : d_Waiting_append < d) : am_tab G Y_Writer_writeName d (c_Writer_writeName s_Nodes_amountOf s_Nodes_byteOf s_Waiting_append) := by
  intro K p e s m args below meth c C
  exact ⟨as_aload_n C (pc := 0) (q := 0) (by decide +kernel) rfl rfl,
    as_getf C (pc := 1) (T := T_Writer) (N := 2) rfl in_Writer (by decide) rfl w_216 (by decide +kernel) rfl,
    as_iload_n C (pc := 4) (q := 1) (by decide +kernel) rfl rfl,
    as_callv2N C (pc := 5) h_Nodes_amountOf (T := T_Nodes) (N := 10) rfl w_409 w_72 w_408 w_34 w_460 hy_Nodes_amountOf (am_rm_of l_Nodes_amountOf (by decide)) (by decide +kernel) rfl,
    as_istore_n C (pc := 8) (q := 2) (by decide +kernel) rfl (by decide) rfl,
    as_iconst C (pc := 9) (n := 0) (by decide +kernel) (by decide +kernel) rfl,
    as_istore_n C (pc := 10) (q := 3) (by decide +kernel) rfl (by decide) rfl,
    as_iload_n C (pc := 11) (q := 3) (by decide +kernel) rfl rfl,
    as_iload_n C (pc := 12) (q := 2) (by decide +kernel) rfl rfl,
    as_cmpge C (pc := 13) (off := 25) (by decide +kernel) (by decide) rfl,
    as_aload_n C (pc := 16) (q := 0) (by decide +kernel) rfl rfl,
    as_getf C (pc := 17) (T := T_Writer) (N := 2) rfl in_Writer (by decide) rfl w_217 (by decide +kernel) rfl,
    as_aload_n C (pc := 20) (q := 0) (by decide +kernel) rfl rfl,
    as_getf C (pc := 21) (T := T_Writer) (N := 2) rfl in_Writer (by decide) rfl w_216 (by decide +kernel) rfl,
    as_iload_n C (pc := 24) (q := 1) (by decide +kernel) rfl rfl,
    as_iload_n C (pc := 25) (q := 3) (by decide +kernel) rfl rfl,
    as_callv3N C (pc := 26) h_Nodes_byteOf (T := T_Nodes) (N := 10) rfl w_417 w_72 w_416 w_35 w_474 hy_Nodes_byteOf (am_rm_of l_Nodes_byteOf (by decide)) (by decide +kernel) rfl,
    as_callv2N C (pc := 29) h_Waiting_append (T := T_Waiting) (N := 3) rfl w_468 w_76 w_467 w_43 w_465 hy_Waiting_append (am_rm_of l_Waiting_append (by decide)) (by decide +kernel) rfl,
    as_iinc C (pc := 32) (k := 3) (n := 1) (by decide +kernel) (by decide +kernel) (by decide) rfl,
    as_goto C (pc := 35) (off := (-24)) (by decide +kernel) (by decide),
    as_vret C (pc := 38) rfl (by decide +kernel), trivial⟩
abbrev k_Writer_writeName : List Nat := [11]
theorem q_Writer_writeName_11 {s_Nodes_amountOf : aS} {s_Nodes_byteOf : aS} {s_Waiting_append : aS} : am_at (c_Writer_writeName s_Nodes_amountOf s_Nodes_byteOf s_Waiting_append) 11 = ai_iload 3 12 := by rfl
theorem r_Writer_writeName_0 {s_Nodes_amountOf : aS} {s_Nodes_byteOf : aS} {s_Waiting_append : aS} {J : aJ} {K : aR} {n : Nat} {L : aL} {S : List Value} {M : aM} : am_run (c_Writer_writeName s_Nodes_amountOf s_Nodes_byteOf s_Waiting_append) k_Writer_writeName J K (n + 1) 0 L S M = ai_aload 0 1 (am_run (c_Writer_writeName s_Nodes_amountOf s_Nodes_byteOf s_Waiting_append) k_Writer_writeName J K n) K 0 L S M := by rfl
theorem r_Writer_writeName_1 {s_Nodes_amountOf : aS} {s_Nodes_byteOf : aS} {s_Waiting_append : aS} {J : aJ} {K : aR} {n : Nat} {L : aL} {S : List Value} {M : aM} : am_run (c_Writer_writeName s_Nodes_amountOf s_Nodes_byteOf s_Waiting_append) k_Writer_writeName J K (n + 1) 1 L S M = ai_getf 5 0 4 (am_run (c_Writer_writeName s_Nodes_amountOf s_Nodes_byteOf s_Waiting_append) k_Writer_writeName J K n) K 1 L S M := by rfl
theorem r_Writer_writeName_4 {s_Nodes_amountOf : aS} {s_Nodes_byteOf : aS} {s_Waiting_append : aS} {J : aJ} {K : aR} {n : Nat} {L : aL} {S : List Value} {M : aM} : am_run (c_Writer_writeName s_Nodes_amountOf s_Nodes_byteOf s_Waiting_append) k_Writer_writeName J K (n + 1) 4 L S M = ai_iload 1 5 (am_run (c_Writer_writeName s_Nodes_amountOf s_Nodes_byteOf s_Waiting_append) k_Writer_writeName J K n) K 4 L S M := by rfl
theorem r_Writer_writeName_5 {s_Nodes_amountOf : aS} {s_Nodes_byteOf : aS} {s_Waiting_append : aS} {J : aJ} {K : aR} {n : Nat} {L : aL} {S : List Value} {M : aM} : am_run (c_Writer_writeName s_Nodes_amountOf s_Nodes_byteOf s_Waiting_append) k_Writer_writeName J K (n + 1) 5 L S M = ai_callv2 0 s_Nodes_amountOf 8 (am_run (c_Writer_writeName s_Nodes_amountOf s_Nodes_byteOf s_Waiting_append) k_Writer_writeName J K n) K 5 L S M := by rfl
theorem r_Writer_writeName_8 {s_Nodes_amountOf : aS} {s_Nodes_byteOf : aS} {s_Waiting_append : aS} {J : aJ} {K : aR} {n : Nat} {L : aL} {S : List Value} {M : aM} : am_run (c_Writer_writeName s_Nodes_amountOf s_Nodes_byteOf s_Waiting_append) k_Writer_writeName J K (n + 1) 8 L S M = ai_istore 2 9 (am_run (c_Writer_writeName s_Nodes_amountOf s_Nodes_byteOf s_Waiting_append) k_Writer_writeName J K n) K 8 L S M := by rfl
theorem r_Writer_writeName_9 {s_Nodes_amountOf : aS} {s_Nodes_byteOf : aS} {s_Waiting_append : aS} {J : aJ} {K : aR} {n : Nat} {L : aL} {S : List Value} {M : aM} : am_run (c_Writer_writeName s_Nodes_amountOf s_Nodes_byteOf s_Waiting_append) k_Writer_writeName J K (n + 1) 9 L S M = ai_const 0 10 (am_run (c_Writer_writeName s_Nodes_amountOf s_Nodes_byteOf s_Waiting_append) k_Writer_writeName J K n) K 9 L S M := by rfl
theorem r_Writer_writeName_10 {s_Nodes_amountOf : aS} {s_Nodes_byteOf : aS} {s_Waiting_append : aS} {J : aJ} {K : aR} {n : Nat} {L : aL} {S : List Value} {M : aM} : am_run (c_Writer_writeName s_Nodes_amountOf s_Nodes_byteOf s_Waiting_append) k_Writer_writeName J K (n + 1) 10 L S M = ai_istore 3 11 (am_run (c_Writer_writeName s_Nodes_amountOf s_Nodes_byteOf s_Waiting_append) k_Writer_writeName J K n) K 10 L S M := by rfl
theorem r_Writer_writeName_11 {s_Nodes_amountOf : aS} {s_Nodes_byteOf : aS} {s_Waiting_append : aS} {J : aJ} {K : aR} {n : Nat} {L : aL} {S : List Value} {M : aM} : am_run (c_Writer_writeName s_Nodes_amountOf s_Nodes_byteOf s_Waiting_append) k_Writer_writeName J K (n + 1) 11 L S M = J 11 L S M := by rfl
theorem r_Writer_writeName_12 {s_Nodes_amountOf : aS} {s_Nodes_byteOf : aS} {s_Waiting_append : aS} {J : aJ} {K : aR} {n : Nat} {L : aL} {S : List Value} {M : aM} : am_run (c_Writer_writeName s_Nodes_amountOf s_Nodes_byteOf s_Waiting_append) k_Writer_writeName J K (n + 1) 12 L S M = ai_iload 2 13 (am_run (c_Writer_writeName s_Nodes_amountOf s_Nodes_byteOf s_Waiting_append) k_Writer_writeName J K n) K 12 L S M := by rfl
theorem r_Writer_writeName_13 {s_Nodes_amountOf : aS} {s_Nodes_byteOf : aS} {s_Waiting_append : aS} {J : aJ} {K : aR} {n : Nat} {L : aL} {S : List Value} {M : aM} : am_run (c_Writer_writeName s_Nodes_amountOf s_Nodes_byteOf s_Waiting_append) k_Writer_writeName J K (n + 1) 13 L S M = ai_cmpge 38 16 (am_run (c_Writer_writeName s_Nodes_amountOf s_Nodes_byteOf s_Waiting_append) k_Writer_writeName J K n) K 13 L S M := by rfl
theorem r_Writer_writeName_16 {s_Nodes_amountOf : aS} {s_Nodes_byteOf : aS} {s_Waiting_append : aS} {J : aJ} {K : aR} {n : Nat} {L : aL} {S : List Value} {M : aM} : am_run (c_Writer_writeName s_Nodes_amountOf s_Nodes_byteOf s_Waiting_append) k_Writer_writeName J K (n + 1) 16 L S M = ai_aload 0 17 (am_run (c_Writer_writeName s_Nodes_amountOf s_Nodes_byteOf s_Waiting_append) k_Writer_writeName J K n) K 16 L S M := by rfl
theorem r_Writer_writeName_17 {s_Nodes_amountOf : aS} {s_Nodes_byteOf : aS} {s_Waiting_append : aS} {J : aJ} {K : aR} {n : Nat} {L : aL} {S : List Value} {M : aM} : am_run (c_Writer_writeName s_Nodes_amountOf s_Nodes_byteOf s_Waiting_append) k_Writer_writeName J K (n + 1) 17 L S M = ai_getf 5 1 20 (am_run (c_Writer_writeName s_Nodes_amountOf s_Nodes_byteOf s_Waiting_append) k_Writer_writeName J K n) K 17 L S M := by rfl
theorem r_Writer_writeName_20 {s_Nodes_amountOf : aS} {s_Nodes_byteOf : aS} {s_Waiting_append : aS} {J : aJ} {K : aR} {n : Nat} {L : aL} {S : List Value} {M : aM} : am_run (c_Writer_writeName s_Nodes_amountOf s_Nodes_byteOf s_Waiting_append) k_Writer_writeName J K (n + 1) 20 L S M = ai_aload 0 21 (am_run (c_Writer_writeName s_Nodes_amountOf s_Nodes_byteOf s_Waiting_append) k_Writer_writeName J K n) K 20 L S M := by rfl
theorem r_Writer_writeName_21 {s_Nodes_amountOf : aS} {s_Nodes_byteOf : aS} {s_Waiting_append : aS} {J : aJ} {K : aR} {n : Nat} {L : aL} {S : List Value} {M : aM} : am_run (c_Writer_writeName s_Nodes_amountOf s_Nodes_byteOf s_Waiting_append) k_Writer_writeName J K (n + 1) 21 L S M = ai_getf 5 0 24 (am_run (c_Writer_writeName s_Nodes_amountOf s_Nodes_byteOf s_Waiting_append) k_Writer_writeName J K n) K 21 L S M := by rfl
theorem r_Writer_writeName_24 {s_Nodes_amountOf : aS} {s_Nodes_byteOf : aS} {s_Waiting_append : aS} {J : aJ} {K : aR} {n : Nat} {L : aL} {S : List Value} {M : aM} : am_run (c_Writer_writeName s_Nodes_amountOf s_Nodes_byteOf s_Waiting_append) k_Writer_writeName J K (n + 1) 24 L S M = ai_iload 1 25 (am_run (c_Writer_writeName s_Nodes_amountOf s_Nodes_byteOf s_Waiting_append) k_Writer_writeName J K n) K 24 L S M := by rfl
theorem r_Writer_writeName_25 {s_Nodes_amountOf : aS} {s_Nodes_byteOf : aS} {s_Waiting_append : aS} {J : aJ} {K : aR} {n : Nat} {L : aL} {S : List Value} {M : aM} : am_run (c_Writer_writeName s_Nodes_amountOf s_Nodes_byteOf s_Waiting_append) k_Writer_writeName J K (n + 1) 25 L S M = ai_iload 3 26 (am_run (c_Writer_writeName s_Nodes_amountOf s_Nodes_byteOf s_Waiting_append) k_Writer_writeName J K n) K 25 L S M := by rfl
theorem r_Writer_writeName_26 {s_Nodes_amountOf : aS} {s_Nodes_byteOf : aS} {s_Waiting_append : aS} {J : aJ} {K : aR} {n : Nat} {L : aL} {S : List Value} {M : aM} : am_run (c_Writer_writeName s_Nodes_amountOf s_Nodes_byteOf s_Waiting_append) k_Writer_writeName J K (n + 1) 26 L S M = ai_callv3 0 s_Nodes_byteOf 29 (am_run (c_Writer_writeName s_Nodes_amountOf s_Nodes_byteOf s_Waiting_append) k_Writer_writeName J K n) K 26 L S M := by rfl
theorem r_Writer_writeName_29 {s_Nodes_amountOf : aS} {s_Nodes_byteOf : aS} {s_Waiting_append : aS} {J : aJ} {K : aR} {n : Nat} {L : aL} {S : List Value} {M : aM} : am_run (c_Writer_writeName s_Nodes_amountOf s_Nodes_byteOf s_Waiting_append) k_Writer_writeName J K (n + 1) 29 L S M = ai_callv2 4 s_Waiting_append 32 (am_run (c_Writer_writeName s_Nodes_amountOf s_Nodes_byteOf s_Waiting_append) k_Writer_writeName J K n) K 29 L S M := by rfl
theorem r_Writer_writeName_32 {s_Nodes_amountOf : aS} {s_Nodes_byteOf : aS} {s_Waiting_append : aS} {J : aJ} {K : aR} {n : Nat} {L : aL} {S : List Value} {M : aM} : am_run (c_Writer_writeName s_Nodes_amountOf s_Nodes_byteOf s_Waiting_append) k_Writer_writeName J K (n + 1) 32 L S M = ai_iinc 3 1 35 (am_run (c_Writer_writeName s_Nodes_amountOf s_Nodes_byteOf s_Waiting_append) k_Writer_writeName J K n) K 32 L S M := by rfl
theorem r_Writer_writeName_35 {s_Nodes_amountOf : aS} {s_Nodes_byteOf : aS} {s_Waiting_append : aS} {J : aJ} {K : aR} {n : Nat} {L : aL} {S : List Value} {M : aM} : am_run (c_Writer_writeName s_Nodes_amountOf s_Nodes_byteOf s_Waiting_append) k_Writer_writeName J K (n + 1) 35 L S M = ai_goto 11 (am_run (c_Writer_writeName s_Nodes_amountOf s_Nodes_byteOf s_Waiting_append) k_Writer_writeName J K n) K 35 L S M := by rfl
theorem r_Writer_writeName_38 {s_Nodes_amountOf : aS} {s_Nodes_byteOf : aS} {s_Waiting_append : aS} {J : aJ} {K : aR} {n : Nat} {L : aL} {S : List Value} {M : aM} : am_run (c_Writer_writeName s_Nodes_amountOf s_Nodes_byteOf s_Waiting_append) k_Writer_writeName J K (n + 1) 38 L S M = ai_vret (am_run (c_Writer_writeName s_Nodes_amountOf s_Nodes_byteOf s_Waiting_append) k_Writer_writeName J K n) K 38 L S M := by rfl
def c_Writer_writeString (s_Nodes_amountOf : aS) (s_Waiting_append : aS) (s_Nodes_byteOf : aS) : List (Nat × aI) := [
  (0, ai_aload 0 1),
  (1, ai_getf 5 0 4),
  (4, ai_iload 1 5),
  (5, ai_callv2 0 s_Nodes_amountOf 8),
  (8, ai_istore 2 9),
  (9, ai_aload 0 10),
  (10, ai_getf 5 1 13),
  (13, ai_const 34 15),
  (15, ai_callv2 4 s_Waiting_append 18),
  (18, ai_const 0 19),
  (19, ai_istore 3 20),
  (20, ai_iload 3 21),
  (21, ai_iload 2 22),
  (22, ai_cmpge 74 25),
  (25, ai_aload 0 26),
  (26, ai_getf 5 0 29),
  (29, ai_iload 1 30),
  (30, ai_iload 3 31),
  (31, ai_callv3 0 s_Nodes_byteOf 34),
  (34, ai_istore 4 36),
  (36, ai_iload 4 38),
  (38, ai_const 34 40),
  (40, ai_cmpeq 50 43),
  (43, ai_iload 4 45),
  (45, ai_const 92 47),
  (47, ai_cmpne 59 50),
  (50, ai_aload 0 51),
  (51, ai_getf 5 1 54),
  (54, ai_const 92 56),
  (56, ai_callv2 4 s_Waiting_append 59),
  (59, ai_aload 0 60),
  (60, ai_getf 5 1 63),
  (63, ai_iload 4 65),
  (65, ai_callv2 4 s_Waiting_append 68),
  (68, ai_iinc 3 1 71),
  (71, ai_goto 20),
  (74, ai_aload 0 75),
  (75, ai_getf 5 1 78),
  (78, ai_const 34 80),
  (80, ai_callv2 4 s_Waiting_append 83),
  (83, ai_vret)]
set_option maxRecDepth 100000 in
set_option maxHeartbeats 4000000 in
theorem tb_Writer_writeString {G : aG} {d : Nat} {s_Nodes_amountOf : aS} {d_Nodes_amountOf : Nat} (h_Nodes_amountOf : am_Sp G Y_Nodes_amountOf d_Nodes_amountOf s_Nodes_amountOf) (l_Nodes_amountOf : d_Nodes_amountOf < d) {s_Waiting_append : aS} {d_Waiting_append : Nat} (h_Waiting_append : am_Sp G Y_Waiting_append d_Waiting_append s_Waiting_append) (l_Waiting_append : d_Waiting_append < d) {s_Nodes_byteOf : aS} {d_Nodes_byteOf : Nat} (h_Nodes_byteOf : am_Sp G Y_Nodes_byteOf d_Nodes_byteOf s_Nodes_byteOf) (l_Nodes_byteOf : d_Nodes_byteOf < d) : am_tab G Y_Writer_writeString d (c_Writer_writeString s_Nodes_amountOf s_Waiting_append s_Nodes_byteOf) := by
  intro K p e s m args below meth c C
  exact ⟨as_aload_n C (pc := 0) (q := 0) (by decide +kernel) rfl rfl,
    as_getf C (pc := 1) (T := T_Writer) (N := 2) rfl in_Writer (by decide) rfl w_216 (by decide +kernel) rfl,
    as_iload_n C (pc := 4) (q := 1) (by decide +kernel) rfl rfl,
    as_callv2N C (pc := 5) h_Nodes_amountOf (T := T_Nodes) (N := 10) rfl w_409 w_72 w_408 w_34 w_460 hy_Nodes_amountOf (am_rm_of l_Nodes_amountOf (by decide)) (by decide +kernel) rfl,
    as_istore_n C (pc := 8) (q := 2) (by decide +kernel) rfl (by decide) rfl,
    as_aload_n C (pc := 9) (q := 0) (by decide +kernel) rfl rfl,
    as_getf C (pc := 10) (T := T_Writer) (N := 2) rfl in_Writer (by decide) rfl w_217 (by decide +kernel) rfl,
    as_bipush C (pc := 13) (n := 34) (by decide +kernel) (by decide +kernel) rfl,
    as_callv2N C (pc := 15) h_Waiting_append (T := T_Waiting) (N := 3) rfl w_468 w_76 w_467 w_43 w_465 hy_Waiting_append (am_rm_of l_Waiting_append (by decide)) (by decide +kernel) rfl,
    as_iconst C (pc := 18) (n := 0) (by decide +kernel) (by decide +kernel) rfl,
    as_istore_n C (pc := 19) (q := 3) (by decide +kernel) rfl (by decide) rfl,
    as_iload_n C (pc := 20) (q := 3) (by decide +kernel) rfl rfl,
    as_iload_n C (pc := 21) (q := 2) (by decide +kernel) rfl rfl,
    as_cmpge C (pc := 22) (off := 52) (by decide +kernel) (by decide) rfl,
    as_aload_n C (pc := 25) (q := 0) (by decide +kernel) rfl rfl,
    as_getf C (pc := 26) (T := T_Writer) (N := 2) rfl in_Writer (by decide) rfl w_216 (by decide +kernel) rfl,
    as_iload_n C (pc := 29) (q := 1) (by decide +kernel) rfl rfl,
    as_iload_n C (pc := 30) (q := 3) (by decide +kernel) rfl rfl,
    as_callv3N C (pc := 31) h_Nodes_byteOf (T := T_Nodes) (N := 10) rfl w_417 w_72 w_416 w_35 w_474 hy_Nodes_byteOf (am_rm_of l_Nodes_byteOf (by decide)) (by decide +kernel) rfl,
    as_istore C (pc := 34) (k := 4) (by decide +kernel) (by decide) rfl,
    as_iload C (pc := 36) (k := 4) (by decide +kernel) rfl,
    as_bipush C (pc := 38) (n := 34) (by decide +kernel) (by decide +kernel) rfl,
    as_cmpeq C (pc := 40) (off := 10) (by decide +kernel) (by decide) rfl,
    as_iload C (pc := 43) (k := 4) (by decide +kernel) rfl,
    as_bipush C (pc := 45) (n := 92) (by decide +kernel) (by decide +kernel) rfl,
    as_cmpne C (pc := 47) (off := 12) (by decide +kernel) (by decide) rfl,
    as_aload_n C (pc := 50) (q := 0) (by decide +kernel) rfl rfl,
    as_getf C (pc := 51) (T := T_Writer) (N := 2) rfl in_Writer (by decide) rfl w_217 (by decide +kernel) rfl,
    as_bipush C (pc := 54) (n := 92) (by decide +kernel) (by decide +kernel) rfl,
    as_callv2N C (pc := 56) h_Waiting_append (T := T_Waiting) (N := 3) rfl w_468 w_76 w_467 w_43 w_465 hy_Waiting_append (am_rm_of l_Waiting_append (by decide)) (by decide +kernel) rfl,
    as_aload_n C (pc := 59) (q := 0) (by decide +kernel) rfl rfl,
    as_getf C (pc := 60) (T := T_Writer) (N := 2) rfl in_Writer (by decide) rfl w_217 (by decide +kernel) rfl,
    as_iload C (pc := 63) (k := 4) (by decide +kernel) rfl,
    as_callv2N C (pc := 65) h_Waiting_append (T := T_Waiting) (N := 3) rfl w_468 w_76 w_467 w_43 w_465 hy_Waiting_append (am_rm_of l_Waiting_append (by decide)) (by decide +kernel) rfl,
    as_iinc C (pc := 68) (k := 3) (n := 1) (by decide +kernel) (by decide +kernel) (by decide) rfl,
    as_goto C (pc := 71) (off := (-51)) (by decide +kernel) (by decide),
    as_aload_n C (pc := 74) (q := 0) (by decide +kernel) rfl rfl,
    as_getf C (pc := 75) (T := T_Writer) (N := 2) rfl in_Writer (by decide) rfl w_217 (by decide +kernel) rfl,
    as_bipush C (pc := 78) (n := 34) (by decide +kernel) (by decide +kernel) rfl,
    as_callv2N C (pc := 80) h_Waiting_append (T := T_Waiting) (N := 3) rfl w_468 w_76 w_467 w_43 w_465 hy_Waiting_append (am_rm_of l_Waiting_append (by decide)) (by decide +kernel) rfl,
    as_vret C (pc := 83) rfl (by decide +kernel), trivial⟩
abbrev k_Writer_writeString : List Nat := [20]
theorem q_Writer_writeString_20 {s_Nodes_amountOf : aS} {s_Waiting_append : aS} {s_Nodes_byteOf : aS} : am_at (c_Writer_writeString s_Nodes_amountOf s_Waiting_append s_Nodes_byteOf) 20 = ai_iload 3 21 := by rfl
theorem r_Writer_writeString_0 {s_Nodes_amountOf : aS} {s_Waiting_append : aS} {s_Nodes_byteOf : aS} {J : aJ} {K : aR} {n : Nat} {L : aL} {S : List Value} {M : aM} : am_run (c_Writer_writeString s_Nodes_amountOf s_Waiting_append s_Nodes_byteOf) k_Writer_writeString J K (n + 1) 0 L S M = ai_aload 0 1 (am_run (c_Writer_writeString s_Nodes_amountOf s_Waiting_append s_Nodes_byteOf) k_Writer_writeString J K n) K 0 L S M := by rfl
theorem r_Writer_writeString_1 {s_Nodes_amountOf : aS} {s_Waiting_append : aS} {s_Nodes_byteOf : aS} {J : aJ} {K : aR} {n : Nat} {L : aL} {S : List Value} {M : aM} : am_run (c_Writer_writeString s_Nodes_amountOf s_Waiting_append s_Nodes_byteOf) k_Writer_writeString J K (n + 1) 1 L S M = ai_getf 5 0 4 (am_run (c_Writer_writeString s_Nodes_amountOf s_Waiting_append s_Nodes_byteOf) k_Writer_writeString J K n) K 1 L S M := by rfl
theorem r_Writer_writeString_4 {s_Nodes_amountOf : aS} {s_Waiting_append : aS} {s_Nodes_byteOf : aS} {J : aJ} {K : aR} {n : Nat} {L : aL} {S : List Value} {M : aM} : am_run (c_Writer_writeString s_Nodes_amountOf s_Waiting_append s_Nodes_byteOf) k_Writer_writeString J K (n + 1) 4 L S M = ai_iload 1 5 (am_run (c_Writer_writeString s_Nodes_amountOf s_Waiting_append s_Nodes_byteOf) k_Writer_writeString J K n) K 4 L S M := by rfl
theorem r_Writer_writeString_5 {s_Nodes_amountOf : aS} {s_Waiting_append : aS} {s_Nodes_byteOf : aS} {J : aJ} {K : aR} {n : Nat} {L : aL} {S : List Value} {M : aM} : am_run (c_Writer_writeString s_Nodes_amountOf s_Waiting_append s_Nodes_byteOf) k_Writer_writeString J K (n + 1) 5 L S M = ai_callv2 0 s_Nodes_amountOf 8 (am_run (c_Writer_writeString s_Nodes_amountOf s_Waiting_append s_Nodes_byteOf) k_Writer_writeString J K n) K 5 L S M := by rfl
theorem r_Writer_writeString_8 {s_Nodes_amountOf : aS} {s_Waiting_append : aS} {s_Nodes_byteOf : aS} {J : aJ} {K : aR} {n : Nat} {L : aL} {S : List Value} {M : aM} : am_run (c_Writer_writeString s_Nodes_amountOf s_Waiting_append s_Nodes_byteOf) k_Writer_writeString J K (n + 1) 8 L S M = ai_istore 2 9 (am_run (c_Writer_writeString s_Nodes_amountOf s_Waiting_append s_Nodes_byteOf) k_Writer_writeString J K n) K 8 L S M := by rfl
theorem r_Writer_writeString_9 {s_Nodes_amountOf : aS} {s_Waiting_append : aS} {s_Nodes_byteOf : aS} {J : aJ} {K : aR} {n : Nat} {L : aL} {S : List Value} {M : aM} : am_run (c_Writer_writeString s_Nodes_amountOf s_Waiting_append s_Nodes_byteOf) k_Writer_writeString J K (n + 1) 9 L S M = ai_aload 0 10 (am_run (c_Writer_writeString s_Nodes_amountOf s_Waiting_append s_Nodes_byteOf) k_Writer_writeString J K n) K 9 L S M := by rfl
theorem r_Writer_writeString_10 {s_Nodes_amountOf : aS} {s_Waiting_append : aS} {s_Nodes_byteOf : aS} {J : aJ} {K : aR} {n : Nat} {L : aL} {S : List Value} {M : aM} : am_run (c_Writer_writeString s_Nodes_amountOf s_Waiting_append s_Nodes_byteOf) k_Writer_writeString J K (n + 1) 10 L S M = ai_getf 5 1 13 (am_run (c_Writer_writeString s_Nodes_amountOf s_Waiting_append s_Nodes_byteOf) k_Writer_writeString J K n) K 10 L S M := by rfl
theorem r_Writer_writeString_13 {s_Nodes_amountOf : aS} {s_Waiting_append : aS} {s_Nodes_byteOf : aS} {J : aJ} {K : aR} {n : Nat} {L : aL} {S : List Value} {M : aM} : am_run (c_Writer_writeString s_Nodes_amountOf s_Waiting_append s_Nodes_byteOf) k_Writer_writeString J K (n + 1) 13 L S M = ai_const 34 15 (am_run (c_Writer_writeString s_Nodes_amountOf s_Waiting_append s_Nodes_byteOf) k_Writer_writeString J K n) K 13 L S M := by rfl
theorem r_Writer_writeString_15 {s_Nodes_amountOf : aS} {s_Waiting_append : aS} {s_Nodes_byteOf : aS} {J : aJ} {K : aR} {n : Nat} {L : aL} {S : List Value} {M : aM} : am_run (c_Writer_writeString s_Nodes_amountOf s_Waiting_append s_Nodes_byteOf) k_Writer_writeString J K (n + 1) 15 L S M = ai_callv2 4 s_Waiting_append 18 (am_run (c_Writer_writeString s_Nodes_amountOf s_Waiting_append s_Nodes_byteOf) k_Writer_writeString J K n) K 15 L S M := by rfl
theorem r_Writer_writeString_18 {s_Nodes_amountOf : aS} {s_Waiting_append : aS} {s_Nodes_byteOf : aS} {J : aJ} {K : aR} {n : Nat} {L : aL} {S : List Value} {M : aM} : am_run (c_Writer_writeString s_Nodes_amountOf s_Waiting_append s_Nodes_byteOf) k_Writer_writeString J K (n + 1) 18 L S M = ai_const 0 19 (am_run (c_Writer_writeString s_Nodes_amountOf s_Waiting_append s_Nodes_byteOf) k_Writer_writeString J K n) K 18 L S M := by rfl
theorem r_Writer_writeString_19 {s_Nodes_amountOf : aS} {s_Waiting_append : aS} {s_Nodes_byteOf : aS} {J : aJ} {K : aR} {n : Nat} {L : aL} {S : List Value} {M : aM} : am_run (c_Writer_writeString s_Nodes_amountOf s_Waiting_append s_Nodes_byteOf) k_Writer_writeString J K (n + 1) 19 L S M = ai_istore 3 20 (am_run (c_Writer_writeString s_Nodes_amountOf s_Waiting_append s_Nodes_byteOf) k_Writer_writeString J K n) K 19 L S M := by rfl
theorem r_Writer_writeString_20 {s_Nodes_amountOf : aS} {s_Waiting_append : aS} {s_Nodes_byteOf : aS} {J : aJ} {K : aR} {n : Nat} {L : aL} {S : List Value} {M : aM} : am_run (c_Writer_writeString s_Nodes_amountOf s_Waiting_append s_Nodes_byteOf) k_Writer_writeString J K (n + 1) 20 L S M = J 20 L S M := by rfl
theorem r_Writer_writeString_21 {s_Nodes_amountOf : aS} {s_Waiting_append : aS} {s_Nodes_byteOf : aS} {J : aJ} {K : aR} {n : Nat} {L : aL} {S : List Value} {M : aM} : am_run (c_Writer_writeString s_Nodes_amountOf s_Waiting_append s_Nodes_byteOf) k_Writer_writeString J K (n + 1) 21 L S M = ai_iload 2 22 (am_run (c_Writer_writeString s_Nodes_amountOf s_Waiting_append s_Nodes_byteOf) k_Writer_writeString J K n) K 21 L S M := by rfl
theorem r_Writer_writeString_22 {s_Nodes_amountOf : aS} {s_Waiting_append : aS} {s_Nodes_byteOf : aS} {J : aJ} {K : aR} {n : Nat} {L : aL} {S : List Value} {M : aM} : am_run (c_Writer_writeString s_Nodes_amountOf s_Waiting_append s_Nodes_byteOf) k_Writer_writeString J K (n + 1) 22 L S M = ai_cmpge 74 25 (am_run (c_Writer_writeString s_Nodes_amountOf s_Waiting_append s_Nodes_byteOf) k_Writer_writeString J K n) K 22 L S M := by rfl
theorem r_Writer_writeString_25 {s_Nodes_amountOf : aS} {s_Waiting_append : aS} {s_Nodes_byteOf : aS} {J : aJ} {K : aR} {n : Nat} {L : aL} {S : List Value} {M : aM} : am_run (c_Writer_writeString s_Nodes_amountOf s_Waiting_append s_Nodes_byteOf) k_Writer_writeString J K (n + 1) 25 L S M = ai_aload 0 26 (am_run (c_Writer_writeString s_Nodes_amountOf s_Waiting_append s_Nodes_byteOf) k_Writer_writeString J K n) K 25 L S M := by rfl
theorem r_Writer_writeString_26 {s_Nodes_amountOf : aS} {s_Waiting_append : aS} {s_Nodes_byteOf : aS} {J : aJ} {K : aR} {n : Nat} {L : aL} {S : List Value} {M : aM} : am_run (c_Writer_writeString s_Nodes_amountOf s_Waiting_append s_Nodes_byteOf) k_Writer_writeString J K (n + 1) 26 L S M = ai_getf 5 0 29 (am_run (c_Writer_writeString s_Nodes_amountOf s_Waiting_append s_Nodes_byteOf) k_Writer_writeString J K n) K 26 L S M := by rfl
theorem r_Writer_writeString_29 {s_Nodes_amountOf : aS} {s_Waiting_append : aS} {s_Nodes_byteOf : aS} {J : aJ} {K : aR} {n : Nat} {L : aL} {S : List Value} {M : aM} : am_run (c_Writer_writeString s_Nodes_amountOf s_Waiting_append s_Nodes_byteOf) k_Writer_writeString J K (n + 1) 29 L S M = ai_iload 1 30 (am_run (c_Writer_writeString s_Nodes_amountOf s_Waiting_append s_Nodes_byteOf) k_Writer_writeString J K n) K 29 L S M := by rfl
theorem r_Writer_writeString_30 {s_Nodes_amountOf : aS} {s_Waiting_append : aS} {s_Nodes_byteOf : aS} {J : aJ} {K : aR} {n : Nat} {L : aL} {S : List Value} {M : aM} : am_run (c_Writer_writeString s_Nodes_amountOf s_Waiting_append s_Nodes_byteOf) k_Writer_writeString J K (n + 1) 30 L S M = ai_iload 3 31 (am_run (c_Writer_writeString s_Nodes_amountOf s_Waiting_append s_Nodes_byteOf) k_Writer_writeString J K n) K 30 L S M := by rfl
theorem r_Writer_writeString_31 {s_Nodes_amountOf : aS} {s_Waiting_append : aS} {s_Nodes_byteOf : aS} {J : aJ} {K : aR} {n : Nat} {L : aL} {S : List Value} {M : aM} : am_run (c_Writer_writeString s_Nodes_amountOf s_Waiting_append s_Nodes_byteOf) k_Writer_writeString J K (n + 1) 31 L S M = ai_callv3 0 s_Nodes_byteOf 34 (am_run (c_Writer_writeString s_Nodes_amountOf s_Waiting_append s_Nodes_byteOf) k_Writer_writeString J K n) K 31 L S M := by rfl
theorem r_Writer_writeString_34 {s_Nodes_amountOf : aS} {s_Waiting_append : aS} {s_Nodes_byteOf : aS} {J : aJ} {K : aR} {n : Nat} {L : aL} {S : List Value} {M : aM} : am_run (c_Writer_writeString s_Nodes_amountOf s_Waiting_append s_Nodes_byteOf) k_Writer_writeString J K (n + 1) 34 L S M = ai_istore 4 36 (am_run (c_Writer_writeString s_Nodes_amountOf s_Waiting_append s_Nodes_byteOf) k_Writer_writeString J K n) K 34 L S M := by rfl
theorem r_Writer_writeString_36 {s_Nodes_amountOf : aS} {s_Waiting_append : aS} {s_Nodes_byteOf : aS} {J : aJ} {K : aR} {n : Nat} {L : aL} {S : List Value} {M : aM} : am_run (c_Writer_writeString s_Nodes_amountOf s_Waiting_append s_Nodes_byteOf) k_Writer_writeString J K (n + 1) 36 L S M = ai_iload 4 38 (am_run (c_Writer_writeString s_Nodes_amountOf s_Waiting_append s_Nodes_byteOf) k_Writer_writeString J K n) K 36 L S M := by rfl
theorem r_Writer_writeString_38 {s_Nodes_amountOf : aS} {s_Waiting_append : aS} {s_Nodes_byteOf : aS} {J : aJ} {K : aR} {n : Nat} {L : aL} {S : List Value} {M : aM} : am_run (c_Writer_writeString s_Nodes_amountOf s_Waiting_append s_Nodes_byteOf) k_Writer_writeString J K (n + 1) 38 L S M = ai_const 34 40 (am_run (c_Writer_writeString s_Nodes_amountOf s_Waiting_append s_Nodes_byteOf) k_Writer_writeString J K n) K 38 L S M := by rfl
theorem r_Writer_writeString_40 {s_Nodes_amountOf : aS} {s_Waiting_append : aS} {s_Nodes_byteOf : aS} {J : aJ} {K : aR} {n : Nat} {L : aL} {S : List Value} {M : aM} : am_run (c_Writer_writeString s_Nodes_amountOf s_Waiting_append s_Nodes_byteOf) k_Writer_writeString J K (n + 1) 40 L S M = ai_cmpeq 50 43 (am_run (c_Writer_writeString s_Nodes_amountOf s_Waiting_append s_Nodes_byteOf) k_Writer_writeString J K n) K 40 L S M := by rfl
theorem r_Writer_writeString_43 {s_Nodes_amountOf : aS} {s_Waiting_append : aS} {s_Nodes_byteOf : aS} {J : aJ} {K : aR} {n : Nat} {L : aL} {S : List Value} {M : aM} : am_run (c_Writer_writeString s_Nodes_amountOf s_Waiting_append s_Nodes_byteOf) k_Writer_writeString J K (n + 1) 43 L S M = ai_iload 4 45 (am_run (c_Writer_writeString s_Nodes_amountOf s_Waiting_append s_Nodes_byteOf) k_Writer_writeString J K n) K 43 L S M := by rfl
theorem r_Writer_writeString_45 {s_Nodes_amountOf : aS} {s_Waiting_append : aS} {s_Nodes_byteOf : aS} {J : aJ} {K : aR} {n : Nat} {L : aL} {S : List Value} {M : aM} : am_run (c_Writer_writeString s_Nodes_amountOf s_Waiting_append s_Nodes_byteOf) k_Writer_writeString J K (n + 1) 45 L S M = ai_const 92 47 (am_run (c_Writer_writeString s_Nodes_amountOf s_Waiting_append s_Nodes_byteOf) k_Writer_writeString J K n) K 45 L S M := by rfl
theorem r_Writer_writeString_47 {s_Nodes_amountOf : aS} {s_Waiting_append : aS} {s_Nodes_byteOf : aS} {J : aJ} {K : aR} {n : Nat} {L : aL} {S : List Value} {M : aM} : am_run (c_Writer_writeString s_Nodes_amountOf s_Waiting_append s_Nodes_byteOf) k_Writer_writeString J K (n + 1) 47 L S M = ai_cmpne 59 50 (am_run (c_Writer_writeString s_Nodes_amountOf s_Waiting_append s_Nodes_byteOf) k_Writer_writeString J K n) K 47 L S M := by rfl
theorem r_Writer_writeString_50 {s_Nodes_amountOf : aS} {s_Waiting_append : aS} {s_Nodes_byteOf : aS} {J : aJ} {K : aR} {n : Nat} {L : aL} {S : List Value} {M : aM} : am_run (c_Writer_writeString s_Nodes_amountOf s_Waiting_append s_Nodes_byteOf) k_Writer_writeString J K (n + 1) 50 L S M = ai_aload 0 51 (am_run (c_Writer_writeString s_Nodes_amountOf s_Waiting_append s_Nodes_byteOf) k_Writer_writeString J K n) K 50 L S M := by rfl
theorem r_Writer_writeString_51 {s_Nodes_amountOf : aS} {s_Waiting_append : aS} {s_Nodes_byteOf : aS} {J : aJ} {K : aR} {n : Nat} {L : aL} {S : List Value} {M : aM} : am_run (c_Writer_writeString s_Nodes_amountOf s_Waiting_append s_Nodes_byteOf) k_Writer_writeString J K (n + 1) 51 L S M = ai_getf 5 1 54 (am_run (c_Writer_writeString s_Nodes_amountOf s_Waiting_append s_Nodes_byteOf) k_Writer_writeString J K n) K 51 L S M := by rfl
theorem r_Writer_writeString_54 {s_Nodes_amountOf : aS} {s_Waiting_append : aS} {s_Nodes_byteOf : aS} {J : aJ} {K : aR} {n : Nat} {L : aL} {S : List Value} {M : aM} : am_run (c_Writer_writeString s_Nodes_amountOf s_Waiting_append s_Nodes_byteOf) k_Writer_writeString J K (n + 1) 54 L S M = ai_const 92 56 (am_run (c_Writer_writeString s_Nodes_amountOf s_Waiting_append s_Nodes_byteOf) k_Writer_writeString J K n) K 54 L S M := by rfl
theorem r_Writer_writeString_56 {s_Nodes_amountOf : aS} {s_Waiting_append : aS} {s_Nodes_byteOf : aS} {J : aJ} {K : aR} {n : Nat} {L : aL} {S : List Value} {M : aM} : am_run (c_Writer_writeString s_Nodes_amountOf s_Waiting_append s_Nodes_byteOf) k_Writer_writeString J K (n + 1) 56 L S M = ai_callv2 4 s_Waiting_append 59 (am_run (c_Writer_writeString s_Nodes_amountOf s_Waiting_append s_Nodes_byteOf) k_Writer_writeString J K n) K 56 L S M := by rfl
theorem r_Writer_writeString_59 {s_Nodes_amountOf : aS} {s_Waiting_append : aS} {s_Nodes_byteOf : aS} {J : aJ} {K : aR} {n : Nat} {L : aL} {S : List Value} {M : aM} : am_run (c_Writer_writeString s_Nodes_amountOf s_Waiting_append s_Nodes_byteOf) k_Writer_writeString J K (n + 1) 59 L S M = ai_aload 0 60 (am_run (c_Writer_writeString s_Nodes_amountOf s_Waiting_append s_Nodes_byteOf) k_Writer_writeString J K n) K 59 L S M := by rfl
theorem r_Writer_writeString_60 {s_Nodes_amountOf : aS} {s_Waiting_append : aS} {s_Nodes_byteOf : aS} {J : aJ} {K : aR} {n : Nat} {L : aL} {S : List Value} {M : aM} : am_run (c_Writer_writeString s_Nodes_amountOf s_Waiting_append s_Nodes_byteOf) k_Writer_writeString J K (n + 1) 60 L S M = ai_getf 5 1 63 (am_run (c_Writer_writeString s_Nodes_amountOf s_Waiting_append s_Nodes_byteOf) k_Writer_writeString J K n) K 60 L S M := by rfl
theorem r_Writer_writeString_63 {s_Nodes_amountOf : aS} {s_Waiting_append : aS} {s_Nodes_byteOf : aS} {J : aJ} {K : aR} {n : Nat} {L : aL} {S : List Value} {M : aM} : am_run (c_Writer_writeString s_Nodes_amountOf s_Waiting_append s_Nodes_byteOf) k_Writer_writeString J K (n + 1) 63 L S M = ai_iload 4 65 (am_run (c_Writer_writeString s_Nodes_amountOf s_Waiting_append s_Nodes_byteOf) k_Writer_writeString J K n) K 63 L S M := by rfl
theorem r_Writer_writeString_65 {s_Nodes_amountOf : aS} {s_Waiting_append : aS} {s_Nodes_byteOf : aS} {J : aJ} {K : aR} {n : Nat} {L : aL} {S : List Value} {M : aM} : am_run (c_Writer_writeString s_Nodes_amountOf s_Waiting_append s_Nodes_byteOf) k_Writer_writeString J K (n + 1) 65 L S M = ai_callv2 4 s_Waiting_append 68 (am_run (c_Writer_writeString s_Nodes_amountOf s_Waiting_append s_Nodes_byteOf) k_Writer_writeString J K n) K 65 L S M := by rfl
theorem r_Writer_writeString_68 {s_Nodes_amountOf : aS} {s_Waiting_append : aS} {s_Nodes_byteOf : aS} {J : aJ} {K : aR} {n : Nat} {L : aL} {S : List Value} {M : aM} : am_run (c_Writer_writeString s_Nodes_amountOf s_Waiting_append s_Nodes_byteOf) k_Writer_writeString J K (n + 1) 68 L S M = ai_iinc 3 1 71 (am_run (c_Writer_writeString s_Nodes_amountOf s_Waiting_append s_Nodes_byteOf) k_Writer_writeString J K n) K 68 L S M := by rfl
theorem r_Writer_writeString_71 {s_Nodes_amountOf : aS} {s_Waiting_append : aS} {s_Nodes_byteOf : aS} {J : aJ} {K : aR} {n : Nat} {L : aL} {S : List Value} {M : aM} : am_run (c_Writer_writeString s_Nodes_amountOf s_Waiting_append s_Nodes_byteOf) k_Writer_writeString J K (n + 1) 71 L S M = ai_goto 20 (am_run (c_Writer_writeString s_Nodes_amountOf s_Waiting_append s_Nodes_byteOf) k_Writer_writeString J K n) K 71 L S M := by rfl
theorem r_Writer_writeString_74 {s_Nodes_amountOf : aS} {s_Waiting_append : aS} {s_Nodes_byteOf : aS} {J : aJ} {K : aR} {n : Nat} {L : aL} {S : List Value} {M : aM} : am_run (c_Writer_writeString s_Nodes_amountOf s_Waiting_append s_Nodes_byteOf) k_Writer_writeString J K (n + 1) 74 L S M = ai_aload 0 75 (am_run (c_Writer_writeString s_Nodes_amountOf s_Waiting_append s_Nodes_byteOf) k_Writer_writeString J K n) K 74 L S M := by rfl
theorem r_Writer_writeString_75 {s_Nodes_amountOf : aS} {s_Waiting_append : aS} {s_Nodes_byteOf : aS} {J : aJ} {K : aR} {n : Nat} {L : aL} {S : List Value} {M : aM} : am_run (c_Writer_writeString s_Nodes_amountOf s_Waiting_append s_Nodes_byteOf) k_Writer_writeString J K (n + 1) 75 L S M = ai_getf 5 1 78 (am_run (c_Writer_writeString s_Nodes_amountOf s_Waiting_append s_Nodes_byteOf) k_Writer_writeString J K n) K 75 L S M := by rfl
theorem r_Writer_writeString_78 {s_Nodes_amountOf : aS} {s_Waiting_append : aS} {s_Nodes_byteOf : aS} {J : aJ} {K : aR} {n : Nat} {L : aL} {S : List Value} {M : aM} : am_run (c_Writer_writeString s_Nodes_amountOf s_Waiting_append s_Nodes_byteOf) k_Writer_writeString J K (n + 1) 78 L S M = ai_const 34 80 (am_run (c_Writer_writeString s_Nodes_amountOf s_Waiting_append s_Nodes_byteOf) k_Writer_writeString J K n) K 78 L S M := by rfl
theorem r_Writer_writeString_80 {s_Nodes_amountOf : aS} {s_Waiting_append : aS} {s_Nodes_byteOf : aS} {J : aJ} {K : aR} {n : Nat} {L : aL} {S : List Value} {M : aM} : am_run (c_Writer_writeString s_Nodes_amountOf s_Waiting_append s_Nodes_byteOf) k_Writer_writeString J K (n + 1) 80 L S M = ai_callv2 4 s_Waiting_append 83 (am_run (c_Writer_writeString s_Nodes_amountOf s_Waiting_append s_Nodes_byteOf) k_Writer_writeString J K n) K 80 L S M := by rfl
theorem r_Writer_writeString_83 {s_Nodes_amountOf : aS} {s_Waiting_append : aS} {s_Nodes_byteOf : aS} {J : aJ} {K : aR} {n : Nat} {L : aL} {S : List Value} {M : aM} : am_run (c_Writer_writeString s_Nodes_amountOf s_Waiting_append s_Nodes_byteOf) k_Writer_writeString J K (n + 1) 83 L S M = ai_vret (am_run (c_Writer_writeString s_Nodes_amountOf s_Waiting_append s_Nodes_byteOf) k_Writer_writeString J K n) K 83 L S M := by rfl
def c_Writer_writePair (s_Nodes_quotedIn : aS) (s_Waiting_append : aS) (s_Writer_writeNode : aS) (s_Nodes_headOf : aS) (s_Nodes_tailOf : aS) (s_Nodes_kindOf : aS) : List (Nat × aI) := [
  (0, ai_aload 0 1),
  (1, ai_getf 5 0 4),
  (4, ai_iload 1 5),
  (5, ai_callv2 0 s_Nodes_quotedIn 8),
  (8, ai_istore 3 9),
  (9, ai_iload 3 10),
  (10, ai_const (-1) 11),
  (11, ai_cmpeq 32 14),
  (14, ai_aload 0 15),
  (15, ai_getf 5 1 18),
  (18, ai_const 39 20),
  (20, ai_callv2 4 s_Waiting_append 23),
  (23, ai_aload 0 24),
  (24, ai_iload 3 25),
  (25, ai_iload 2 26),
  (26, ai_const 1 27),
  (27, ai_iadd 28),
  (28, ai_callv3 5 s_Writer_writeNode 31),
  (31, ai_vret),
  (32, ai_aload 0 33),
  (33, ai_getf 5 1 36),
  (36, ai_const 40 38),
  (38, ai_callv2 4 s_Waiting_append 41),
  (41, ai_aload 0 42),
  (42, ai_aload 0 43),
  (43, ai_getf 5 0 46),
  (46, ai_iload 1 47),
  (47, ai_callv2 0 s_Nodes_headOf 50),
  (50, ai_iload 2 51),
  (51, ai_const 1 52),
  (52, ai_iadd 53),
  (53, ai_callv3 5 s_Writer_writeNode 56),
  (56, ai_aload 0 57),
  (57, ai_getf 5 0 60),
  (60, ai_iload 1 61),
  (61, ai_callv2 0 s_Nodes_tailOf 64),
  (64, ai_istore 4 66),
  (66, ai_const 0 67),
  (67, ai_istore 5 69),
  (69, ai_iload 5 71),
  (71, ai_const 200 74),
  (74, ai_cmpge 132 77),
  (77, ai_aload 0 78),
  (78, ai_getf 5 0 81),
  (81, ai_iload 4 83),
  (83, ai_callv2 0 s_Nodes_kindOf 86),
  (86, ai_const 4 87),
  (87, ai_cmpne 132 90),
  (90, ai_aload 0 91),
  (91, ai_getf 5 1 94),
  (94, ai_const 32 96),
  (96, ai_callv2 4 s_Waiting_append 99),
  (99, ai_aload 0 100),
  (100, ai_aload 0 101),
  (101, ai_getf 5 0 104),
  (104, ai_iload 4 106),
  (106, ai_callv2 0 s_Nodes_headOf 109),
  (109, ai_iload 2 110),
  (110, ai_const 1 111),
  (111, ai_iadd 112),
  (112, ai_callv3 5 s_Writer_writeNode 115),
  (115, ai_aload 0 116),
  (116, ai_getf 5 0 119),
  (119, ai_iload 4 121),
  (121, ai_callv2 0 s_Nodes_tailOf 124),
  (124, ai_istore 4 126),
  (126, ai_iinc 5 1 129),
  (129, ai_goto 69),
  (132, ai_aload 0 133),
  (133, ai_getf 5 0 136),
  (136, ai_iload 4 138),
  (138, ai_callv2 0 s_Nodes_kindOf 141),
  (141, ai_const 5 142),
  (142, ai_cmpeq 181 145),
  (145, ai_aload 0 146),
  (146, ai_getf 5 1 149),
  (149, ai_const 32 151),
  (151, ai_callv2 4 s_Waiting_append 154),
  (154, ai_aload 0 155),
  (155, ai_getf 5 1 158),
  (158, ai_const 46 160),
  (160, ai_callv2 4 s_Waiting_append 163),
  (163, ai_aload 0 164),
  (164, ai_getf 5 1 167),
  (167, ai_const 32 169),
  (169, ai_callv2 4 s_Waiting_append 172),
  (172, ai_aload 0 173),
  (173, ai_iload 4 175),
  (175, ai_iload 2 176),
  (176, ai_const 1 177),
  (177, ai_iadd 178),
  (178, ai_callv3 5 s_Writer_writeNode 181),
  (181, ai_aload 0 182),
  (182, ai_getf 5 1 185),
  (185, ai_const 41 187),
  (187, ai_callv2 4 s_Waiting_append 190),
  (190, ai_vret)]
set_option maxRecDepth 100000 in
set_option maxHeartbeats 4000000 in
theorem tb_Writer_writePair {G : aG} {d : Nat} {s_Nodes_quotedIn : aS} {d_Nodes_quotedIn : Nat} (h_Nodes_quotedIn : am_Sp G Y_Nodes_quotedIn d_Nodes_quotedIn s_Nodes_quotedIn) (l_Nodes_quotedIn : d_Nodes_quotedIn < d) {s_Waiting_append : aS} {d_Waiting_append : Nat} (h_Waiting_append : am_Sp G Y_Waiting_append d_Waiting_append s_Waiting_append) (l_Waiting_append : d_Waiting_append < d) {s_Writer_writeNode : aS} {d_Writer_writeNode : Nat} (h_Writer_writeNode : am_Sp G Y_Writer_writeNode d_Writer_writeNode s_Writer_writeNode) (l_Writer_writeNode : d_Writer_writeNode < d) {s_Nodes_headOf : aS} {d_Nodes_headOf : Nat} (h_Nodes_headOf : am_Sp G Y_Nodes_headOf d_Nodes_headOf s_Nodes_headOf) (l_Nodes_headOf : d_Nodes_headOf < d) {s_Nodes_tailOf : aS} {d_Nodes_tailOf : Nat} (h_Nodes_tailOf : am_Sp G Y_Nodes_tailOf d_Nodes_tailOf s_Nodes_tailOf) (l_Nodes_tailOf : d_Nodes_tailOf < d) {s_Nodes_kindOf : aS} {d_Nodes_kindOf : Nat} (h_Nodes_kindOf : am_Sp G Y_Nodes_kindOf d_Nodes_kindOf s_Nodes_kindOf) (l_Nodes_kindOf : d_Nodes_kindOf < d) : am_tab G Y_Writer_writePair d (c_Writer_writePair s_Nodes_quotedIn s_Waiting_append s_Writer_writeNode s_Nodes_headOf s_Nodes_tailOf s_Nodes_kindOf) := by
  intro K p e s m args below meth c C
  exact ⟨as_aload_n C (pc := 0) (q := 0) (by decide +kernel) rfl rfl,
    as_getf C (pc := 1) (T := T_Writer) (N := 2) rfl in_Writer (by decide) rfl w_216 (by decide +kernel) rfl,
    as_iload_n C (pc := 4) (q := 1) (by decide +kernel) rfl rfl,
    as_callv2N C (pc := 5) h_Nodes_quotedIn (T := T_Nodes) (N := 10) rfl w_486 w_72 w_485 w_47 w_483 hy_Nodes_quotedIn (am_rm_of l_Nodes_quotedIn (by decide)) (by decide +kernel) rfl,
    as_istore_n C (pc := 8) (q := 3) (by decide +kernel) rfl (by decide) rfl,
    as_iload_n C (pc := 9) (q := 3) (by decide +kernel) rfl rfl,
    as_iconst C (pc := 10) (n := (-1)) (by decide +kernel) (by decide +kernel) rfl,
    as_cmpeq C (pc := 11) (off := 21) (by decide +kernel) (by decide) rfl,
    as_aload_n C (pc := 14) (q := 0) (by decide +kernel) rfl rfl,
    as_getf C (pc := 15) (T := T_Writer) (N := 2) rfl in_Writer (by decide) rfl w_217 (by decide +kernel) rfl,
    as_bipush C (pc := 18) (n := 39) (by decide +kernel) (by decide +kernel) rfl,
    as_callv2N C (pc := 20) h_Waiting_append (T := T_Waiting) (N := 3) rfl w_468 w_76 w_467 w_43 w_465 hy_Waiting_append (am_rm_of l_Waiting_append (by decide)) (by decide +kernel) rfl,
    as_aload_n C (pc := 23) (q := 0) (by decide +kernel) rfl rfl,
    as_iload_n C (pc := 24) (q := 3) (by decide +kernel) rfl rfl,
    as_iload_n C (pc := 25) (q := 2) (by decide +kernel) rfl rfl,
    as_iconst C (pc := 26) (n := 1) (by decide +kernel) (by decide +kernel) rfl,
    as_iadd C (pc := 27) (by decide +kernel) rfl,
    as_callv3 C (pc := 28) h_Writer_writeNode (T := T_Writer) (N := 2) rfl w_458 w_77 w_457 w_41 w_493 hy_Writer_writeNode (am_rm_of l_Writer_writeNode (by decide)) (by decide +kernel) rfl,
    as_vret C (pc := 31) rfl (by decide +kernel),
    as_aload_n C (pc := 32) (q := 0) (by decide +kernel) rfl rfl,
    as_getf C (pc := 33) (T := T_Writer) (N := 2) rfl in_Writer (by decide) rfl w_217 (by decide +kernel) rfl,
    as_bipush C (pc := 36) (n := 40) (by decide +kernel) (by decide +kernel) rfl,
    as_callv2N C (pc := 38) h_Waiting_append (T := T_Waiting) (N := 3) rfl w_468 w_76 w_467 w_43 w_465 hy_Waiting_append (am_rm_of l_Waiting_append (by decide)) (by decide +kernel) rfl,
    as_aload_n C (pc := 41) (q := 0) (by decide +kernel) rfl rfl,
    as_aload_n C (pc := 42) (q := 0) (by decide +kernel) rfl rfl,
    as_getf C (pc := 43) (T := T_Writer) (N := 2) rfl in_Writer (by decide) rfl w_216 (by decide +kernel) rfl,
    as_iload_n C (pc := 46) (q := 1) (by decide +kernel) rfl rfl,
    as_callv2N C (pc := 47) h_Nodes_headOf (T := T_Nodes) (N := 10) rfl w_429 w_72 w_428 w_37 w_494 hy_Nodes_headOf (am_rm_of l_Nodes_headOf (by decide)) (by decide +kernel) rfl,
    as_iload_n C (pc := 50) (q := 2) (by decide +kernel) rfl rfl,
    as_iconst C (pc := 51) (n := 1) (by decide +kernel) (by decide +kernel) rfl,
    as_iadd C (pc := 52) (by decide +kernel) rfl,
    as_callv3 C (pc := 53) h_Writer_writeNode (T := T_Writer) (N := 2) rfl w_458 w_77 w_457 w_41 w_493 hy_Writer_writeNode (am_rm_of l_Writer_writeNode (by decide)) (by decide +kernel) rfl,
    as_aload_n C (pc := 56) (q := 0) (by decide +kernel) rfl rfl,
    as_getf C (pc := 57) (T := T_Writer) (N := 2) rfl in_Writer (by decide) rfl w_216 (by decide +kernel) rfl,
    as_iload_n C (pc := 60) (q := 1) (by decide +kernel) rfl rfl,
    as_callv2N C (pc := 61) h_Nodes_tailOf (T := T_Nodes) (N := 10) rfl w_433 w_72 w_432 w_38 w_495 hy_Nodes_tailOf (am_rm_of l_Nodes_tailOf (by decide)) (by decide +kernel) rfl,
    as_istore C (pc := 64) (k := 4) (by decide +kernel) (by decide) rfl,
    as_iconst C (pc := 66) (n := 0) (by decide +kernel) (by decide +kernel) rfl,
    as_istore C (pc := 67) (k := 5) (by decide +kernel) (by decide) rfl,
    as_iload C (pc := 69) (k := 5) (by decide +kernel) rfl,
    as_sipush C (pc := 71) (n := 200) (by decide +kernel) (by decide +kernel) rfl,
    as_cmpge C (pc := 74) (off := 58) (by decide +kernel) (by decide) rfl,
    as_aload_n C (pc := 77) (q := 0) (by decide +kernel) rfl rfl,
    as_getf C (pc := 78) (T := T_Writer) (N := 2) rfl in_Writer (by decide) rfl w_216 (by decide +kernel) rfl,
    as_iload C (pc := 81) (k := 4) (by decide +kernel) rfl,
    as_callv2N C (pc := 83) h_Nodes_kindOf (T := T_Nodes) (N := 10) rfl w_401 w_72 w_400 w_33 w_459 hy_Nodes_kindOf (am_rm_of l_Nodes_kindOf (by decide)) (by decide +kernel) rfl,
    as_iconst C (pc := 86) (n := 4) (by decide +kernel) (by decide +kernel) rfl,
    as_cmpne C (pc := 87) (off := 45) (by decide +kernel) (by decide) rfl,
    as_aload_n C (pc := 90) (q := 0) (by decide +kernel) rfl rfl,
    as_getf C (pc := 91) (T := T_Writer) (N := 2) rfl in_Writer (by decide) rfl w_217 (by decide +kernel) rfl,
    as_bipush C (pc := 94) (n := 32) (by decide +kernel) (by decide +kernel) rfl,
    as_callv2N C (pc := 96) h_Waiting_append (T := T_Waiting) (N := 3) rfl w_468 w_76 w_467 w_43 w_465 hy_Waiting_append (am_rm_of l_Waiting_append (by decide)) (by decide +kernel) rfl,
    as_aload_n C (pc := 99) (q := 0) (by decide +kernel) rfl rfl,
    as_aload_n C (pc := 100) (q := 0) (by decide +kernel) rfl rfl,
    as_getf C (pc := 101) (T := T_Writer) (N := 2) rfl in_Writer (by decide) rfl w_216 (by decide +kernel) rfl,
    as_iload C (pc := 104) (k := 4) (by decide +kernel) rfl,
    as_callv2N C (pc := 106) h_Nodes_headOf (T := T_Nodes) (N := 10) rfl w_429 w_72 w_428 w_37 w_494 hy_Nodes_headOf (am_rm_of l_Nodes_headOf (by decide)) (by decide +kernel) rfl,
    as_iload_n C (pc := 109) (q := 2) (by decide +kernel) rfl rfl,
    as_iconst C (pc := 110) (n := 1) (by decide +kernel) (by decide +kernel) rfl,
    as_iadd C (pc := 111) (by decide +kernel) rfl,
    as_callv3 C (pc := 112) h_Writer_writeNode (T := T_Writer) (N := 2) rfl w_458 w_77 w_457 w_41 w_493 hy_Writer_writeNode (am_rm_of l_Writer_writeNode (by decide)) (by decide +kernel) rfl,
    as_aload_n C (pc := 115) (q := 0) (by decide +kernel) rfl rfl,
    as_getf C (pc := 116) (T := T_Writer) (N := 2) rfl in_Writer (by decide) rfl w_216 (by decide +kernel) rfl,
    as_iload C (pc := 119) (k := 4) (by decide +kernel) rfl,
    as_callv2N C (pc := 121) h_Nodes_tailOf (T := T_Nodes) (N := 10) rfl w_433 w_72 w_432 w_38 w_495 hy_Nodes_tailOf (am_rm_of l_Nodes_tailOf (by decide)) (by decide +kernel) rfl,
    as_istore C (pc := 124) (k := 4) (by decide +kernel) (by decide) rfl,
    as_iinc C (pc := 126) (k := 5) (n := 1) (by decide +kernel) (by decide +kernel) (by decide) rfl,
    as_goto C (pc := 129) (off := (-60)) (by decide +kernel) (by decide),
    as_aload_n C (pc := 132) (q := 0) (by decide +kernel) rfl rfl,
    as_getf C (pc := 133) (T := T_Writer) (N := 2) rfl in_Writer (by decide) rfl w_216 (by decide +kernel) rfl,
    as_iload C (pc := 136) (k := 4) (by decide +kernel) rfl,
    as_callv2N C (pc := 138) h_Nodes_kindOf (T := T_Nodes) (N := 10) rfl w_401 w_72 w_400 w_33 w_459 hy_Nodes_kindOf (am_rm_of l_Nodes_kindOf (by decide)) (by decide +kernel) rfl,
    as_iconst C (pc := 141) (n := 5) (by decide +kernel) (by decide +kernel) rfl,
    as_cmpeq C (pc := 142) (off := 39) (by decide +kernel) (by decide) rfl,
    as_aload_n C (pc := 145) (q := 0) (by decide +kernel) rfl rfl,
    as_getf C (pc := 146) (T := T_Writer) (N := 2) rfl in_Writer (by decide) rfl w_217 (by decide +kernel) rfl,
    as_bipush C (pc := 149) (n := 32) (by decide +kernel) (by decide +kernel) rfl,
    as_callv2N C (pc := 151) h_Waiting_append (T := T_Waiting) (N := 3) rfl w_468 w_76 w_467 w_43 w_465 hy_Waiting_append (am_rm_of l_Waiting_append (by decide)) (by decide +kernel) rfl,
    as_aload_n C (pc := 154) (q := 0) (by decide +kernel) rfl rfl,
    as_getf C (pc := 155) (T := T_Writer) (N := 2) rfl in_Writer (by decide) rfl w_217 (by decide +kernel) rfl,
    as_bipush C (pc := 158) (n := 46) (by decide +kernel) (by decide +kernel) rfl,
    as_callv2N C (pc := 160) h_Waiting_append (T := T_Waiting) (N := 3) rfl w_468 w_76 w_467 w_43 w_465 hy_Waiting_append (am_rm_of l_Waiting_append (by decide)) (by decide +kernel) rfl,
    as_aload_n C (pc := 163) (q := 0) (by decide +kernel) rfl rfl,
    as_getf C (pc := 164) (T := T_Writer) (N := 2) rfl in_Writer (by decide) rfl w_217 (by decide +kernel) rfl,
    as_bipush C (pc := 167) (n := 32) (by decide +kernel) (by decide +kernel) rfl,
    as_callv2N C (pc := 169) h_Waiting_append (T := T_Waiting) (N := 3) rfl w_468 w_76 w_467 w_43 w_465 hy_Waiting_append (am_rm_of l_Waiting_append (by decide)) (by decide +kernel) rfl,
    as_aload_n C (pc := 172) (q := 0) (by decide +kernel) rfl rfl,
    as_iload C (pc := 173) (k := 4) (by decide +kernel) rfl,
    as_iload_n C (pc := 175) (q := 2) (by decide +kernel) rfl rfl,
    as_iconst C (pc := 176) (n := 1) (by decide +kernel) (by decide +kernel) rfl,
    as_iadd C (pc := 177) (by decide +kernel) rfl,
    as_callv3 C (pc := 178) h_Writer_writeNode (T := T_Writer) (N := 2) rfl w_458 w_77 w_457 w_41 w_493 hy_Writer_writeNode (am_rm_of l_Writer_writeNode (by decide)) (by decide +kernel) rfl,
    as_aload_n C (pc := 181) (q := 0) (by decide +kernel) rfl rfl,
    as_getf C (pc := 182) (T := T_Writer) (N := 2) rfl in_Writer (by decide) rfl w_217 (by decide +kernel) rfl,
    as_bipush C (pc := 185) (n := 41) (by decide +kernel) (by decide +kernel) rfl,
    as_callv2N C (pc := 187) h_Waiting_append (T := T_Waiting) (N := 3) rfl w_468 w_76 w_467 w_43 w_465 hy_Waiting_append (am_rm_of l_Waiting_append (by decide)) (by decide +kernel) rfl,
    as_vret C (pc := 190) rfl (by decide +kernel), trivial⟩
abbrev k_Writer_writePair : List Nat := [69]
set_option maxRecDepth 20000 in
theorem q_Writer_writePair_69 {s_Nodes_quotedIn : aS} {s_Waiting_append : aS} {s_Writer_writeNode : aS} {s_Nodes_headOf : aS} {s_Nodes_tailOf : aS} {s_Nodes_kindOf : aS} : am_at (c_Writer_writePair s_Nodes_quotedIn s_Waiting_append s_Writer_writeNode s_Nodes_headOf s_Nodes_tailOf s_Nodes_kindOf) 69 = ai_iload 5 71 := by rfl
set_option maxRecDepth 20000 in
theorem r_Writer_writePair_0 {s_Nodes_quotedIn : aS} {s_Waiting_append : aS} {s_Writer_writeNode : aS} {s_Nodes_headOf : aS} {s_Nodes_tailOf : aS} {s_Nodes_kindOf : aS} {J : aJ} {K : aR} {n : Nat} {L : aL} {S : List Value} {M : aM} : am_run (c_Writer_writePair s_Nodes_quotedIn s_Waiting_append s_Writer_writeNode s_Nodes_headOf s_Nodes_tailOf s_Nodes_kindOf) k_Writer_writePair J K (n + 1) 0 L S M = ai_aload 0 1 (am_run (c_Writer_writePair s_Nodes_quotedIn s_Waiting_append s_Writer_writeNode s_Nodes_headOf s_Nodes_tailOf s_Nodes_kindOf) k_Writer_writePair J K n) K 0 L S M := by rfl
set_option maxRecDepth 20000 in
theorem r_Writer_writePair_1 {s_Nodes_quotedIn : aS} {s_Waiting_append : aS} {s_Writer_writeNode : aS} {s_Nodes_headOf : aS} {s_Nodes_tailOf : aS} {s_Nodes_kindOf : aS} {J : aJ} {K : aR} {n : Nat} {L : aL} {S : List Value} {M : aM} : am_run (c_Writer_writePair s_Nodes_quotedIn s_Waiting_append s_Writer_writeNode s_Nodes_headOf s_Nodes_tailOf s_Nodes_kindOf) k_Writer_writePair J K (n + 1) 1 L S M = ai_getf 5 0 4 (am_run (c_Writer_writePair s_Nodes_quotedIn s_Waiting_append s_Writer_writeNode s_Nodes_headOf s_Nodes_tailOf s_Nodes_kindOf) k_Writer_writePair J K n) K 1 L S M := by rfl
set_option maxRecDepth 20000 in
theorem r_Writer_writePair_4 {s_Nodes_quotedIn : aS} {s_Waiting_append : aS} {s_Writer_writeNode : aS} {s_Nodes_headOf : aS} {s_Nodes_tailOf : aS} {s_Nodes_kindOf : aS} {J : aJ} {K : aR} {n : Nat} {L : aL} {S : List Value} {M : aM} : am_run (c_Writer_writePair s_Nodes_quotedIn s_Waiting_append s_Writer_writeNode s_Nodes_headOf s_Nodes_tailOf s_Nodes_kindOf) k_Writer_writePair J K (n + 1) 4 L S M = ai_iload 1 5 (am_run (c_Writer_writePair s_Nodes_quotedIn s_Waiting_append s_Writer_writeNode s_Nodes_headOf s_Nodes_tailOf s_Nodes_kindOf) k_Writer_writePair J K n) K 4 L S M := by rfl
set_option maxRecDepth 20000 in
theorem r_Writer_writePair_5 {s_Nodes_quotedIn : aS} {s_Waiting_append : aS} {s_Writer_writeNode : aS} {s_Nodes_headOf : aS} {s_Nodes_tailOf : aS} {s_Nodes_kindOf : aS} {J : aJ} {K : aR} {n : Nat} {L : aL} {S : List Value} {M : aM} : am_run (c_Writer_writePair s_Nodes_quotedIn s_Waiting_append s_Writer_writeNode s_Nodes_headOf s_Nodes_tailOf s_Nodes_kindOf) k_Writer_writePair J K (n + 1) 5 L S M = ai_callv2 0 s_Nodes_quotedIn 8 (am_run (c_Writer_writePair s_Nodes_quotedIn s_Waiting_append s_Writer_writeNode s_Nodes_headOf s_Nodes_tailOf s_Nodes_kindOf) k_Writer_writePair J K n) K 5 L S M := by rfl
set_option maxRecDepth 20000 in
theorem r_Writer_writePair_8 {s_Nodes_quotedIn : aS} {s_Waiting_append : aS} {s_Writer_writeNode : aS} {s_Nodes_headOf : aS} {s_Nodes_tailOf : aS} {s_Nodes_kindOf : aS} {J : aJ} {K : aR} {n : Nat} {L : aL} {S : List Value} {M : aM} : am_run (c_Writer_writePair s_Nodes_quotedIn s_Waiting_append s_Writer_writeNode s_Nodes_headOf s_Nodes_tailOf s_Nodes_kindOf) k_Writer_writePair J K (n + 1) 8 L S M = ai_istore 3 9 (am_run (c_Writer_writePair s_Nodes_quotedIn s_Waiting_append s_Writer_writeNode s_Nodes_headOf s_Nodes_tailOf s_Nodes_kindOf) k_Writer_writePair J K n) K 8 L S M := by rfl
set_option maxRecDepth 20000 in
theorem r_Writer_writePair_9 {s_Nodes_quotedIn : aS} {s_Waiting_append : aS} {s_Writer_writeNode : aS} {s_Nodes_headOf : aS} {s_Nodes_tailOf : aS} {s_Nodes_kindOf : aS} {J : aJ} {K : aR} {n : Nat} {L : aL} {S : List Value} {M : aM} : am_run (c_Writer_writePair s_Nodes_quotedIn s_Waiting_append s_Writer_writeNode s_Nodes_headOf s_Nodes_tailOf s_Nodes_kindOf) k_Writer_writePair J K (n + 1) 9 L S M = ai_iload 3 10 (am_run (c_Writer_writePair s_Nodes_quotedIn s_Waiting_append s_Writer_writeNode s_Nodes_headOf s_Nodes_tailOf s_Nodes_kindOf) k_Writer_writePair J K n) K 9 L S M := by rfl
set_option maxRecDepth 20000 in
theorem r_Writer_writePair_10 {s_Nodes_quotedIn : aS} {s_Waiting_append : aS} {s_Writer_writeNode : aS} {s_Nodes_headOf : aS} {s_Nodes_tailOf : aS} {s_Nodes_kindOf : aS} {J : aJ} {K : aR} {n : Nat} {L : aL} {S : List Value} {M : aM} : am_run (c_Writer_writePair s_Nodes_quotedIn s_Waiting_append s_Writer_writeNode s_Nodes_headOf s_Nodes_tailOf s_Nodes_kindOf) k_Writer_writePair J K (n + 1) 10 L S M = ai_const (-1) 11 (am_run (c_Writer_writePair s_Nodes_quotedIn s_Waiting_append s_Writer_writeNode s_Nodes_headOf s_Nodes_tailOf s_Nodes_kindOf) k_Writer_writePair J K n) K 10 L S M := by rfl
set_option maxRecDepth 20000 in
theorem r_Writer_writePair_11 {s_Nodes_quotedIn : aS} {s_Waiting_append : aS} {s_Writer_writeNode : aS} {s_Nodes_headOf : aS} {s_Nodes_tailOf : aS} {s_Nodes_kindOf : aS} {J : aJ} {K : aR} {n : Nat} {L : aL} {S : List Value} {M : aM} : am_run (c_Writer_writePair s_Nodes_quotedIn s_Waiting_append s_Writer_writeNode s_Nodes_headOf s_Nodes_tailOf s_Nodes_kindOf) k_Writer_writePair J K (n + 1) 11 L S M = ai_cmpeq 32 14 (am_run (c_Writer_writePair s_Nodes_quotedIn s_Waiting_append s_Writer_writeNode s_Nodes_headOf s_Nodes_tailOf s_Nodes_kindOf) k_Writer_writePair J K n) K 11 L S M := by rfl
set_option maxRecDepth 20000 in
theorem r_Writer_writePair_14 {s_Nodes_quotedIn : aS} {s_Waiting_append : aS} {s_Writer_writeNode : aS} {s_Nodes_headOf : aS} {s_Nodes_tailOf : aS} {s_Nodes_kindOf : aS} {J : aJ} {K : aR} {n : Nat} {L : aL} {S : List Value} {M : aM} : am_run (c_Writer_writePair s_Nodes_quotedIn s_Waiting_append s_Writer_writeNode s_Nodes_headOf s_Nodes_tailOf s_Nodes_kindOf) k_Writer_writePair J K (n + 1) 14 L S M = ai_aload 0 15 (am_run (c_Writer_writePair s_Nodes_quotedIn s_Waiting_append s_Writer_writeNode s_Nodes_headOf s_Nodes_tailOf s_Nodes_kindOf) k_Writer_writePair J K n) K 14 L S M := by rfl
set_option maxRecDepth 20000 in
theorem r_Writer_writePair_15 {s_Nodes_quotedIn : aS} {s_Waiting_append : aS} {s_Writer_writeNode : aS} {s_Nodes_headOf : aS} {s_Nodes_tailOf : aS} {s_Nodes_kindOf : aS} {J : aJ} {K : aR} {n : Nat} {L : aL} {S : List Value} {M : aM} : am_run (c_Writer_writePair s_Nodes_quotedIn s_Waiting_append s_Writer_writeNode s_Nodes_headOf s_Nodes_tailOf s_Nodes_kindOf) k_Writer_writePair J K (n + 1) 15 L S M = ai_getf 5 1 18 (am_run (c_Writer_writePair s_Nodes_quotedIn s_Waiting_append s_Writer_writeNode s_Nodes_headOf s_Nodes_tailOf s_Nodes_kindOf) k_Writer_writePair J K n) K 15 L S M := by rfl
set_option maxRecDepth 20000 in
theorem r_Writer_writePair_18 {s_Nodes_quotedIn : aS} {s_Waiting_append : aS} {s_Writer_writeNode : aS} {s_Nodes_headOf : aS} {s_Nodes_tailOf : aS} {s_Nodes_kindOf : aS} {J : aJ} {K : aR} {n : Nat} {L : aL} {S : List Value} {M : aM} : am_run (c_Writer_writePair s_Nodes_quotedIn s_Waiting_append s_Writer_writeNode s_Nodes_headOf s_Nodes_tailOf s_Nodes_kindOf) k_Writer_writePair J K (n + 1) 18 L S M = ai_const 39 20 (am_run (c_Writer_writePair s_Nodes_quotedIn s_Waiting_append s_Writer_writeNode s_Nodes_headOf s_Nodes_tailOf s_Nodes_kindOf) k_Writer_writePair J K n) K 18 L S M := by rfl
set_option maxRecDepth 20000 in
theorem r_Writer_writePair_20 {s_Nodes_quotedIn : aS} {s_Waiting_append : aS} {s_Writer_writeNode : aS} {s_Nodes_headOf : aS} {s_Nodes_tailOf : aS} {s_Nodes_kindOf : aS} {J : aJ} {K : aR} {n : Nat} {L : aL} {S : List Value} {M : aM} : am_run (c_Writer_writePair s_Nodes_quotedIn s_Waiting_append s_Writer_writeNode s_Nodes_headOf s_Nodes_tailOf s_Nodes_kindOf) k_Writer_writePair J K (n + 1) 20 L S M = ai_callv2 4 s_Waiting_append 23 (am_run (c_Writer_writePair s_Nodes_quotedIn s_Waiting_append s_Writer_writeNode s_Nodes_headOf s_Nodes_tailOf s_Nodes_kindOf) k_Writer_writePair J K n) K 20 L S M := by rfl
set_option maxRecDepth 20000 in
theorem r_Writer_writePair_23 {s_Nodes_quotedIn : aS} {s_Waiting_append : aS} {s_Writer_writeNode : aS} {s_Nodes_headOf : aS} {s_Nodes_tailOf : aS} {s_Nodes_kindOf : aS} {J : aJ} {K : aR} {n : Nat} {L : aL} {S : List Value} {M : aM} : am_run (c_Writer_writePair s_Nodes_quotedIn s_Waiting_append s_Writer_writeNode s_Nodes_headOf s_Nodes_tailOf s_Nodes_kindOf) k_Writer_writePair J K (n + 1) 23 L S M = ai_aload 0 24 (am_run (c_Writer_writePair s_Nodes_quotedIn s_Waiting_append s_Writer_writeNode s_Nodes_headOf s_Nodes_tailOf s_Nodes_kindOf) k_Writer_writePair J K n) K 23 L S M := by rfl
set_option maxRecDepth 20000 in
theorem r_Writer_writePair_24 {s_Nodes_quotedIn : aS} {s_Waiting_append : aS} {s_Writer_writeNode : aS} {s_Nodes_headOf : aS} {s_Nodes_tailOf : aS} {s_Nodes_kindOf : aS} {J : aJ} {K : aR} {n : Nat} {L : aL} {S : List Value} {M : aM} : am_run (c_Writer_writePair s_Nodes_quotedIn s_Waiting_append s_Writer_writeNode s_Nodes_headOf s_Nodes_tailOf s_Nodes_kindOf) k_Writer_writePair J K (n + 1) 24 L S M = ai_iload 3 25 (am_run (c_Writer_writePair s_Nodes_quotedIn s_Waiting_append s_Writer_writeNode s_Nodes_headOf s_Nodes_tailOf s_Nodes_kindOf) k_Writer_writePair J K n) K 24 L S M := by rfl
set_option maxRecDepth 20000 in
theorem r_Writer_writePair_25 {s_Nodes_quotedIn : aS} {s_Waiting_append : aS} {s_Writer_writeNode : aS} {s_Nodes_headOf : aS} {s_Nodes_tailOf : aS} {s_Nodes_kindOf : aS} {J : aJ} {K : aR} {n : Nat} {L : aL} {S : List Value} {M : aM} : am_run (c_Writer_writePair s_Nodes_quotedIn s_Waiting_append s_Writer_writeNode s_Nodes_headOf s_Nodes_tailOf s_Nodes_kindOf) k_Writer_writePair J K (n + 1) 25 L S M = ai_iload 2 26 (am_run (c_Writer_writePair s_Nodes_quotedIn s_Waiting_append s_Writer_writeNode s_Nodes_headOf s_Nodes_tailOf s_Nodes_kindOf) k_Writer_writePair J K n) K 25 L S M := by rfl
set_option maxRecDepth 20000 in
theorem r_Writer_writePair_26 {s_Nodes_quotedIn : aS} {s_Waiting_append : aS} {s_Writer_writeNode : aS} {s_Nodes_headOf : aS} {s_Nodes_tailOf : aS} {s_Nodes_kindOf : aS} {J : aJ} {K : aR} {n : Nat} {L : aL} {S : List Value} {M : aM} : am_run (c_Writer_writePair s_Nodes_quotedIn s_Waiting_append s_Writer_writeNode s_Nodes_headOf s_Nodes_tailOf s_Nodes_kindOf) k_Writer_writePair J K (n + 1) 26 L S M = ai_const 1 27 (am_run (c_Writer_writePair s_Nodes_quotedIn s_Waiting_append s_Writer_writeNode s_Nodes_headOf s_Nodes_tailOf s_Nodes_kindOf) k_Writer_writePair J K n) K 26 L S M := by rfl
set_option maxRecDepth 20000 in
theorem r_Writer_writePair_27 {s_Nodes_quotedIn : aS} {s_Waiting_append : aS} {s_Writer_writeNode : aS} {s_Nodes_headOf : aS} {s_Nodes_tailOf : aS} {s_Nodes_kindOf : aS} {J : aJ} {K : aR} {n : Nat} {L : aL} {S : List Value} {M : aM} : am_run (c_Writer_writePair s_Nodes_quotedIn s_Waiting_append s_Writer_writeNode s_Nodes_headOf s_Nodes_tailOf s_Nodes_kindOf) k_Writer_writePair J K (n + 1) 27 L S M = ai_iadd 28 (am_run (c_Writer_writePair s_Nodes_quotedIn s_Waiting_append s_Writer_writeNode s_Nodes_headOf s_Nodes_tailOf s_Nodes_kindOf) k_Writer_writePair J K n) K 27 L S M := by rfl
set_option maxRecDepth 20000 in
theorem r_Writer_writePair_28 {s_Nodes_quotedIn : aS} {s_Waiting_append : aS} {s_Writer_writeNode : aS} {s_Nodes_headOf : aS} {s_Nodes_tailOf : aS} {s_Nodes_kindOf : aS} {J : aJ} {K : aR} {n : Nat} {L : aL} {S : List Value} {M : aM} : am_run (c_Writer_writePair s_Nodes_quotedIn s_Waiting_append s_Writer_writeNode s_Nodes_headOf s_Nodes_tailOf s_Nodes_kindOf) k_Writer_writePair J K (n + 1) 28 L S M = ai_callv3 5 s_Writer_writeNode 31 (am_run (c_Writer_writePair s_Nodes_quotedIn s_Waiting_append s_Writer_writeNode s_Nodes_headOf s_Nodes_tailOf s_Nodes_kindOf) k_Writer_writePair J K n) K 28 L S M := by rfl
set_option maxRecDepth 20000 in
theorem r_Writer_writePair_31 {s_Nodes_quotedIn : aS} {s_Waiting_append : aS} {s_Writer_writeNode : aS} {s_Nodes_headOf : aS} {s_Nodes_tailOf : aS} {s_Nodes_kindOf : aS} {J : aJ} {K : aR} {n : Nat} {L : aL} {S : List Value} {M : aM} : am_run (c_Writer_writePair s_Nodes_quotedIn s_Waiting_append s_Writer_writeNode s_Nodes_headOf s_Nodes_tailOf s_Nodes_kindOf) k_Writer_writePair J K (n + 1) 31 L S M = ai_vret (am_run (c_Writer_writePair s_Nodes_quotedIn s_Waiting_append s_Writer_writeNode s_Nodes_headOf s_Nodes_tailOf s_Nodes_kindOf) k_Writer_writePair J K n) K 31 L S M := by rfl
set_option maxRecDepth 20000 in
theorem r_Writer_writePair_32 {s_Nodes_quotedIn : aS} {s_Waiting_append : aS} {s_Writer_writeNode : aS} {s_Nodes_headOf : aS} {s_Nodes_tailOf : aS} {s_Nodes_kindOf : aS} {J : aJ} {K : aR} {n : Nat} {L : aL} {S : List Value} {M : aM} : am_run (c_Writer_writePair s_Nodes_quotedIn s_Waiting_append s_Writer_writeNode s_Nodes_headOf s_Nodes_tailOf s_Nodes_kindOf) k_Writer_writePair J K (n + 1) 32 L S M = ai_aload 0 33 (am_run (c_Writer_writePair s_Nodes_quotedIn s_Waiting_append s_Writer_writeNode s_Nodes_headOf s_Nodes_tailOf s_Nodes_kindOf) k_Writer_writePair J K n) K 32 L S M := by rfl
set_option maxRecDepth 20000 in
theorem r_Writer_writePair_33 {s_Nodes_quotedIn : aS} {s_Waiting_append : aS} {s_Writer_writeNode : aS} {s_Nodes_headOf : aS} {s_Nodes_tailOf : aS} {s_Nodes_kindOf : aS} {J : aJ} {K : aR} {n : Nat} {L : aL} {S : List Value} {M : aM} : am_run (c_Writer_writePair s_Nodes_quotedIn s_Waiting_append s_Writer_writeNode s_Nodes_headOf s_Nodes_tailOf s_Nodes_kindOf) k_Writer_writePair J K (n + 1) 33 L S M = ai_getf 5 1 36 (am_run (c_Writer_writePair s_Nodes_quotedIn s_Waiting_append s_Writer_writeNode s_Nodes_headOf s_Nodes_tailOf s_Nodes_kindOf) k_Writer_writePair J K n) K 33 L S M := by rfl
set_option maxRecDepth 20000 in
theorem r_Writer_writePair_36 {s_Nodes_quotedIn : aS} {s_Waiting_append : aS} {s_Writer_writeNode : aS} {s_Nodes_headOf : aS} {s_Nodes_tailOf : aS} {s_Nodes_kindOf : aS} {J : aJ} {K : aR} {n : Nat} {L : aL} {S : List Value} {M : aM} : am_run (c_Writer_writePair s_Nodes_quotedIn s_Waiting_append s_Writer_writeNode s_Nodes_headOf s_Nodes_tailOf s_Nodes_kindOf) k_Writer_writePair J K (n + 1) 36 L S M = ai_const 40 38 (am_run (c_Writer_writePair s_Nodes_quotedIn s_Waiting_append s_Writer_writeNode s_Nodes_headOf s_Nodes_tailOf s_Nodes_kindOf) k_Writer_writePair J K n) K 36 L S M := by rfl
set_option maxRecDepth 20000 in
theorem r_Writer_writePair_38 {s_Nodes_quotedIn : aS} {s_Waiting_append : aS} {s_Writer_writeNode : aS} {s_Nodes_headOf : aS} {s_Nodes_tailOf : aS} {s_Nodes_kindOf : aS} {J : aJ} {K : aR} {n : Nat} {L : aL} {S : List Value} {M : aM} : am_run (c_Writer_writePair s_Nodes_quotedIn s_Waiting_append s_Writer_writeNode s_Nodes_headOf s_Nodes_tailOf s_Nodes_kindOf) k_Writer_writePair J K (n + 1) 38 L S M = ai_callv2 4 s_Waiting_append 41 (am_run (c_Writer_writePair s_Nodes_quotedIn s_Waiting_append s_Writer_writeNode s_Nodes_headOf s_Nodes_tailOf s_Nodes_kindOf) k_Writer_writePair J K n) K 38 L S M := by rfl
set_option maxRecDepth 20000 in
theorem r_Writer_writePair_41 {s_Nodes_quotedIn : aS} {s_Waiting_append : aS} {s_Writer_writeNode : aS} {s_Nodes_headOf : aS} {s_Nodes_tailOf : aS} {s_Nodes_kindOf : aS} {J : aJ} {K : aR} {n : Nat} {L : aL} {S : List Value} {M : aM} : am_run (c_Writer_writePair s_Nodes_quotedIn s_Waiting_append s_Writer_writeNode s_Nodes_headOf s_Nodes_tailOf s_Nodes_kindOf) k_Writer_writePair J K (n + 1) 41 L S M = ai_aload 0 42 (am_run (c_Writer_writePair s_Nodes_quotedIn s_Waiting_append s_Writer_writeNode s_Nodes_headOf s_Nodes_tailOf s_Nodes_kindOf) k_Writer_writePair J K n) K 41 L S M := by rfl
set_option maxRecDepth 20000 in
theorem r_Writer_writePair_42 {s_Nodes_quotedIn : aS} {s_Waiting_append : aS} {s_Writer_writeNode : aS} {s_Nodes_headOf : aS} {s_Nodes_tailOf : aS} {s_Nodes_kindOf : aS} {J : aJ} {K : aR} {n : Nat} {L : aL} {S : List Value} {M : aM} : am_run (c_Writer_writePair s_Nodes_quotedIn s_Waiting_append s_Writer_writeNode s_Nodes_headOf s_Nodes_tailOf s_Nodes_kindOf) k_Writer_writePair J K (n + 1) 42 L S M = ai_aload 0 43 (am_run (c_Writer_writePair s_Nodes_quotedIn s_Waiting_append s_Writer_writeNode s_Nodes_headOf s_Nodes_tailOf s_Nodes_kindOf) k_Writer_writePair J K n) K 42 L S M := by rfl
set_option maxRecDepth 20000 in
theorem r_Writer_writePair_43 {s_Nodes_quotedIn : aS} {s_Waiting_append : aS} {s_Writer_writeNode : aS} {s_Nodes_headOf : aS} {s_Nodes_tailOf : aS} {s_Nodes_kindOf : aS} {J : aJ} {K : aR} {n : Nat} {L : aL} {S : List Value} {M : aM} : am_run (c_Writer_writePair s_Nodes_quotedIn s_Waiting_append s_Writer_writeNode s_Nodes_headOf s_Nodes_tailOf s_Nodes_kindOf) k_Writer_writePair J K (n + 1) 43 L S M = ai_getf 5 0 46 (am_run (c_Writer_writePair s_Nodes_quotedIn s_Waiting_append s_Writer_writeNode s_Nodes_headOf s_Nodes_tailOf s_Nodes_kindOf) k_Writer_writePair J K n) K 43 L S M := by rfl
set_option maxRecDepth 20000 in
theorem r_Writer_writePair_46 {s_Nodes_quotedIn : aS} {s_Waiting_append : aS} {s_Writer_writeNode : aS} {s_Nodes_headOf : aS} {s_Nodes_tailOf : aS} {s_Nodes_kindOf : aS} {J : aJ} {K : aR} {n : Nat} {L : aL} {S : List Value} {M : aM} : am_run (c_Writer_writePair s_Nodes_quotedIn s_Waiting_append s_Writer_writeNode s_Nodes_headOf s_Nodes_tailOf s_Nodes_kindOf) k_Writer_writePair J K (n + 1) 46 L S M = ai_iload 1 47 (am_run (c_Writer_writePair s_Nodes_quotedIn s_Waiting_append s_Writer_writeNode s_Nodes_headOf s_Nodes_tailOf s_Nodes_kindOf) k_Writer_writePair J K n) K 46 L S M := by rfl
set_option maxRecDepth 20000 in
theorem r_Writer_writePair_47 {s_Nodes_quotedIn : aS} {s_Waiting_append : aS} {s_Writer_writeNode : aS} {s_Nodes_headOf : aS} {s_Nodes_tailOf : aS} {s_Nodes_kindOf : aS} {J : aJ} {K : aR} {n : Nat} {L : aL} {S : List Value} {M : aM} : am_run (c_Writer_writePair s_Nodes_quotedIn s_Waiting_append s_Writer_writeNode s_Nodes_headOf s_Nodes_tailOf s_Nodes_kindOf) k_Writer_writePair J K (n + 1) 47 L S M = ai_callv2 0 s_Nodes_headOf 50 (am_run (c_Writer_writePair s_Nodes_quotedIn s_Waiting_append s_Writer_writeNode s_Nodes_headOf s_Nodes_tailOf s_Nodes_kindOf) k_Writer_writePair J K n) K 47 L S M := by rfl
set_option maxRecDepth 20000 in
theorem r_Writer_writePair_50 {s_Nodes_quotedIn : aS} {s_Waiting_append : aS} {s_Writer_writeNode : aS} {s_Nodes_headOf : aS} {s_Nodes_tailOf : aS} {s_Nodes_kindOf : aS} {J : aJ} {K : aR} {n : Nat} {L : aL} {S : List Value} {M : aM} : am_run (c_Writer_writePair s_Nodes_quotedIn s_Waiting_append s_Writer_writeNode s_Nodes_headOf s_Nodes_tailOf s_Nodes_kindOf) k_Writer_writePair J K (n + 1) 50 L S M = ai_iload 2 51 (am_run (c_Writer_writePair s_Nodes_quotedIn s_Waiting_append s_Writer_writeNode s_Nodes_headOf s_Nodes_tailOf s_Nodes_kindOf) k_Writer_writePair J K n) K 50 L S M := by rfl
set_option maxRecDepth 20000 in
theorem r_Writer_writePair_51 {s_Nodes_quotedIn : aS} {s_Waiting_append : aS} {s_Writer_writeNode : aS} {s_Nodes_headOf : aS} {s_Nodes_tailOf : aS} {s_Nodes_kindOf : aS} {J : aJ} {K : aR} {n : Nat} {L : aL} {S : List Value} {M : aM} : am_run (c_Writer_writePair s_Nodes_quotedIn s_Waiting_append s_Writer_writeNode s_Nodes_headOf s_Nodes_tailOf s_Nodes_kindOf) k_Writer_writePair J K (n + 1) 51 L S M = ai_const 1 52 (am_run (c_Writer_writePair s_Nodes_quotedIn s_Waiting_append s_Writer_writeNode s_Nodes_headOf s_Nodes_tailOf s_Nodes_kindOf) k_Writer_writePair J K n) K 51 L S M := by rfl
set_option maxRecDepth 20000 in
theorem r_Writer_writePair_52 {s_Nodes_quotedIn : aS} {s_Waiting_append : aS} {s_Writer_writeNode : aS} {s_Nodes_headOf : aS} {s_Nodes_tailOf : aS} {s_Nodes_kindOf : aS} {J : aJ} {K : aR} {n : Nat} {L : aL} {S : List Value} {M : aM} : am_run (c_Writer_writePair s_Nodes_quotedIn s_Waiting_append s_Writer_writeNode s_Nodes_headOf s_Nodes_tailOf s_Nodes_kindOf) k_Writer_writePair J K (n + 1) 52 L S M = ai_iadd 53 (am_run (c_Writer_writePair s_Nodes_quotedIn s_Waiting_append s_Writer_writeNode s_Nodes_headOf s_Nodes_tailOf s_Nodes_kindOf) k_Writer_writePair J K n) K 52 L S M := by rfl
set_option maxRecDepth 20000 in
theorem r_Writer_writePair_53 {s_Nodes_quotedIn : aS} {s_Waiting_append : aS} {s_Writer_writeNode : aS} {s_Nodes_headOf : aS} {s_Nodes_tailOf : aS} {s_Nodes_kindOf : aS} {J : aJ} {K : aR} {n : Nat} {L : aL} {S : List Value} {M : aM} : am_run (c_Writer_writePair s_Nodes_quotedIn s_Waiting_append s_Writer_writeNode s_Nodes_headOf s_Nodes_tailOf s_Nodes_kindOf) k_Writer_writePair J K (n + 1) 53 L S M = ai_callv3 5 s_Writer_writeNode 56 (am_run (c_Writer_writePair s_Nodes_quotedIn s_Waiting_append s_Writer_writeNode s_Nodes_headOf s_Nodes_tailOf s_Nodes_kindOf) k_Writer_writePair J K n) K 53 L S M := by rfl
set_option maxRecDepth 20000 in
theorem r_Writer_writePair_56 {s_Nodes_quotedIn : aS} {s_Waiting_append : aS} {s_Writer_writeNode : aS} {s_Nodes_headOf : aS} {s_Nodes_tailOf : aS} {s_Nodes_kindOf : aS} {J : aJ} {K : aR} {n : Nat} {L : aL} {S : List Value} {M : aM} : am_run (c_Writer_writePair s_Nodes_quotedIn s_Waiting_append s_Writer_writeNode s_Nodes_headOf s_Nodes_tailOf s_Nodes_kindOf) k_Writer_writePair J K (n + 1) 56 L S M = ai_aload 0 57 (am_run (c_Writer_writePair s_Nodes_quotedIn s_Waiting_append s_Writer_writeNode s_Nodes_headOf s_Nodes_tailOf s_Nodes_kindOf) k_Writer_writePair J K n) K 56 L S M := by rfl
set_option maxRecDepth 20000 in
theorem r_Writer_writePair_57 {s_Nodes_quotedIn : aS} {s_Waiting_append : aS} {s_Writer_writeNode : aS} {s_Nodes_headOf : aS} {s_Nodes_tailOf : aS} {s_Nodes_kindOf : aS} {J : aJ} {K : aR} {n : Nat} {L : aL} {S : List Value} {M : aM} : am_run (c_Writer_writePair s_Nodes_quotedIn s_Waiting_append s_Writer_writeNode s_Nodes_headOf s_Nodes_tailOf s_Nodes_kindOf) k_Writer_writePair J K (n + 1) 57 L S M = ai_getf 5 0 60 (am_run (c_Writer_writePair s_Nodes_quotedIn s_Waiting_append s_Writer_writeNode s_Nodes_headOf s_Nodes_tailOf s_Nodes_kindOf) k_Writer_writePair J K n) K 57 L S M := by rfl
set_option maxRecDepth 20000 in
theorem r_Writer_writePair_60 {s_Nodes_quotedIn : aS} {s_Waiting_append : aS} {s_Writer_writeNode : aS} {s_Nodes_headOf : aS} {s_Nodes_tailOf : aS} {s_Nodes_kindOf : aS} {J : aJ} {K : aR} {n : Nat} {L : aL} {S : List Value} {M : aM} : am_run (c_Writer_writePair s_Nodes_quotedIn s_Waiting_append s_Writer_writeNode s_Nodes_headOf s_Nodes_tailOf s_Nodes_kindOf) k_Writer_writePair J K (n + 1) 60 L S M = ai_iload 1 61 (am_run (c_Writer_writePair s_Nodes_quotedIn s_Waiting_append s_Writer_writeNode s_Nodes_headOf s_Nodes_tailOf s_Nodes_kindOf) k_Writer_writePair J K n) K 60 L S M := by rfl
set_option maxRecDepth 20000 in
theorem r_Writer_writePair_61 {s_Nodes_quotedIn : aS} {s_Waiting_append : aS} {s_Writer_writeNode : aS} {s_Nodes_headOf : aS} {s_Nodes_tailOf : aS} {s_Nodes_kindOf : aS} {J : aJ} {K : aR} {n : Nat} {L : aL} {S : List Value} {M : aM} : am_run (c_Writer_writePair s_Nodes_quotedIn s_Waiting_append s_Writer_writeNode s_Nodes_headOf s_Nodes_tailOf s_Nodes_kindOf) k_Writer_writePair J K (n + 1) 61 L S M = ai_callv2 0 s_Nodes_tailOf 64 (am_run (c_Writer_writePair s_Nodes_quotedIn s_Waiting_append s_Writer_writeNode s_Nodes_headOf s_Nodes_tailOf s_Nodes_kindOf) k_Writer_writePair J K n) K 61 L S M := by rfl
set_option maxRecDepth 20000 in
theorem r_Writer_writePair_64 {s_Nodes_quotedIn : aS} {s_Waiting_append : aS} {s_Writer_writeNode : aS} {s_Nodes_headOf : aS} {s_Nodes_tailOf : aS} {s_Nodes_kindOf : aS} {J : aJ} {K : aR} {n : Nat} {L : aL} {S : List Value} {M : aM} : am_run (c_Writer_writePair s_Nodes_quotedIn s_Waiting_append s_Writer_writeNode s_Nodes_headOf s_Nodes_tailOf s_Nodes_kindOf) k_Writer_writePair J K (n + 1) 64 L S M = ai_istore 4 66 (am_run (c_Writer_writePair s_Nodes_quotedIn s_Waiting_append s_Writer_writeNode s_Nodes_headOf s_Nodes_tailOf s_Nodes_kindOf) k_Writer_writePair J K n) K 64 L S M := by rfl
set_option maxRecDepth 20000 in
theorem r_Writer_writePair_66 {s_Nodes_quotedIn : aS} {s_Waiting_append : aS} {s_Writer_writeNode : aS} {s_Nodes_headOf : aS} {s_Nodes_tailOf : aS} {s_Nodes_kindOf : aS} {J : aJ} {K : aR} {n : Nat} {L : aL} {S : List Value} {M : aM} : am_run (c_Writer_writePair s_Nodes_quotedIn s_Waiting_append s_Writer_writeNode s_Nodes_headOf s_Nodes_tailOf s_Nodes_kindOf) k_Writer_writePair J K (n + 1) 66 L S M = ai_const 0 67 (am_run (c_Writer_writePair s_Nodes_quotedIn s_Waiting_append s_Writer_writeNode s_Nodes_headOf s_Nodes_tailOf s_Nodes_kindOf) k_Writer_writePair J K n) K 66 L S M := by rfl
set_option maxRecDepth 20000 in
theorem r_Writer_writePair_67 {s_Nodes_quotedIn : aS} {s_Waiting_append : aS} {s_Writer_writeNode : aS} {s_Nodes_headOf : aS} {s_Nodes_tailOf : aS} {s_Nodes_kindOf : aS} {J : aJ} {K : aR} {n : Nat} {L : aL} {S : List Value} {M : aM} : am_run (c_Writer_writePair s_Nodes_quotedIn s_Waiting_append s_Writer_writeNode s_Nodes_headOf s_Nodes_tailOf s_Nodes_kindOf) k_Writer_writePair J K (n + 1) 67 L S M = ai_istore 5 69 (am_run (c_Writer_writePair s_Nodes_quotedIn s_Waiting_append s_Writer_writeNode s_Nodes_headOf s_Nodes_tailOf s_Nodes_kindOf) k_Writer_writePair J K n) K 67 L S M := by rfl
set_option maxRecDepth 20000 in
theorem r_Writer_writePair_69 {s_Nodes_quotedIn : aS} {s_Waiting_append : aS} {s_Writer_writeNode : aS} {s_Nodes_headOf : aS} {s_Nodes_tailOf : aS} {s_Nodes_kindOf : aS} {J : aJ} {K : aR} {n : Nat} {L : aL} {S : List Value} {M : aM} : am_run (c_Writer_writePair s_Nodes_quotedIn s_Waiting_append s_Writer_writeNode s_Nodes_headOf s_Nodes_tailOf s_Nodes_kindOf) k_Writer_writePair J K (n + 1) 69 L S M = J 69 L S M := by rfl
set_option maxRecDepth 20000 in
theorem r_Writer_writePair_71 {s_Nodes_quotedIn : aS} {s_Waiting_append : aS} {s_Writer_writeNode : aS} {s_Nodes_headOf : aS} {s_Nodes_tailOf : aS} {s_Nodes_kindOf : aS} {J : aJ} {K : aR} {n : Nat} {L : aL} {S : List Value} {M : aM} : am_run (c_Writer_writePair s_Nodes_quotedIn s_Waiting_append s_Writer_writeNode s_Nodes_headOf s_Nodes_tailOf s_Nodes_kindOf) k_Writer_writePair J K (n + 1) 71 L S M = ai_const 200 74 (am_run (c_Writer_writePair s_Nodes_quotedIn s_Waiting_append s_Writer_writeNode s_Nodes_headOf s_Nodes_tailOf s_Nodes_kindOf) k_Writer_writePair J K n) K 71 L S M := by rfl
set_option maxRecDepth 20000 in
theorem r_Writer_writePair_74 {s_Nodes_quotedIn : aS} {s_Waiting_append : aS} {s_Writer_writeNode : aS} {s_Nodes_headOf : aS} {s_Nodes_tailOf : aS} {s_Nodes_kindOf : aS} {J : aJ} {K : aR} {n : Nat} {L : aL} {S : List Value} {M : aM} : am_run (c_Writer_writePair s_Nodes_quotedIn s_Waiting_append s_Writer_writeNode s_Nodes_headOf s_Nodes_tailOf s_Nodes_kindOf) k_Writer_writePair J K (n + 1) 74 L S M = ai_cmpge 132 77 (am_run (c_Writer_writePair s_Nodes_quotedIn s_Waiting_append s_Writer_writeNode s_Nodes_headOf s_Nodes_tailOf s_Nodes_kindOf) k_Writer_writePair J K n) K 74 L S M := by rfl
set_option maxRecDepth 20000 in
theorem r_Writer_writePair_77 {s_Nodes_quotedIn : aS} {s_Waiting_append : aS} {s_Writer_writeNode : aS} {s_Nodes_headOf : aS} {s_Nodes_tailOf : aS} {s_Nodes_kindOf : aS} {J : aJ} {K : aR} {n : Nat} {L : aL} {S : List Value} {M : aM} : am_run (c_Writer_writePair s_Nodes_quotedIn s_Waiting_append s_Writer_writeNode s_Nodes_headOf s_Nodes_tailOf s_Nodes_kindOf) k_Writer_writePair J K (n + 1) 77 L S M = ai_aload 0 78 (am_run (c_Writer_writePair s_Nodes_quotedIn s_Waiting_append s_Writer_writeNode s_Nodes_headOf s_Nodes_tailOf s_Nodes_kindOf) k_Writer_writePair J K n) K 77 L S M := by rfl
set_option maxRecDepth 20000 in
theorem r_Writer_writePair_78 {s_Nodes_quotedIn : aS} {s_Waiting_append : aS} {s_Writer_writeNode : aS} {s_Nodes_headOf : aS} {s_Nodes_tailOf : aS} {s_Nodes_kindOf : aS} {J : aJ} {K : aR} {n : Nat} {L : aL} {S : List Value} {M : aM} : am_run (c_Writer_writePair s_Nodes_quotedIn s_Waiting_append s_Writer_writeNode s_Nodes_headOf s_Nodes_tailOf s_Nodes_kindOf) k_Writer_writePair J K (n + 1) 78 L S M = ai_getf 5 0 81 (am_run (c_Writer_writePair s_Nodes_quotedIn s_Waiting_append s_Writer_writeNode s_Nodes_headOf s_Nodes_tailOf s_Nodes_kindOf) k_Writer_writePair J K n) K 78 L S M := by rfl
set_option maxRecDepth 20000 in
theorem r_Writer_writePair_81 {s_Nodes_quotedIn : aS} {s_Waiting_append : aS} {s_Writer_writeNode : aS} {s_Nodes_headOf : aS} {s_Nodes_tailOf : aS} {s_Nodes_kindOf : aS} {J : aJ} {K : aR} {n : Nat} {L : aL} {S : List Value} {M : aM} : am_run (c_Writer_writePair s_Nodes_quotedIn s_Waiting_append s_Writer_writeNode s_Nodes_headOf s_Nodes_tailOf s_Nodes_kindOf) k_Writer_writePair J K (n + 1) 81 L S M = ai_iload 4 83 (am_run (c_Writer_writePair s_Nodes_quotedIn s_Waiting_append s_Writer_writeNode s_Nodes_headOf s_Nodes_tailOf s_Nodes_kindOf) k_Writer_writePair J K n) K 81 L S M := by rfl
set_option maxRecDepth 20000 in
theorem r_Writer_writePair_83 {s_Nodes_quotedIn : aS} {s_Waiting_append : aS} {s_Writer_writeNode : aS} {s_Nodes_headOf : aS} {s_Nodes_tailOf : aS} {s_Nodes_kindOf : aS} {J : aJ} {K : aR} {n : Nat} {L : aL} {S : List Value} {M : aM} : am_run (c_Writer_writePair s_Nodes_quotedIn s_Waiting_append s_Writer_writeNode s_Nodes_headOf s_Nodes_tailOf s_Nodes_kindOf) k_Writer_writePair J K (n + 1) 83 L S M = ai_callv2 0 s_Nodes_kindOf 86 (am_run (c_Writer_writePair s_Nodes_quotedIn s_Waiting_append s_Writer_writeNode s_Nodes_headOf s_Nodes_tailOf s_Nodes_kindOf) k_Writer_writePair J K n) K 83 L S M := by rfl
set_option maxRecDepth 20000 in
theorem r_Writer_writePair_86 {s_Nodes_quotedIn : aS} {s_Waiting_append : aS} {s_Writer_writeNode : aS} {s_Nodes_headOf : aS} {s_Nodes_tailOf : aS} {s_Nodes_kindOf : aS} {J : aJ} {K : aR} {n : Nat} {L : aL} {S : List Value} {M : aM} : am_run (c_Writer_writePair s_Nodes_quotedIn s_Waiting_append s_Writer_writeNode s_Nodes_headOf s_Nodes_tailOf s_Nodes_kindOf) k_Writer_writePair J K (n + 1) 86 L S M = ai_const 4 87 (am_run (c_Writer_writePair s_Nodes_quotedIn s_Waiting_append s_Writer_writeNode s_Nodes_headOf s_Nodes_tailOf s_Nodes_kindOf) k_Writer_writePair J K n) K 86 L S M := by rfl
set_option maxRecDepth 20000 in
theorem r_Writer_writePair_87 {s_Nodes_quotedIn : aS} {s_Waiting_append : aS} {s_Writer_writeNode : aS} {s_Nodes_headOf : aS} {s_Nodes_tailOf : aS} {s_Nodes_kindOf : aS} {J : aJ} {K : aR} {n : Nat} {L : aL} {S : List Value} {M : aM} : am_run (c_Writer_writePair s_Nodes_quotedIn s_Waiting_append s_Writer_writeNode s_Nodes_headOf s_Nodes_tailOf s_Nodes_kindOf) k_Writer_writePair J K (n + 1) 87 L S M = ai_cmpne 132 90 (am_run (c_Writer_writePair s_Nodes_quotedIn s_Waiting_append s_Writer_writeNode s_Nodes_headOf s_Nodes_tailOf s_Nodes_kindOf) k_Writer_writePair J K n) K 87 L S M := by rfl
set_option maxRecDepth 20000 in
theorem r_Writer_writePair_90 {s_Nodes_quotedIn : aS} {s_Waiting_append : aS} {s_Writer_writeNode : aS} {s_Nodes_headOf : aS} {s_Nodes_tailOf : aS} {s_Nodes_kindOf : aS} {J : aJ} {K : aR} {n : Nat} {L : aL} {S : List Value} {M : aM} : am_run (c_Writer_writePair s_Nodes_quotedIn s_Waiting_append s_Writer_writeNode s_Nodes_headOf s_Nodes_tailOf s_Nodes_kindOf) k_Writer_writePair J K (n + 1) 90 L S M = ai_aload 0 91 (am_run (c_Writer_writePair s_Nodes_quotedIn s_Waiting_append s_Writer_writeNode s_Nodes_headOf s_Nodes_tailOf s_Nodes_kindOf) k_Writer_writePair J K n) K 90 L S M := by rfl
set_option maxRecDepth 20000 in
theorem r_Writer_writePair_91 {s_Nodes_quotedIn : aS} {s_Waiting_append : aS} {s_Writer_writeNode : aS} {s_Nodes_headOf : aS} {s_Nodes_tailOf : aS} {s_Nodes_kindOf : aS} {J : aJ} {K : aR} {n : Nat} {L : aL} {S : List Value} {M : aM} : am_run (c_Writer_writePair s_Nodes_quotedIn s_Waiting_append s_Writer_writeNode s_Nodes_headOf s_Nodes_tailOf s_Nodes_kindOf) k_Writer_writePair J K (n + 1) 91 L S M = ai_getf 5 1 94 (am_run (c_Writer_writePair s_Nodes_quotedIn s_Waiting_append s_Writer_writeNode s_Nodes_headOf s_Nodes_tailOf s_Nodes_kindOf) k_Writer_writePair J K n) K 91 L S M := by rfl
set_option maxRecDepth 20000 in
theorem r_Writer_writePair_94 {s_Nodes_quotedIn : aS} {s_Waiting_append : aS} {s_Writer_writeNode : aS} {s_Nodes_headOf : aS} {s_Nodes_tailOf : aS} {s_Nodes_kindOf : aS} {J : aJ} {K : aR} {n : Nat} {L : aL} {S : List Value} {M : aM} : am_run (c_Writer_writePair s_Nodes_quotedIn s_Waiting_append s_Writer_writeNode s_Nodes_headOf s_Nodes_tailOf s_Nodes_kindOf) k_Writer_writePair J K (n + 1) 94 L S M = ai_const 32 96 (am_run (c_Writer_writePair s_Nodes_quotedIn s_Waiting_append s_Writer_writeNode s_Nodes_headOf s_Nodes_tailOf s_Nodes_kindOf) k_Writer_writePair J K n) K 94 L S M := by rfl
set_option maxRecDepth 20000 in
theorem r_Writer_writePair_96 {s_Nodes_quotedIn : aS} {s_Waiting_append : aS} {s_Writer_writeNode : aS} {s_Nodes_headOf : aS} {s_Nodes_tailOf : aS} {s_Nodes_kindOf : aS} {J : aJ} {K : aR} {n : Nat} {L : aL} {S : List Value} {M : aM} : am_run (c_Writer_writePair s_Nodes_quotedIn s_Waiting_append s_Writer_writeNode s_Nodes_headOf s_Nodes_tailOf s_Nodes_kindOf) k_Writer_writePair J K (n + 1) 96 L S M = ai_callv2 4 s_Waiting_append 99 (am_run (c_Writer_writePair s_Nodes_quotedIn s_Waiting_append s_Writer_writeNode s_Nodes_headOf s_Nodes_tailOf s_Nodes_kindOf) k_Writer_writePair J K n) K 96 L S M := by rfl
set_option maxRecDepth 20000 in
theorem r_Writer_writePair_99 {s_Nodes_quotedIn : aS} {s_Waiting_append : aS} {s_Writer_writeNode : aS} {s_Nodes_headOf : aS} {s_Nodes_tailOf : aS} {s_Nodes_kindOf : aS} {J : aJ} {K : aR} {n : Nat} {L : aL} {S : List Value} {M : aM} : am_run (c_Writer_writePair s_Nodes_quotedIn s_Waiting_append s_Writer_writeNode s_Nodes_headOf s_Nodes_tailOf s_Nodes_kindOf) k_Writer_writePair J K (n + 1) 99 L S M = ai_aload 0 100 (am_run (c_Writer_writePair s_Nodes_quotedIn s_Waiting_append s_Writer_writeNode s_Nodes_headOf s_Nodes_tailOf s_Nodes_kindOf) k_Writer_writePair J K n) K 99 L S M := by rfl
set_option maxRecDepth 20000 in
theorem r_Writer_writePair_100 {s_Nodes_quotedIn : aS} {s_Waiting_append : aS} {s_Writer_writeNode : aS} {s_Nodes_headOf : aS} {s_Nodes_tailOf : aS} {s_Nodes_kindOf : aS} {J : aJ} {K : aR} {n : Nat} {L : aL} {S : List Value} {M : aM} : am_run (c_Writer_writePair s_Nodes_quotedIn s_Waiting_append s_Writer_writeNode s_Nodes_headOf s_Nodes_tailOf s_Nodes_kindOf) k_Writer_writePair J K (n + 1) 100 L S M = ai_aload 0 101 (am_run (c_Writer_writePair s_Nodes_quotedIn s_Waiting_append s_Writer_writeNode s_Nodes_headOf s_Nodes_tailOf s_Nodes_kindOf) k_Writer_writePair J K n) K 100 L S M := by rfl
set_option maxRecDepth 20000 in
theorem r_Writer_writePair_101 {s_Nodes_quotedIn : aS} {s_Waiting_append : aS} {s_Writer_writeNode : aS} {s_Nodes_headOf : aS} {s_Nodes_tailOf : aS} {s_Nodes_kindOf : aS} {J : aJ} {K : aR} {n : Nat} {L : aL} {S : List Value} {M : aM} : am_run (c_Writer_writePair s_Nodes_quotedIn s_Waiting_append s_Writer_writeNode s_Nodes_headOf s_Nodes_tailOf s_Nodes_kindOf) k_Writer_writePair J K (n + 1) 101 L S M = ai_getf 5 0 104 (am_run (c_Writer_writePair s_Nodes_quotedIn s_Waiting_append s_Writer_writeNode s_Nodes_headOf s_Nodes_tailOf s_Nodes_kindOf) k_Writer_writePair J K n) K 101 L S M := by rfl
set_option maxRecDepth 20000 in
theorem r_Writer_writePair_104 {s_Nodes_quotedIn : aS} {s_Waiting_append : aS} {s_Writer_writeNode : aS} {s_Nodes_headOf : aS} {s_Nodes_tailOf : aS} {s_Nodes_kindOf : aS} {J : aJ} {K : aR} {n : Nat} {L : aL} {S : List Value} {M : aM} : am_run (c_Writer_writePair s_Nodes_quotedIn s_Waiting_append s_Writer_writeNode s_Nodes_headOf s_Nodes_tailOf s_Nodes_kindOf) k_Writer_writePair J K (n + 1) 104 L S M = ai_iload 4 106 (am_run (c_Writer_writePair s_Nodes_quotedIn s_Waiting_append s_Writer_writeNode s_Nodes_headOf s_Nodes_tailOf s_Nodes_kindOf) k_Writer_writePair J K n) K 104 L S M := by rfl
set_option maxRecDepth 20000 in
theorem r_Writer_writePair_106 {s_Nodes_quotedIn : aS} {s_Waiting_append : aS} {s_Writer_writeNode : aS} {s_Nodes_headOf : aS} {s_Nodes_tailOf : aS} {s_Nodes_kindOf : aS} {J : aJ} {K : aR} {n : Nat} {L : aL} {S : List Value} {M : aM} : am_run (c_Writer_writePair s_Nodes_quotedIn s_Waiting_append s_Writer_writeNode s_Nodes_headOf s_Nodes_tailOf s_Nodes_kindOf) k_Writer_writePair J K (n + 1) 106 L S M = ai_callv2 0 s_Nodes_headOf 109 (am_run (c_Writer_writePair s_Nodes_quotedIn s_Waiting_append s_Writer_writeNode s_Nodes_headOf s_Nodes_tailOf s_Nodes_kindOf) k_Writer_writePair J K n) K 106 L S M := by rfl
set_option maxRecDepth 20000 in
theorem r_Writer_writePair_109 {s_Nodes_quotedIn : aS} {s_Waiting_append : aS} {s_Writer_writeNode : aS} {s_Nodes_headOf : aS} {s_Nodes_tailOf : aS} {s_Nodes_kindOf : aS} {J : aJ} {K : aR} {n : Nat} {L : aL} {S : List Value} {M : aM} : am_run (c_Writer_writePair s_Nodes_quotedIn s_Waiting_append s_Writer_writeNode s_Nodes_headOf s_Nodes_tailOf s_Nodes_kindOf) k_Writer_writePair J K (n + 1) 109 L S M = ai_iload 2 110 (am_run (c_Writer_writePair s_Nodes_quotedIn s_Waiting_append s_Writer_writeNode s_Nodes_headOf s_Nodes_tailOf s_Nodes_kindOf) k_Writer_writePair J K n) K 109 L S M := by rfl
set_option maxRecDepth 20000 in
theorem r_Writer_writePair_110 {s_Nodes_quotedIn : aS} {s_Waiting_append : aS} {s_Writer_writeNode : aS} {s_Nodes_headOf : aS} {s_Nodes_tailOf : aS} {s_Nodes_kindOf : aS} {J : aJ} {K : aR} {n : Nat} {L : aL} {S : List Value} {M : aM} : am_run (c_Writer_writePair s_Nodes_quotedIn s_Waiting_append s_Writer_writeNode s_Nodes_headOf s_Nodes_tailOf s_Nodes_kindOf) k_Writer_writePair J K (n + 1) 110 L S M = ai_const 1 111 (am_run (c_Writer_writePair s_Nodes_quotedIn s_Waiting_append s_Writer_writeNode s_Nodes_headOf s_Nodes_tailOf s_Nodes_kindOf) k_Writer_writePair J K n) K 110 L S M := by rfl
set_option maxRecDepth 20000 in
theorem r_Writer_writePair_111 {s_Nodes_quotedIn : aS} {s_Waiting_append : aS} {s_Writer_writeNode : aS} {s_Nodes_headOf : aS} {s_Nodes_tailOf : aS} {s_Nodes_kindOf : aS} {J : aJ} {K : aR} {n : Nat} {L : aL} {S : List Value} {M : aM} : am_run (c_Writer_writePair s_Nodes_quotedIn s_Waiting_append s_Writer_writeNode s_Nodes_headOf s_Nodes_tailOf s_Nodes_kindOf) k_Writer_writePair J K (n + 1) 111 L S M = ai_iadd 112 (am_run (c_Writer_writePair s_Nodes_quotedIn s_Waiting_append s_Writer_writeNode s_Nodes_headOf s_Nodes_tailOf s_Nodes_kindOf) k_Writer_writePair J K n) K 111 L S M := by rfl
set_option maxRecDepth 20000 in
theorem r_Writer_writePair_112 {s_Nodes_quotedIn : aS} {s_Waiting_append : aS} {s_Writer_writeNode : aS} {s_Nodes_headOf : aS} {s_Nodes_tailOf : aS} {s_Nodes_kindOf : aS} {J : aJ} {K : aR} {n : Nat} {L : aL} {S : List Value} {M : aM} : am_run (c_Writer_writePair s_Nodes_quotedIn s_Waiting_append s_Writer_writeNode s_Nodes_headOf s_Nodes_tailOf s_Nodes_kindOf) k_Writer_writePair J K (n + 1) 112 L S M = ai_callv3 5 s_Writer_writeNode 115 (am_run (c_Writer_writePair s_Nodes_quotedIn s_Waiting_append s_Writer_writeNode s_Nodes_headOf s_Nodes_tailOf s_Nodes_kindOf) k_Writer_writePair J K n) K 112 L S M := by rfl
set_option maxRecDepth 20000 in
theorem r_Writer_writePair_115 {s_Nodes_quotedIn : aS} {s_Waiting_append : aS} {s_Writer_writeNode : aS} {s_Nodes_headOf : aS} {s_Nodes_tailOf : aS} {s_Nodes_kindOf : aS} {J : aJ} {K : aR} {n : Nat} {L : aL} {S : List Value} {M : aM} : am_run (c_Writer_writePair s_Nodes_quotedIn s_Waiting_append s_Writer_writeNode s_Nodes_headOf s_Nodes_tailOf s_Nodes_kindOf) k_Writer_writePair J K (n + 1) 115 L S M = ai_aload 0 116 (am_run (c_Writer_writePair s_Nodes_quotedIn s_Waiting_append s_Writer_writeNode s_Nodes_headOf s_Nodes_tailOf s_Nodes_kindOf) k_Writer_writePair J K n) K 115 L S M := by rfl
set_option maxRecDepth 20000 in
theorem r_Writer_writePair_116 {s_Nodes_quotedIn : aS} {s_Waiting_append : aS} {s_Writer_writeNode : aS} {s_Nodes_headOf : aS} {s_Nodes_tailOf : aS} {s_Nodes_kindOf : aS} {J : aJ} {K : aR} {n : Nat} {L : aL} {S : List Value} {M : aM} : am_run (c_Writer_writePair s_Nodes_quotedIn s_Waiting_append s_Writer_writeNode s_Nodes_headOf s_Nodes_tailOf s_Nodes_kindOf) k_Writer_writePair J K (n + 1) 116 L S M = ai_getf 5 0 119 (am_run (c_Writer_writePair s_Nodes_quotedIn s_Waiting_append s_Writer_writeNode s_Nodes_headOf s_Nodes_tailOf s_Nodes_kindOf) k_Writer_writePair J K n) K 116 L S M := by rfl
set_option maxRecDepth 20000 in
theorem r_Writer_writePair_119 {s_Nodes_quotedIn : aS} {s_Waiting_append : aS} {s_Writer_writeNode : aS} {s_Nodes_headOf : aS} {s_Nodes_tailOf : aS} {s_Nodes_kindOf : aS} {J : aJ} {K : aR} {n : Nat} {L : aL} {S : List Value} {M : aM} : am_run (c_Writer_writePair s_Nodes_quotedIn s_Waiting_append s_Writer_writeNode s_Nodes_headOf s_Nodes_tailOf s_Nodes_kindOf) k_Writer_writePair J K (n + 1) 119 L S M = ai_iload 4 121 (am_run (c_Writer_writePair s_Nodes_quotedIn s_Waiting_append s_Writer_writeNode s_Nodes_headOf s_Nodes_tailOf s_Nodes_kindOf) k_Writer_writePair J K n) K 119 L S M := by rfl
set_option maxRecDepth 20000 in
theorem r_Writer_writePair_121 {s_Nodes_quotedIn : aS} {s_Waiting_append : aS} {s_Writer_writeNode : aS} {s_Nodes_headOf : aS} {s_Nodes_tailOf : aS} {s_Nodes_kindOf : aS} {J : aJ} {K : aR} {n : Nat} {L : aL} {S : List Value} {M : aM} : am_run (c_Writer_writePair s_Nodes_quotedIn s_Waiting_append s_Writer_writeNode s_Nodes_headOf s_Nodes_tailOf s_Nodes_kindOf) k_Writer_writePair J K (n + 1) 121 L S M = ai_callv2 0 s_Nodes_tailOf 124 (am_run (c_Writer_writePair s_Nodes_quotedIn s_Waiting_append s_Writer_writeNode s_Nodes_headOf s_Nodes_tailOf s_Nodes_kindOf) k_Writer_writePair J K n) K 121 L S M := by rfl
set_option maxRecDepth 20000 in
theorem r_Writer_writePair_124 {s_Nodes_quotedIn : aS} {s_Waiting_append : aS} {s_Writer_writeNode : aS} {s_Nodes_headOf : aS} {s_Nodes_tailOf : aS} {s_Nodes_kindOf : aS} {J : aJ} {K : aR} {n : Nat} {L : aL} {S : List Value} {M : aM} : am_run (c_Writer_writePair s_Nodes_quotedIn s_Waiting_append s_Writer_writeNode s_Nodes_headOf s_Nodes_tailOf s_Nodes_kindOf) k_Writer_writePair J K (n + 1) 124 L S M = ai_istore 4 126 (am_run (c_Writer_writePair s_Nodes_quotedIn s_Waiting_append s_Writer_writeNode s_Nodes_headOf s_Nodes_tailOf s_Nodes_kindOf) k_Writer_writePair J K n) K 124 L S M := by rfl
set_option maxRecDepth 20000 in
theorem r_Writer_writePair_126 {s_Nodes_quotedIn : aS} {s_Waiting_append : aS} {s_Writer_writeNode : aS} {s_Nodes_headOf : aS} {s_Nodes_tailOf : aS} {s_Nodes_kindOf : aS} {J : aJ} {K : aR} {n : Nat} {L : aL} {S : List Value} {M : aM} : am_run (c_Writer_writePair s_Nodes_quotedIn s_Waiting_append s_Writer_writeNode s_Nodes_headOf s_Nodes_tailOf s_Nodes_kindOf) k_Writer_writePair J K (n + 1) 126 L S M = ai_iinc 5 1 129 (am_run (c_Writer_writePair s_Nodes_quotedIn s_Waiting_append s_Writer_writeNode s_Nodes_headOf s_Nodes_tailOf s_Nodes_kindOf) k_Writer_writePair J K n) K 126 L S M := by rfl
set_option maxRecDepth 20000 in
theorem r_Writer_writePair_129 {s_Nodes_quotedIn : aS} {s_Waiting_append : aS} {s_Writer_writeNode : aS} {s_Nodes_headOf : aS} {s_Nodes_tailOf : aS} {s_Nodes_kindOf : aS} {J : aJ} {K : aR} {n : Nat} {L : aL} {S : List Value} {M : aM} : am_run (c_Writer_writePair s_Nodes_quotedIn s_Waiting_append s_Writer_writeNode s_Nodes_headOf s_Nodes_tailOf s_Nodes_kindOf) k_Writer_writePair J K (n + 1) 129 L S M = ai_goto 69 (am_run (c_Writer_writePair s_Nodes_quotedIn s_Waiting_append s_Writer_writeNode s_Nodes_headOf s_Nodes_tailOf s_Nodes_kindOf) k_Writer_writePair J K n) K 129 L S M := by rfl
set_option maxRecDepth 20000 in
theorem r_Writer_writePair_132 {s_Nodes_quotedIn : aS} {s_Waiting_append : aS} {s_Writer_writeNode : aS} {s_Nodes_headOf : aS} {s_Nodes_tailOf : aS} {s_Nodes_kindOf : aS} {J : aJ} {K : aR} {n : Nat} {L : aL} {S : List Value} {M : aM} : am_run (c_Writer_writePair s_Nodes_quotedIn s_Waiting_append s_Writer_writeNode s_Nodes_headOf s_Nodes_tailOf s_Nodes_kindOf) k_Writer_writePair J K (n + 1) 132 L S M = ai_aload 0 133 (am_run (c_Writer_writePair s_Nodes_quotedIn s_Waiting_append s_Writer_writeNode s_Nodes_headOf s_Nodes_tailOf s_Nodes_kindOf) k_Writer_writePair J K n) K 132 L S M := by rfl
set_option maxRecDepth 20000 in
theorem r_Writer_writePair_133 {s_Nodes_quotedIn : aS} {s_Waiting_append : aS} {s_Writer_writeNode : aS} {s_Nodes_headOf : aS} {s_Nodes_tailOf : aS} {s_Nodes_kindOf : aS} {J : aJ} {K : aR} {n : Nat} {L : aL} {S : List Value} {M : aM} : am_run (c_Writer_writePair s_Nodes_quotedIn s_Waiting_append s_Writer_writeNode s_Nodes_headOf s_Nodes_tailOf s_Nodes_kindOf) k_Writer_writePair J K (n + 1) 133 L S M = ai_getf 5 0 136 (am_run (c_Writer_writePair s_Nodes_quotedIn s_Waiting_append s_Writer_writeNode s_Nodes_headOf s_Nodes_tailOf s_Nodes_kindOf) k_Writer_writePair J K n) K 133 L S M := by rfl
set_option maxRecDepth 20000 in
theorem r_Writer_writePair_136 {s_Nodes_quotedIn : aS} {s_Waiting_append : aS} {s_Writer_writeNode : aS} {s_Nodes_headOf : aS} {s_Nodes_tailOf : aS} {s_Nodes_kindOf : aS} {J : aJ} {K : aR} {n : Nat} {L : aL} {S : List Value} {M : aM} : am_run (c_Writer_writePair s_Nodes_quotedIn s_Waiting_append s_Writer_writeNode s_Nodes_headOf s_Nodes_tailOf s_Nodes_kindOf) k_Writer_writePair J K (n + 1) 136 L S M = ai_iload 4 138 (am_run (c_Writer_writePair s_Nodes_quotedIn s_Waiting_append s_Writer_writeNode s_Nodes_headOf s_Nodes_tailOf s_Nodes_kindOf) k_Writer_writePair J K n) K 136 L S M := by rfl
set_option maxRecDepth 20000 in
theorem r_Writer_writePair_138 {s_Nodes_quotedIn : aS} {s_Waiting_append : aS} {s_Writer_writeNode : aS} {s_Nodes_headOf : aS} {s_Nodes_tailOf : aS} {s_Nodes_kindOf : aS} {J : aJ} {K : aR} {n : Nat} {L : aL} {S : List Value} {M : aM} : am_run (c_Writer_writePair s_Nodes_quotedIn s_Waiting_append s_Writer_writeNode s_Nodes_headOf s_Nodes_tailOf s_Nodes_kindOf) k_Writer_writePair J K (n + 1) 138 L S M = ai_callv2 0 s_Nodes_kindOf 141 (am_run (c_Writer_writePair s_Nodes_quotedIn s_Waiting_append s_Writer_writeNode s_Nodes_headOf s_Nodes_tailOf s_Nodes_kindOf) k_Writer_writePair J K n) K 138 L S M := by rfl
set_option maxRecDepth 20000 in
theorem r_Writer_writePair_141 {s_Nodes_quotedIn : aS} {s_Waiting_append : aS} {s_Writer_writeNode : aS} {s_Nodes_headOf : aS} {s_Nodes_tailOf : aS} {s_Nodes_kindOf : aS} {J : aJ} {K : aR} {n : Nat} {L : aL} {S : List Value} {M : aM} : am_run (c_Writer_writePair s_Nodes_quotedIn s_Waiting_append s_Writer_writeNode s_Nodes_headOf s_Nodes_tailOf s_Nodes_kindOf) k_Writer_writePair J K (n + 1) 141 L S M = ai_const 5 142 (am_run (c_Writer_writePair s_Nodes_quotedIn s_Waiting_append s_Writer_writeNode s_Nodes_headOf s_Nodes_tailOf s_Nodes_kindOf) k_Writer_writePair J K n) K 141 L S M := by rfl
set_option maxRecDepth 20000 in
theorem r_Writer_writePair_142 {s_Nodes_quotedIn : aS} {s_Waiting_append : aS} {s_Writer_writeNode : aS} {s_Nodes_headOf : aS} {s_Nodes_tailOf : aS} {s_Nodes_kindOf : aS} {J : aJ} {K : aR} {n : Nat} {L : aL} {S : List Value} {M : aM} : am_run (c_Writer_writePair s_Nodes_quotedIn s_Waiting_append s_Writer_writeNode s_Nodes_headOf s_Nodes_tailOf s_Nodes_kindOf) k_Writer_writePair J K (n + 1) 142 L S M = ai_cmpeq 181 145 (am_run (c_Writer_writePair s_Nodes_quotedIn s_Waiting_append s_Writer_writeNode s_Nodes_headOf s_Nodes_tailOf s_Nodes_kindOf) k_Writer_writePair J K n) K 142 L S M := by rfl
set_option maxRecDepth 20000 in
theorem r_Writer_writePair_145 {s_Nodes_quotedIn : aS} {s_Waiting_append : aS} {s_Writer_writeNode : aS} {s_Nodes_headOf : aS} {s_Nodes_tailOf : aS} {s_Nodes_kindOf : aS} {J : aJ} {K : aR} {n : Nat} {L : aL} {S : List Value} {M : aM} : am_run (c_Writer_writePair s_Nodes_quotedIn s_Waiting_append s_Writer_writeNode s_Nodes_headOf s_Nodes_tailOf s_Nodes_kindOf) k_Writer_writePair J K (n + 1) 145 L S M = ai_aload 0 146 (am_run (c_Writer_writePair s_Nodes_quotedIn s_Waiting_append s_Writer_writeNode s_Nodes_headOf s_Nodes_tailOf s_Nodes_kindOf) k_Writer_writePair J K n) K 145 L S M := by rfl
set_option maxRecDepth 20000 in
theorem r_Writer_writePair_146 {s_Nodes_quotedIn : aS} {s_Waiting_append : aS} {s_Writer_writeNode : aS} {s_Nodes_headOf : aS} {s_Nodes_tailOf : aS} {s_Nodes_kindOf : aS} {J : aJ} {K : aR} {n : Nat} {L : aL} {S : List Value} {M : aM} : am_run (c_Writer_writePair s_Nodes_quotedIn s_Waiting_append s_Writer_writeNode s_Nodes_headOf s_Nodes_tailOf s_Nodes_kindOf) k_Writer_writePair J K (n + 1) 146 L S M = ai_getf 5 1 149 (am_run (c_Writer_writePair s_Nodes_quotedIn s_Waiting_append s_Writer_writeNode s_Nodes_headOf s_Nodes_tailOf s_Nodes_kindOf) k_Writer_writePair J K n) K 146 L S M := by rfl
set_option maxRecDepth 20000 in
theorem r_Writer_writePair_149 {s_Nodes_quotedIn : aS} {s_Waiting_append : aS} {s_Writer_writeNode : aS} {s_Nodes_headOf : aS} {s_Nodes_tailOf : aS} {s_Nodes_kindOf : aS} {J : aJ} {K : aR} {n : Nat} {L : aL} {S : List Value} {M : aM} : am_run (c_Writer_writePair s_Nodes_quotedIn s_Waiting_append s_Writer_writeNode s_Nodes_headOf s_Nodes_tailOf s_Nodes_kindOf) k_Writer_writePair J K (n + 1) 149 L S M = ai_const 32 151 (am_run (c_Writer_writePair s_Nodes_quotedIn s_Waiting_append s_Writer_writeNode s_Nodes_headOf s_Nodes_tailOf s_Nodes_kindOf) k_Writer_writePair J K n) K 149 L S M := by rfl
set_option maxRecDepth 20000 in
theorem r_Writer_writePair_151 {s_Nodes_quotedIn : aS} {s_Waiting_append : aS} {s_Writer_writeNode : aS} {s_Nodes_headOf : aS} {s_Nodes_tailOf : aS} {s_Nodes_kindOf : aS} {J : aJ} {K : aR} {n : Nat} {L : aL} {S : List Value} {M : aM} : am_run (c_Writer_writePair s_Nodes_quotedIn s_Waiting_append s_Writer_writeNode s_Nodes_headOf s_Nodes_tailOf s_Nodes_kindOf) k_Writer_writePair J K (n + 1) 151 L S M = ai_callv2 4 s_Waiting_append 154 (am_run (c_Writer_writePair s_Nodes_quotedIn s_Waiting_append s_Writer_writeNode s_Nodes_headOf s_Nodes_tailOf s_Nodes_kindOf) k_Writer_writePair J K n) K 151 L S M := by rfl
set_option maxRecDepth 20000 in
theorem r_Writer_writePair_154 {s_Nodes_quotedIn : aS} {s_Waiting_append : aS} {s_Writer_writeNode : aS} {s_Nodes_headOf : aS} {s_Nodes_tailOf : aS} {s_Nodes_kindOf : aS} {J : aJ} {K : aR} {n : Nat} {L : aL} {S : List Value} {M : aM} : am_run (c_Writer_writePair s_Nodes_quotedIn s_Waiting_append s_Writer_writeNode s_Nodes_headOf s_Nodes_tailOf s_Nodes_kindOf) k_Writer_writePair J K (n + 1) 154 L S M = ai_aload 0 155 (am_run (c_Writer_writePair s_Nodes_quotedIn s_Waiting_append s_Writer_writeNode s_Nodes_headOf s_Nodes_tailOf s_Nodes_kindOf) k_Writer_writePair J K n) K 154 L S M := by rfl
set_option maxRecDepth 20000 in
theorem r_Writer_writePair_155 {s_Nodes_quotedIn : aS} {s_Waiting_append : aS} {s_Writer_writeNode : aS} {s_Nodes_headOf : aS} {s_Nodes_tailOf : aS} {s_Nodes_kindOf : aS} {J : aJ} {K : aR} {n : Nat} {L : aL} {S : List Value} {M : aM} : am_run (c_Writer_writePair s_Nodes_quotedIn s_Waiting_append s_Writer_writeNode s_Nodes_headOf s_Nodes_tailOf s_Nodes_kindOf) k_Writer_writePair J K (n + 1) 155 L S M = ai_getf 5 1 158 (am_run (c_Writer_writePair s_Nodes_quotedIn s_Waiting_append s_Writer_writeNode s_Nodes_headOf s_Nodes_tailOf s_Nodes_kindOf) k_Writer_writePair J K n) K 155 L S M := by rfl
set_option maxRecDepth 20000 in
theorem r_Writer_writePair_158 {s_Nodes_quotedIn : aS} {s_Waiting_append : aS} {s_Writer_writeNode : aS} {s_Nodes_headOf : aS} {s_Nodes_tailOf : aS} {s_Nodes_kindOf : aS} {J : aJ} {K : aR} {n : Nat} {L : aL} {S : List Value} {M : aM} : am_run (c_Writer_writePair s_Nodes_quotedIn s_Waiting_append s_Writer_writeNode s_Nodes_headOf s_Nodes_tailOf s_Nodes_kindOf) k_Writer_writePair J K (n + 1) 158 L S M = ai_const 46 160 (am_run (c_Writer_writePair s_Nodes_quotedIn s_Waiting_append s_Writer_writeNode s_Nodes_headOf s_Nodes_tailOf s_Nodes_kindOf) k_Writer_writePair J K n) K 158 L S M := by rfl
set_option maxRecDepth 20000 in
theorem r_Writer_writePair_160 {s_Nodes_quotedIn : aS} {s_Waiting_append : aS} {s_Writer_writeNode : aS} {s_Nodes_headOf : aS} {s_Nodes_tailOf : aS} {s_Nodes_kindOf : aS} {J : aJ} {K : aR} {n : Nat} {L : aL} {S : List Value} {M : aM} : am_run (c_Writer_writePair s_Nodes_quotedIn s_Waiting_append s_Writer_writeNode s_Nodes_headOf s_Nodes_tailOf s_Nodes_kindOf) k_Writer_writePair J K (n + 1) 160 L S M = ai_callv2 4 s_Waiting_append 163 (am_run (c_Writer_writePair s_Nodes_quotedIn s_Waiting_append s_Writer_writeNode s_Nodes_headOf s_Nodes_tailOf s_Nodes_kindOf) k_Writer_writePair J K n) K 160 L S M := by rfl
set_option maxRecDepth 20000 in
theorem r_Writer_writePair_163 {s_Nodes_quotedIn : aS} {s_Waiting_append : aS} {s_Writer_writeNode : aS} {s_Nodes_headOf : aS} {s_Nodes_tailOf : aS} {s_Nodes_kindOf : aS} {J : aJ} {K : aR} {n : Nat} {L : aL} {S : List Value} {M : aM} : am_run (c_Writer_writePair s_Nodes_quotedIn s_Waiting_append s_Writer_writeNode s_Nodes_headOf s_Nodes_tailOf s_Nodes_kindOf) k_Writer_writePair J K (n + 1) 163 L S M = ai_aload 0 164 (am_run (c_Writer_writePair s_Nodes_quotedIn s_Waiting_append s_Writer_writeNode s_Nodes_headOf s_Nodes_tailOf s_Nodes_kindOf) k_Writer_writePair J K n) K 163 L S M := by rfl
set_option maxRecDepth 20000 in
theorem r_Writer_writePair_164 {s_Nodes_quotedIn : aS} {s_Waiting_append : aS} {s_Writer_writeNode : aS} {s_Nodes_headOf : aS} {s_Nodes_tailOf : aS} {s_Nodes_kindOf : aS} {J : aJ} {K : aR} {n : Nat} {L : aL} {S : List Value} {M : aM} : am_run (c_Writer_writePair s_Nodes_quotedIn s_Waiting_append s_Writer_writeNode s_Nodes_headOf s_Nodes_tailOf s_Nodes_kindOf) k_Writer_writePair J K (n + 1) 164 L S M = ai_getf 5 1 167 (am_run (c_Writer_writePair s_Nodes_quotedIn s_Waiting_append s_Writer_writeNode s_Nodes_headOf s_Nodes_tailOf s_Nodes_kindOf) k_Writer_writePair J K n) K 164 L S M := by rfl
set_option maxRecDepth 20000 in
theorem r_Writer_writePair_167 {s_Nodes_quotedIn : aS} {s_Waiting_append : aS} {s_Writer_writeNode : aS} {s_Nodes_headOf : aS} {s_Nodes_tailOf : aS} {s_Nodes_kindOf : aS} {J : aJ} {K : aR} {n : Nat} {L : aL} {S : List Value} {M : aM} : am_run (c_Writer_writePair s_Nodes_quotedIn s_Waiting_append s_Writer_writeNode s_Nodes_headOf s_Nodes_tailOf s_Nodes_kindOf) k_Writer_writePair J K (n + 1) 167 L S M = ai_const 32 169 (am_run (c_Writer_writePair s_Nodes_quotedIn s_Waiting_append s_Writer_writeNode s_Nodes_headOf s_Nodes_tailOf s_Nodes_kindOf) k_Writer_writePair J K n) K 167 L S M := by rfl
set_option maxRecDepth 20000 in
theorem r_Writer_writePair_169 {s_Nodes_quotedIn : aS} {s_Waiting_append : aS} {s_Writer_writeNode : aS} {s_Nodes_headOf : aS} {s_Nodes_tailOf : aS} {s_Nodes_kindOf : aS} {J : aJ} {K : aR} {n : Nat} {L : aL} {S : List Value} {M : aM} : am_run (c_Writer_writePair s_Nodes_quotedIn s_Waiting_append s_Writer_writeNode s_Nodes_headOf s_Nodes_tailOf s_Nodes_kindOf) k_Writer_writePair J K (n + 1) 169 L S M = ai_callv2 4 s_Waiting_append 172 (am_run (c_Writer_writePair s_Nodes_quotedIn s_Waiting_append s_Writer_writeNode s_Nodes_headOf s_Nodes_tailOf s_Nodes_kindOf) k_Writer_writePair J K n) K 169 L S M := by rfl
set_option maxRecDepth 20000 in
theorem r_Writer_writePair_172 {s_Nodes_quotedIn : aS} {s_Waiting_append : aS} {s_Writer_writeNode : aS} {s_Nodes_headOf : aS} {s_Nodes_tailOf : aS} {s_Nodes_kindOf : aS} {J : aJ} {K : aR} {n : Nat} {L : aL} {S : List Value} {M : aM} : am_run (c_Writer_writePair s_Nodes_quotedIn s_Waiting_append s_Writer_writeNode s_Nodes_headOf s_Nodes_tailOf s_Nodes_kindOf) k_Writer_writePair J K (n + 1) 172 L S M = ai_aload 0 173 (am_run (c_Writer_writePair s_Nodes_quotedIn s_Waiting_append s_Writer_writeNode s_Nodes_headOf s_Nodes_tailOf s_Nodes_kindOf) k_Writer_writePair J K n) K 172 L S M := by rfl
set_option maxRecDepth 20000 in
theorem r_Writer_writePair_173 {s_Nodes_quotedIn : aS} {s_Waiting_append : aS} {s_Writer_writeNode : aS} {s_Nodes_headOf : aS} {s_Nodes_tailOf : aS} {s_Nodes_kindOf : aS} {J : aJ} {K : aR} {n : Nat} {L : aL} {S : List Value} {M : aM} : am_run (c_Writer_writePair s_Nodes_quotedIn s_Waiting_append s_Writer_writeNode s_Nodes_headOf s_Nodes_tailOf s_Nodes_kindOf) k_Writer_writePair J K (n + 1) 173 L S M = ai_iload 4 175 (am_run (c_Writer_writePair s_Nodes_quotedIn s_Waiting_append s_Writer_writeNode s_Nodes_headOf s_Nodes_tailOf s_Nodes_kindOf) k_Writer_writePair J K n) K 173 L S M := by rfl
set_option maxRecDepth 20000 in
theorem r_Writer_writePair_175 {s_Nodes_quotedIn : aS} {s_Waiting_append : aS} {s_Writer_writeNode : aS} {s_Nodes_headOf : aS} {s_Nodes_tailOf : aS} {s_Nodes_kindOf : aS} {J : aJ} {K : aR} {n : Nat} {L : aL} {S : List Value} {M : aM} : am_run (c_Writer_writePair s_Nodes_quotedIn s_Waiting_append s_Writer_writeNode s_Nodes_headOf s_Nodes_tailOf s_Nodes_kindOf) k_Writer_writePair J K (n + 1) 175 L S M = ai_iload 2 176 (am_run (c_Writer_writePair s_Nodes_quotedIn s_Waiting_append s_Writer_writeNode s_Nodes_headOf s_Nodes_tailOf s_Nodes_kindOf) k_Writer_writePair J K n) K 175 L S M := by rfl
set_option maxRecDepth 20000 in
theorem r_Writer_writePair_176 {s_Nodes_quotedIn : aS} {s_Waiting_append : aS} {s_Writer_writeNode : aS} {s_Nodes_headOf : aS} {s_Nodes_tailOf : aS} {s_Nodes_kindOf : aS} {J : aJ} {K : aR} {n : Nat} {L : aL} {S : List Value} {M : aM} : am_run (c_Writer_writePair s_Nodes_quotedIn s_Waiting_append s_Writer_writeNode s_Nodes_headOf s_Nodes_tailOf s_Nodes_kindOf) k_Writer_writePair J K (n + 1) 176 L S M = ai_const 1 177 (am_run (c_Writer_writePair s_Nodes_quotedIn s_Waiting_append s_Writer_writeNode s_Nodes_headOf s_Nodes_tailOf s_Nodes_kindOf) k_Writer_writePair J K n) K 176 L S M := by rfl
set_option maxRecDepth 20000 in
theorem r_Writer_writePair_177 {s_Nodes_quotedIn : aS} {s_Waiting_append : aS} {s_Writer_writeNode : aS} {s_Nodes_headOf : aS} {s_Nodes_tailOf : aS} {s_Nodes_kindOf : aS} {J : aJ} {K : aR} {n : Nat} {L : aL} {S : List Value} {M : aM} : am_run (c_Writer_writePair s_Nodes_quotedIn s_Waiting_append s_Writer_writeNode s_Nodes_headOf s_Nodes_tailOf s_Nodes_kindOf) k_Writer_writePair J K (n + 1) 177 L S M = ai_iadd 178 (am_run (c_Writer_writePair s_Nodes_quotedIn s_Waiting_append s_Writer_writeNode s_Nodes_headOf s_Nodes_tailOf s_Nodes_kindOf) k_Writer_writePair J K n) K 177 L S M := by rfl
set_option maxRecDepth 20000 in
theorem r_Writer_writePair_178 {s_Nodes_quotedIn : aS} {s_Waiting_append : aS} {s_Writer_writeNode : aS} {s_Nodes_headOf : aS} {s_Nodes_tailOf : aS} {s_Nodes_kindOf : aS} {J : aJ} {K : aR} {n : Nat} {L : aL} {S : List Value} {M : aM} : am_run (c_Writer_writePair s_Nodes_quotedIn s_Waiting_append s_Writer_writeNode s_Nodes_headOf s_Nodes_tailOf s_Nodes_kindOf) k_Writer_writePair J K (n + 1) 178 L S M = ai_callv3 5 s_Writer_writeNode 181 (am_run (c_Writer_writePair s_Nodes_quotedIn s_Waiting_append s_Writer_writeNode s_Nodes_headOf s_Nodes_tailOf s_Nodes_kindOf) k_Writer_writePair J K n) K 178 L S M := by rfl
set_option maxRecDepth 20000 in
theorem r_Writer_writePair_181 {s_Nodes_quotedIn : aS} {s_Waiting_append : aS} {s_Writer_writeNode : aS} {s_Nodes_headOf : aS} {s_Nodes_tailOf : aS} {s_Nodes_kindOf : aS} {J : aJ} {K : aR} {n : Nat} {L : aL} {S : List Value} {M : aM} : am_run (c_Writer_writePair s_Nodes_quotedIn s_Waiting_append s_Writer_writeNode s_Nodes_headOf s_Nodes_tailOf s_Nodes_kindOf) k_Writer_writePair J K (n + 1) 181 L S M = ai_aload 0 182 (am_run (c_Writer_writePair s_Nodes_quotedIn s_Waiting_append s_Writer_writeNode s_Nodes_headOf s_Nodes_tailOf s_Nodes_kindOf) k_Writer_writePair J K n) K 181 L S M := by rfl
set_option maxRecDepth 20000 in
theorem r_Writer_writePair_182 {s_Nodes_quotedIn : aS} {s_Waiting_append : aS} {s_Writer_writeNode : aS} {s_Nodes_headOf : aS} {s_Nodes_tailOf : aS} {s_Nodes_kindOf : aS} {J : aJ} {K : aR} {n : Nat} {L : aL} {S : List Value} {M : aM} : am_run (c_Writer_writePair s_Nodes_quotedIn s_Waiting_append s_Writer_writeNode s_Nodes_headOf s_Nodes_tailOf s_Nodes_kindOf) k_Writer_writePair J K (n + 1) 182 L S M = ai_getf 5 1 185 (am_run (c_Writer_writePair s_Nodes_quotedIn s_Waiting_append s_Writer_writeNode s_Nodes_headOf s_Nodes_tailOf s_Nodes_kindOf) k_Writer_writePair J K n) K 182 L S M := by rfl
set_option maxRecDepth 20000 in
theorem r_Writer_writePair_185 {s_Nodes_quotedIn : aS} {s_Waiting_append : aS} {s_Writer_writeNode : aS} {s_Nodes_headOf : aS} {s_Nodes_tailOf : aS} {s_Nodes_kindOf : aS} {J : aJ} {K : aR} {n : Nat} {L : aL} {S : List Value} {M : aM} : am_run (c_Writer_writePair s_Nodes_quotedIn s_Waiting_append s_Writer_writeNode s_Nodes_headOf s_Nodes_tailOf s_Nodes_kindOf) k_Writer_writePair J K (n + 1) 185 L S M = ai_const 41 187 (am_run (c_Writer_writePair s_Nodes_quotedIn s_Waiting_append s_Writer_writeNode s_Nodes_headOf s_Nodes_tailOf s_Nodes_kindOf) k_Writer_writePair J K n) K 185 L S M := by rfl
set_option maxRecDepth 20000 in
theorem r_Writer_writePair_187 {s_Nodes_quotedIn : aS} {s_Waiting_append : aS} {s_Writer_writeNode : aS} {s_Nodes_headOf : aS} {s_Nodes_tailOf : aS} {s_Nodes_kindOf : aS} {J : aJ} {K : aR} {n : Nat} {L : aL} {S : List Value} {M : aM} : am_run (c_Writer_writePair s_Nodes_quotedIn s_Waiting_append s_Writer_writeNode s_Nodes_headOf s_Nodes_tailOf s_Nodes_kindOf) k_Writer_writePair J K (n + 1) 187 L S M = ai_callv2 4 s_Waiting_append 190 (am_run (c_Writer_writePair s_Nodes_quotedIn s_Waiting_append s_Writer_writeNode s_Nodes_headOf s_Nodes_tailOf s_Nodes_kindOf) k_Writer_writePair J K n) K 187 L S M := by rfl
set_option maxRecDepth 20000 in
theorem r_Writer_writePair_190 {s_Nodes_quotedIn : aS} {s_Waiting_append : aS} {s_Writer_writeNode : aS} {s_Nodes_headOf : aS} {s_Nodes_tailOf : aS} {s_Nodes_kindOf : aS} {J : aJ} {K : aR} {n : Nat} {L : aL} {S : List Value} {M : aM} : am_run (c_Writer_writePair s_Nodes_quotedIn s_Waiting_append s_Writer_writeNode s_Nodes_headOf s_Nodes_tailOf s_Nodes_kindOf) k_Writer_writePair J K (n + 1) 190 L S M = ai_vret (am_run (c_Writer_writePair s_Nodes_quotedIn s_Waiting_append s_Writer_writeNode s_Nodes_headOf s_Nodes_tailOf s_Nodes_kindOf) k_Writer_writePair J K n) K 190 L S M := by rfl
