def c_Tokens_scan (s_Text_skipBlanks : aS) (s_Text_sortAt : aS) (s_Text_tokenEnd : aS) : List (Nat × aI) := [
  (0, ai_aload 0 1),
  (1, ai_const 0 2),
  (2, ai_putf 3 3 5),
  (5, ai_const 0 6),
  (6, ai_istore 2 7),
  (7, ai_const 0 8),
  (8, ai_istore 3 9),
  (9, ai_iload 3 10),
  (10, ai_const 400 13),
  (13, ai_cmpgt 106 16),
  (16, ai_aload 1 17),
  (17, ai_iload 2 18),
  (18, ai_callv2 2 s_Text_skipBlanks 21),
  (21, ai_istore 4 23),
  (23, ai_aload 1 24),
  (24, ai_iload 4 26),
  (26, ai_callv2 2 s_Text_sortAt 29),
  (29, ai_istore 5 31),
  (31, ai_aload 1 32),
  (32, ai_iload 4 34),
  (34, ai_iload 5 36),
  (36, ai_callv3 2 s_Text_tokenEnd 39),
  (39, ai_istore 6 41),
  (41, ai_aload 0 42),
  (42, ai_getf 3 0 45),
  (45, ai_iload 3 46),
  (46, ai_iload 6 48),
  (48, ai_const (-1) 49),
  (49, ai_cmpne 57 52),
  (52, ai_const 11 54),
  (54, ai_goto 59),
  (57, ai_iload 5 59),
  (59, ai_iast 60),
  (60, ai_aload 0 61),
  (61, ai_getf 3 1 64),
  (64, ai_iload 3 65),
  (65, ai_iload 4 67),
  (67, ai_iast 68),
  (68, ai_aload 0 69),
  (69, ai_getf 3 2 72),
  (72, ai_iload 3 73),
  (73, ai_iload 6 75),
  (75, ai_iast 76),
  (76, ai_aload 0 77),
  (77, ai_iload 3 78),
  (78, ai_const 1 79),
  (79, ai_iadd 80),
  (80, ai_putf 3 3 83),
  (83, ai_iload 6 85),
  (85, ai_const (-1) 86),
  (86, ai_cmpeq 96 89),
  (89, ai_iload 5 91),
  (91, ai_const 10 93),
  (93, ai_cmpne 97 96),
  (96, ai_vret),
  (97, ai_iload 6 99),
  (99, ai_istore 2 100),
  (100, ai_iinc 3 1 103),
  (103, ai_goto 9),
  (106, ai_vret)]
set_option maxRecDepth 100000 in
set_option maxHeartbeats 4000000 in
theorem tb_Tokens_scan {G : aG} {d : Nat} {s_Text_skipBlanks : aS} {d_Text_skipBlanks : Nat} (h_Text_skipBlanks : am_Sp G Y_Text_skipBlanks d_Text_skipBlanks s_Text_skipBlanks) (l_Text_skipBlanks : d_Text_skipBlanks < d) {s_Text_sortAt : aS} {d_Text_sortAt : Nat} (h_Text_sortAt : am_Sp G Y_Text_sortAt d_Text_sortAt s_Text_sortAt) (l_Text_sortAt : d_Text_sortAt < d) {s_Text_tokenEnd : aS} {d_Text_tokenEnd : Nat} (h_Text_tokenEnd : am_Sp G Y_Text_tokenEnd d_Text_tokenEnd s_Text_tokenEnd) (l_Text_tokenEnd : d_Text_tokenEnd < d) : am_tab G Y_Tokens_scan d (c_Tokens_scan s_Text_skipBlanks s_Text_sortAt s_Text_tokenEnd) := by
  intro K p e s m args below meth c C
  exact ⟨as_aload_n C (pc := 0) (q := 0) (by decide +kernel) rfl rfl,
    as_iconst C (pc := 1) (n := 0) (by decide +kernel) (by decide +kernel) rfl,
    as_putf C (pc := 2) t_Tokens (T := T_Tokens) (N := 4) rfl in_Tokens tok_Tokens nm_Tokens (by decide) rfl rfl (by decide +kernel) w_166 (by decide +kernel) rfl,
    as_iconst C (pc := 5) (n := 0) (by decide +kernel) (by decide +kernel) rfl,
    as_istore_n C (pc := 6) (q := 2) (by decide +kernel) rfl (by decide) rfl,
    as_iconst C (pc := 7) (n := 0) (by decide +kernel) (by decide +kernel) rfl,
    as_istore_n C (pc := 8) (q := 3) (by decide +kernel) rfl (by decide) rfl,
    as_iload_n C (pc := 9) (q := 3) (by decide +kernel) rfl rfl,
    as_sipush C (pc := 10) (n := 400) (by decide +kernel) (by decide +kernel) rfl,
    as_cmpgt C (pc := 13) (off := 93) (by decide +kernel) (by decide) rfl,
    as_aload_n C (pc := 16) (q := 1) (by decide +kernel) rfl rfl,
    as_iload_n C (pc := 17) (q := 2) (by decide +kernel) rfl rfl,
    as_callv2N C (pc := 18) h_Text_skipBlanks (T := T_Text) (N := 2) rfl w_266 w_71 w_265 w_4 w_263 hy_Text_skipBlanks (am_rm_of l_Text_skipBlanks (by decide)) (by decide +kernel) rfl,
    as_istore C (pc := 21) (k := 4) (by decide +kernel) (by decide) rfl,
    as_aload_n C (pc := 23) (q := 1) (by decide +kernel) rfl rfl,
    as_iload C (pc := 24) (k := 4) (by decide +kernel) rfl,
    as_callv2N C (pc := 26) h_Text_sortAt (T := T_Text) (N := 2) rfl w_274 w_71 w_273 w_6 w_271 hy_Text_sortAt (am_rm_of l_Text_sortAt (by decide)) (by decide +kernel) rfl,
    as_istore C (pc := 29) (k := 5) (by decide +kernel) (by decide) rfl,
    as_aload_n C (pc := 31) (q := 1) (by decide +kernel) rfl rfl,
    as_iload C (pc := 32) (k := 4) (by decide +kernel) rfl,
    as_iload C (pc := 34) (k := 5) (by decide +kernel) rfl,
    as_callv3N C (pc := 36) h_Text_tokenEnd (T := T_Text) (N := 2) rfl w_284 w_71 w_283 w_7 w_281 hy_Text_tokenEnd (am_rm_of l_Text_tokenEnd (by decide)) (by decide +kernel) rfl,
    as_istore C (pc := 39) (k := 6) (by decide +kernel) (by decide) rfl,
    as_aload_n C (pc := 41) (q := 0) (by decide +kernel) rfl rfl,
    as_getf C (pc := 42) (T := T_Tokens) (N := 4) rfl in_Tokens (by decide) rfl w_163 (by decide +kernel) rfl,
    as_iload_n C (pc := 45) (q := 3) (by decide +kernel) rfl rfl,
    as_iload C (pc := 46) (k := 6) (by decide +kernel) rfl,
    as_iconst C (pc := 48) (n := (-1)) (by decide +kernel) (by decide +kernel) rfl,
    as_cmpne C (pc := 49) (off := 8) (by decide +kernel) (by decide) rfl,
    as_bipush C (pc := 52) (n := 11) (by decide +kernel) (by decide +kernel) rfl,
    as_goto C (pc := 54) (off := 5) (by decide +kernel) (by decide),
    as_iload C (pc := 57) (k := 5) (by decide +kernel) rfl,
    as_iast C (pc := 59) (by decide +kernel) rfl,
    as_aload_n C (pc := 60) (q := 0) (by decide +kernel) rfl rfl,
    as_getf C (pc := 61) (T := T_Tokens) (N := 4) rfl in_Tokens (by decide) rfl w_164 (by decide +kernel) rfl,
    as_iload_n C (pc := 64) (q := 3) (by decide +kernel) rfl rfl,
    as_iload C (pc := 65) (k := 4) (by decide +kernel) rfl,
    as_iast C (pc := 67) (by decide +kernel) rfl,
    as_aload_n C (pc := 68) (q := 0) (by decide +kernel) rfl rfl,
    as_getf C (pc := 69) (T := T_Tokens) (N := 4) rfl in_Tokens (by decide) rfl w_165 (by decide +kernel) rfl,
    as_iload_n C (pc := 72) (q := 3) (by decide +kernel) rfl rfl,
    as_iload C (pc := 73) (k := 6) (by decide +kernel) rfl,
    as_iast C (pc := 75) (by decide +kernel) rfl,
    as_aload_n C (pc := 76) (q := 0) (by decide +kernel) rfl rfl,
    as_iload_n C (pc := 77) (q := 3) (by decide +kernel) rfl rfl,
    as_iconst C (pc := 78) (n := 1) (by decide +kernel) (by decide +kernel) rfl,
    as_iadd C (pc := 79) (by decide +kernel) rfl,
    as_putf C (pc := 80) t_Tokens (T := T_Tokens) (N := 4) rfl in_Tokens tok_Tokens nm_Tokens (by decide) rfl rfl (by decide +kernel) w_166 (by decide +kernel) rfl,
    as_iload C (pc := 83) (k := 6) (by decide +kernel) rfl,
    as_iconst C (pc := 85) (n := (-1)) (by decide +kernel) (by decide +kernel) rfl,
    as_cmpeq C (pc := 86) (off := 10) (by decide +kernel) (by decide) rfl,
    as_iload C (pc := 89) (k := 5) (by decide +kernel) rfl,
    as_bipush C (pc := 91) (n := 10) (by decide +kernel) (by decide +kernel) rfl,
    as_cmpne C (pc := 93) (off := 4) (by decide +kernel) (by decide) rfl,
    as_vret C (pc := 96) rfl (by decide +kernel),
    as_iload C (pc := 97) (k := 6) (by decide +kernel) rfl,
    as_istore_n C (pc := 99) (q := 2) (by decide +kernel) rfl (by decide) rfl,
    as_iinc C (pc := 100) (k := 3) (n := 1) (by decide +kernel) (by decide +kernel) (by decide) rfl,
    as_goto C (pc := 103) (off := (-94)) (by decide +kernel) (by decide),
    as_vret C (pc := 106) rfl (by decide +kernel), trivial⟩
abbrev k_Tokens_scan : List Nat := [9]
set_option maxRecDepth 20000 in
theorem q_Tokens_scan_9 {s_Text_skipBlanks : aS} {s_Text_sortAt : aS} {s_Text_tokenEnd : aS} : am_at (c_Tokens_scan s_Text_skipBlanks s_Text_sortAt s_Text_tokenEnd) 9 = ai_iload 3 10 := by rfl
set_option maxRecDepth 20000 in
theorem r_Tokens_scan_0 {s_Text_skipBlanks : aS} {s_Text_sortAt : aS} {s_Text_tokenEnd : aS} {J : aJ} {K : aR} {n : Nat} {L : aL} {S : List Value} {M : aM} : am_run (c_Tokens_scan s_Text_skipBlanks s_Text_sortAt s_Text_tokenEnd) k_Tokens_scan J K (n + 1) 0 L S M = ai_aload 0 1 (am_run (c_Tokens_scan s_Text_skipBlanks s_Text_sortAt s_Text_tokenEnd) k_Tokens_scan J K n) K 0 L S M := by rfl
set_option maxRecDepth 20000 in
theorem r_Tokens_scan_1 {s_Text_skipBlanks : aS} {s_Text_sortAt : aS} {s_Text_tokenEnd : aS} {J : aJ} {K : aR} {n : Nat} {L : aL} {S : List Value} {M : aM} : am_run (c_Tokens_scan s_Text_skipBlanks s_Text_sortAt s_Text_tokenEnd) k_Tokens_scan J K (n + 1) 1 L S M = ai_const 0 2 (am_run (c_Tokens_scan s_Text_skipBlanks s_Text_sortAt s_Text_tokenEnd) k_Tokens_scan J K n) K 1 L S M := by rfl
set_option maxRecDepth 20000 in
theorem r_Tokens_scan_2 {s_Text_skipBlanks : aS} {s_Text_sortAt : aS} {s_Text_tokenEnd : aS} {J : aJ} {K : aR} {n : Nat} {L : aL} {S : List Value} {M : aM} : am_run (c_Tokens_scan s_Text_skipBlanks s_Text_sortAt s_Text_tokenEnd) k_Tokens_scan J K (n + 1) 2 L S M = ai_putf 3 3 5 (am_run (c_Tokens_scan s_Text_skipBlanks s_Text_sortAt s_Text_tokenEnd) k_Tokens_scan J K n) K 2 L S M := by rfl
set_option maxRecDepth 20000 in
theorem r_Tokens_scan_5 {s_Text_skipBlanks : aS} {s_Text_sortAt : aS} {s_Text_tokenEnd : aS} {J : aJ} {K : aR} {n : Nat} {L : aL} {S : List Value} {M : aM} : am_run (c_Tokens_scan s_Text_skipBlanks s_Text_sortAt s_Text_tokenEnd) k_Tokens_scan J K (n + 1) 5 L S M = ai_const 0 6 (am_run (c_Tokens_scan s_Text_skipBlanks s_Text_sortAt s_Text_tokenEnd) k_Tokens_scan J K n) K 5 L S M := by rfl
set_option maxRecDepth 20000 in
theorem r_Tokens_scan_6 {s_Text_skipBlanks : aS} {s_Text_sortAt : aS} {s_Text_tokenEnd : aS} {J : aJ} {K : aR} {n : Nat} {L : aL} {S : List Value} {M : aM} : am_run (c_Tokens_scan s_Text_skipBlanks s_Text_sortAt s_Text_tokenEnd) k_Tokens_scan J K (n + 1) 6 L S M = ai_istore 2 7 (am_run (c_Tokens_scan s_Text_skipBlanks s_Text_sortAt s_Text_tokenEnd) k_Tokens_scan J K n) K 6 L S M := by rfl
set_option maxRecDepth 20000 in
theorem r_Tokens_scan_7 {s_Text_skipBlanks : aS} {s_Text_sortAt : aS} {s_Text_tokenEnd : aS} {J : aJ} {K : aR} {n : Nat} {L : aL} {S : List Value} {M : aM} : am_run (c_Tokens_scan s_Text_skipBlanks s_Text_sortAt s_Text_tokenEnd) k_Tokens_scan J K (n + 1) 7 L S M = ai_const 0 8 (am_run (c_Tokens_scan s_Text_skipBlanks s_Text_sortAt s_Text_tokenEnd) k_Tokens_scan J K n) K 7 L S M := by rfl
set_option maxRecDepth 20000 in
theorem r_Tokens_scan_8 {s_Text_skipBlanks : aS} {s_Text_sortAt : aS} {s_Text_tokenEnd : aS} {J : aJ} {K : aR} {n : Nat} {L : aL} {S : List Value} {M : aM} : am_run (c_Tokens_scan s_Text_skipBlanks s_Text_sortAt s_Text_tokenEnd) k_Tokens_scan J K (n + 1) 8 L S M = ai_istore 3 9 (am_run (c_Tokens_scan s_Text_skipBlanks s_Text_sortAt s_Text_tokenEnd) k_Tokens_scan J K n) K 8 L S M := by rfl
set_option maxRecDepth 20000 in
theorem r_Tokens_scan_9 {s_Text_skipBlanks : aS} {s_Text_sortAt : aS} {s_Text_tokenEnd : aS} {J : aJ} {K : aR} {n : Nat} {L : aL} {S : List Value} {M : aM} : am_run (c_Tokens_scan s_Text_skipBlanks s_Text_sortAt s_Text_tokenEnd) k_Tokens_scan J K (n + 1) 9 L S M = J 9 L S M := by rfl
set_option maxRecDepth 20000 in
theorem r_Tokens_scan_10 {s_Text_skipBlanks : aS} {s_Text_sortAt : aS} {s_Text_tokenEnd : aS} {J : aJ} {K : aR} {n : Nat} {L : aL} {S : List Value} {M : aM} : am_run (c_Tokens_scan s_Text_skipBlanks s_Text_sortAt s_Text_tokenEnd) k_Tokens_scan J K (n + 1) 10 L S M = ai_const 400 13 (am_run (c_Tokens_scan s_Text_skipBlanks s_Text_sortAt s_Text_tokenEnd) k_Tokens_scan J K n) K 10 L S M := by rfl
set_option maxRecDepth 20000 in
theorem r_Tokens_scan_13 {s_Text_skipBlanks : aS} {s_Text_sortAt : aS} {s_Text_tokenEnd : aS} {J : aJ} {K : aR} {n : Nat} {L : aL} {S : List Value} {M : aM} : am_run (c_Tokens_scan s_Text_skipBlanks s_Text_sortAt s_Text_tokenEnd) k_Tokens_scan J K (n + 1) 13 L S M = ai_cmpgt 106 16 (am_run (c_Tokens_scan s_Text_skipBlanks s_Text_sortAt s_Text_tokenEnd) k_Tokens_scan J K n) K 13 L S M := by rfl
set_option maxRecDepth 20000 in
theorem r_Tokens_scan_16 {s_Text_skipBlanks : aS} {s_Text_sortAt : aS} {s_Text_tokenEnd : aS} {J : aJ} {K : aR} {n : Nat} {L : aL} {S : List Value} {M : aM} : am_run (c_Tokens_scan s_Text_skipBlanks s_Text_sortAt s_Text_tokenEnd) k_Tokens_scan J K (n + 1) 16 L S M = ai_aload 1 17 (am_run (c_Tokens_scan s_Text_skipBlanks s_Text_sortAt s_Text_tokenEnd) k_Tokens_scan J K n) K 16 L S M := by rfl
set_option maxRecDepth 20000 in
theorem r_Tokens_scan_17 {s_Text_skipBlanks : aS} {s_Text_sortAt : aS} {s_Text_tokenEnd : aS} {J : aJ} {K : aR} {n : Nat} {L : aL} {S : List Value} {M : aM} : am_run (c_Tokens_scan s_Text_skipBlanks s_Text_sortAt s_Text_tokenEnd) k_Tokens_scan J K (n + 1) 17 L S M = ai_iload 2 18 (am_run (c_Tokens_scan s_Text_skipBlanks s_Text_sortAt s_Text_tokenEnd) k_Tokens_scan J K n) K 17 L S M := by rfl
set_option maxRecDepth 20000 in
theorem r_Tokens_scan_18 {s_Text_skipBlanks : aS} {s_Text_sortAt : aS} {s_Text_tokenEnd : aS} {J : aJ} {K : aR} {n : Nat} {L : aL} {S : List Value} {M : aM} : am_run (c_Tokens_scan s_Text_skipBlanks s_Text_sortAt s_Text_tokenEnd) k_Tokens_scan J K (n + 1) 18 L S M = ai_callv2 2 s_Text_skipBlanks 21 (am_run (c_Tokens_scan s_Text_skipBlanks s_Text_sortAt s_Text_tokenEnd) k_Tokens_scan J K n) K 18 L S M := by rfl
set_option maxRecDepth 20000 in
theorem r_Tokens_scan_21 {s_Text_skipBlanks : aS} {s_Text_sortAt : aS} {s_Text_tokenEnd : aS} {J : aJ} {K : aR} {n : Nat} {L : aL} {S : List Value} {M : aM} : am_run (c_Tokens_scan s_Text_skipBlanks s_Text_sortAt s_Text_tokenEnd) k_Tokens_scan J K (n + 1) 21 L S M = ai_istore 4 23 (am_run (c_Tokens_scan s_Text_skipBlanks s_Text_sortAt s_Text_tokenEnd) k_Tokens_scan J K n) K 21 L S M := by rfl
set_option maxRecDepth 20000 in
theorem r_Tokens_scan_23 {s_Text_skipBlanks : aS} {s_Text_sortAt : aS} {s_Text_tokenEnd : aS} {J : aJ} {K : aR} {n : Nat} {L : aL} {S : List Value} {M : aM} : am_run (c_Tokens_scan s_Text_skipBlanks s_Text_sortAt s_Text_tokenEnd) k_Tokens_scan J K (n + 1) 23 L S M = ai_aload 1 24 (am_run (c_Tokens_scan s_Text_skipBlanks s_Text_sortAt s_Text_tokenEnd) k_Tokens_scan J K n) K 23 L S M := by rfl
set_option maxRecDepth 20000 in
theorem r_Tokens_scan_24 {s_Text_skipBlanks : aS} {s_Text_sortAt : aS} {s_Text_tokenEnd : aS} {J : aJ} {K : aR} {n : Nat} {L : aL} {S : List Value} {M : aM} : am_run (c_Tokens_scan s_Text_skipBlanks s_Text_sortAt s_Text_tokenEnd) k_Tokens_scan J K (n + 1) 24 L S M = ai_iload 4 26 (am_run (c_Tokens_scan s_Text_skipBlanks s_Text_sortAt s_Text_tokenEnd) k_Tokens_scan J K n) K 24 L S M := by rfl
set_option maxRecDepth 20000 in
theorem r_Tokens_scan_26 {s_Text_skipBlanks : aS} {s_Text_sortAt : aS} {s_Text_tokenEnd : aS} {J : aJ} {K : aR} {n : Nat} {L : aL} {S : List Value} {M : aM} : am_run (c_Tokens_scan s_Text_skipBlanks s_Text_sortAt s_Text_tokenEnd) k_Tokens_scan J K (n + 1) 26 L S M = ai_callv2 2 s_Text_sortAt 29 (am_run (c_Tokens_scan s_Text_skipBlanks s_Text_sortAt s_Text_tokenEnd) k_Tokens_scan J K n) K 26 L S M := by rfl
set_option maxRecDepth 20000 in
theorem r_Tokens_scan_29 {s_Text_skipBlanks : aS} {s_Text_sortAt : aS} {s_Text_tokenEnd : aS} {J : aJ} {K : aR} {n : Nat} {L : aL} {S : List Value} {M : aM} : am_run (c_Tokens_scan s_Text_skipBlanks s_Text_sortAt s_Text_tokenEnd) k_Tokens_scan J K (n + 1) 29 L S M = ai_istore 5 31 (am_run (c_Tokens_scan s_Text_skipBlanks s_Text_sortAt s_Text_tokenEnd) k_Tokens_scan J K n) K 29 L S M := by rfl
set_option maxRecDepth 20000 in
theorem r_Tokens_scan_31 {s_Text_skipBlanks : aS} {s_Text_sortAt : aS} {s_Text_tokenEnd : aS} {J : aJ} {K : aR} {n : Nat} {L : aL} {S : List Value} {M : aM} : am_run (c_Tokens_scan s_Text_skipBlanks s_Text_sortAt s_Text_tokenEnd) k_Tokens_scan J K (n + 1) 31 L S M = ai_aload 1 32 (am_run (c_Tokens_scan s_Text_skipBlanks s_Text_sortAt s_Text_tokenEnd) k_Tokens_scan J K n) K 31 L S M := by rfl
set_option maxRecDepth 20000 in
theorem r_Tokens_scan_32 {s_Text_skipBlanks : aS} {s_Text_sortAt : aS} {s_Text_tokenEnd : aS} {J : aJ} {K : aR} {n : Nat} {L : aL} {S : List Value} {M : aM} : am_run (c_Tokens_scan s_Text_skipBlanks s_Text_sortAt s_Text_tokenEnd) k_Tokens_scan J K (n + 1) 32 L S M = ai_iload 4 34 (am_run (c_Tokens_scan s_Text_skipBlanks s_Text_sortAt s_Text_tokenEnd) k_Tokens_scan J K n) K 32 L S M := by rfl
set_option maxRecDepth 20000 in
theorem r_Tokens_scan_34 {s_Text_skipBlanks : aS} {s_Text_sortAt : aS} {s_Text_tokenEnd : aS} {J : aJ} {K : aR} {n : Nat} {L : aL} {S : List Value} {M : aM} : am_run (c_Tokens_scan s_Text_skipBlanks s_Text_sortAt s_Text_tokenEnd) k_Tokens_scan J K (n + 1) 34 L S M = ai_iload 5 36 (am_run (c_Tokens_scan s_Text_skipBlanks s_Text_sortAt s_Text_tokenEnd) k_Tokens_scan J K n) K 34 L S M := by rfl
set_option maxRecDepth 20000 in
theorem r_Tokens_scan_36 {s_Text_skipBlanks : aS} {s_Text_sortAt : aS} {s_Text_tokenEnd : aS} {J : aJ} {K : aR} {n : Nat} {L : aL} {S : List Value} {M : aM} : am_run (c_Tokens_scan s_Text_skipBlanks s_Text_sortAt s_Text_tokenEnd) k_Tokens_scan J K (n + 1) 36 L S M = ai_callv3 2 s_Text_tokenEnd 39 (am_run (c_Tokens_scan s_Text_skipBlanks s_Text_sortAt s_Text_tokenEnd) k_Tokens_scan J K n) K 36 L S M := by rfl
set_option maxRecDepth 20000 in
theorem r_Tokens_scan_39 {s_Text_skipBlanks : aS} {s_Text_sortAt : aS} {s_Text_tokenEnd : aS} {J : aJ} {K : aR} {n : Nat} {L : aL} {S : List Value} {M : aM} : am_run (c_Tokens_scan s_Text_skipBlanks s_Text_sortAt s_Text_tokenEnd) k_Tokens_scan J K (n + 1) 39 L S M = ai_istore 6 41 (am_run (c_Tokens_scan s_Text_skipBlanks s_Text_sortAt s_Text_tokenEnd) k_Tokens_scan J K n) K 39 L S M := by rfl
set_option maxRecDepth 20000 in
theorem r_Tokens_scan_41 {s_Text_skipBlanks : aS} {s_Text_sortAt : aS} {s_Text_tokenEnd : aS} {J : aJ} {K : aR} {n : Nat} {L : aL} {S : List Value} {M : aM} : am_run (c_Tokens_scan s_Text_skipBlanks s_Text_sortAt s_Text_tokenEnd) k_Tokens_scan J K (n + 1) 41 L S M = ai_aload 0 42 (am_run (c_Tokens_scan s_Text_skipBlanks s_Text_sortAt s_Text_tokenEnd) k_Tokens_scan J K n) K 41 L S M := by rfl
set_option maxRecDepth 20000 in
theorem r_Tokens_scan_42 {s_Text_skipBlanks : aS} {s_Text_sortAt : aS} {s_Text_tokenEnd : aS} {J : aJ} {K : aR} {n : Nat} {L : aL} {S : List Value} {M : aM} : am_run (c_Tokens_scan s_Text_skipBlanks s_Text_sortAt s_Text_tokenEnd) k_Tokens_scan J K (n + 1) 42 L S M = ai_getf 3 0 45 (am_run (c_Tokens_scan s_Text_skipBlanks s_Text_sortAt s_Text_tokenEnd) k_Tokens_scan J K n) K 42 L S M := by rfl
set_option maxRecDepth 20000 in
theorem r_Tokens_scan_45 {s_Text_skipBlanks : aS} {s_Text_sortAt : aS} {s_Text_tokenEnd : aS} {J : aJ} {K : aR} {n : Nat} {L : aL} {S : List Value} {M : aM} : am_run (c_Tokens_scan s_Text_skipBlanks s_Text_sortAt s_Text_tokenEnd) k_Tokens_scan J K (n + 1) 45 L S M = ai_iload 3 46 (am_run (c_Tokens_scan s_Text_skipBlanks s_Text_sortAt s_Text_tokenEnd) k_Tokens_scan J K n) K 45 L S M := by rfl
set_option maxRecDepth 20000 in
theorem r_Tokens_scan_46 {s_Text_skipBlanks : aS} {s_Text_sortAt : aS} {s_Text_tokenEnd : aS} {J : aJ} {K : aR} {n : Nat} {L : aL} {S : List Value} {M : aM} : am_run (c_Tokens_scan s_Text_skipBlanks s_Text_sortAt s_Text_tokenEnd) k_Tokens_scan J K (n + 1) 46 L S M = ai_iload 6 48 (am_run (c_Tokens_scan s_Text_skipBlanks s_Text_sortAt s_Text_tokenEnd) k_Tokens_scan J K n) K 46 L S M := by rfl
set_option maxRecDepth 20000 in
theorem r_Tokens_scan_48 {s_Text_skipBlanks : aS} {s_Text_sortAt : aS} {s_Text_tokenEnd : aS} {J : aJ} {K : aR} {n : Nat} {L : aL} {S : List Value} {M : aM} : am_run (c_Tokens_scan s_Text_skipBlanks s_Text_sortAt s_Text_tokenEnd) k_Tokens_scan J K (n + 1) 48 L S M = ai_const (-1) 49 (am_run (c_Tokens_scan s_Text_skipBlanks s_Text_sortAt s_Text_tokenEnd) k_Tokens_scan J K n) K 48 L S M := by rfl
set_option maxRecDepth 20000 in
theorem r_Tokens_scan_49 {s_Text_skipBlanks : aS} {s_Text_sortAt : aS} {s_Text_tokenEnd : aS} {J : aJ} {K : aR} {n : Nat} {L : aL} {S : List Value} {M : aM} : am_run (c_Tokens_scan s_Text_skipBlanks s_Text_sortAt s_Text_tokenEnd) k_Tokens_scan J K (n + 1) 49 L S M = ai_cmpne 57 52 (am_run (c_Tokens_scan s_Text_skipBlanks s_Text_sortAt s_Text_tokenEnd) k_Tokens_scan J K n) K 49 L S M := by rfl
set_option maxRecDepth 20000 in
theorem r_Tokens_scan_52 {s_Text_skipBlanks : aS} {s_Text_sortAt : aS} {s_Text_tokenEnd : aS} {J : aJ} {K : aR} {n : Nat} {L : aL} {S : List Value} {M : aM} : am_run (c_Tokens_scan s_Text_skipBlanks s_Text_sortAt s_Text_tokenEnd) k_Tokens_scan J K (n + 1) 52 L S M = ai_const 11 54 (am_run (c_Tokens_scan s_Text_skipBlanks s_Text_sortAt s_Text_tokenEnd) k_Tokens_scan J K n) K 52 L S M := by rfl
set_option maxRecDepth 20000 in
theorem r_Tokens_scan_54 {s_Text_skipBlanks : aS} {s_Text_sortAt : aS} {s_Text_tokenEnd : aS} {J : aJ} {K : aR} {n : Nat} {L : aL} {S : List Value} {M : aM} : am_run (c_Tokens_scan s_Text_skipBlanks s_Text_sortAt s_Text_tokenEnd) k_Tokens_scan J K (n + 1) 54 L S M = ai_goto 59 (am_run (c_Tokens_scan s_Text_skipBlanks s_Text_sortAt s_Text_tokenEnd) k_Tokens_scan J K n) K 54 L S M := by rfl
set_option maxRecDepth 20000 in
theorem r_Tokens_scan_57 {s_Text_skipBlanks : aS} {s_Text_sortAt : aS} {s_Text_tokenEnd : aS} {J : aJ} {K : aR} {n : Nat} {L : aL} {S : List Value} {M : aM} : am_run (c_Tokens_scan s_Text_skipBlanks s_Text_sortAt s_Text_tokenEnd) k_Tokens_scan J K (n + 1) 57 L S M = ai_iload 5 59 (am_run (c_Tokens_scan s_Text_skipBlanks s_Text_sortAt s_Text_tokenEnd) k_Tokens_scan J K n) K 57 L S M := by rfl
set_option maxRecDepth 20000 in
theorem r_Tokens_scan_59 {s_Text_skipBlanks : aS} {s_Text_sortAt : aS} {s_Text_tokenEnd : aS} {J : aJ} {K : aR} {n : Nat} {L : aL} {S : List Value} {M : aM} : am_run (c_Tokens_scan s_Text_skipBlanks s_Text_sortAt s_Text_tokenEnd) k_Tokens_scan J K (n + 1) 59 L S M = ai_iast 60 (am_run (c_Tokens_scan s_Text_skipBlanks s_Text_sortAt s_Text_tokenEnd) k_Tokens_scan J K n) K 59 L S M := by rfl
set_option maxRecDepth 20000 in
theorem r_Tokens_scan_60 {s_Text_skipBlanks : aS} {s_Text_sortAt : aS} {s_Text_tokenEnd : aS} {J : aJ} {K : aR} {n : Nat} {L : aL} {S : List Value} {M : aM} : am_run (c_Tokens_scan s_Text_skipBlanks s_Text_sortAt s_Text_tokenEnd) k_Tokens_scan J K (n + 1) 60 L S M = ai_aload 0 61 (am_run (c_Tokens_scan s_Text_skipBlanks s_Text_sortAt s_Text_tokenEnd) k_Tokens_scan J K n) K 60 L S M := by rfl
set_option maxRecDepth 20000 in
theorem r_Tokens_scan_61 {s_Text_skipBlanks : aS} {s_Text_sortAt : aS} {s_Text_tokenEnd : aS} {J : aJ} {K : aR} {n : Nat} {L : aL} {S : List Value} {M : aM} : am_run (c_Tokens_scan s_Text_skipBlanks s_Text_sortAt s_Text_tokenEnd) k_Tokens_scan J K (n + 1) 61 L S M = ai_getf 3 1 64 (am_run (c_Tokens_scan s_Text_skipBlanks s_Text_sortAt s_Text_tokenEnd) k_Tokens_scan J K n) K 61 L S M := by rfl
set_option maxRecDepth 20000 in
theorem r_Tokens_scan_64 {s_Text_skipBlanks : aS} {s_Text_sortAt : aS} {s_Text_tokenEnd : aS} {J : aJ} {K : aR} {n : Nat} {L : aL} {S : List Value} {M : aM} : am_run (c_Tokens_scan s_Text_skipBlanks s_Text_sortAt s_Text_tokenEnd) k_Tokens_scan J K (n + 1) 64 L S M = ai_iload 3 65 (am_run (c_Tokens_scan s_Text_skipBlanks s_Text_sortAt s_Text_tokenEnd) k_Tokens_scan J K n) K 64 L S M := by rfl
set_option maxRecDepth 20000 in
theorem r_Tokens_scan_65 {s_Text_skipBlanks : aS} {s_Text_sortAt : aS} {s_Text_tokenEnd : aS} {J : aJ} {K : aR} {n : Nat} {L : aL} {S : List Value} {M : aM} : am_run (c_Tokens_scan s_Text_skipBlanks s_Text_sortAt s_Text_tokenEnd) k_Tokens_scan J K (n + 1) 65 L S M = ai_iload 4 67 (am_run (c_Tokens_scan s_Text_skipBlanks s_Text_sortAt s_Text_tokenEnd) k_Tokens_scan J K n) K 65 L S M := by rfl
set_option maxRecDepth 20000 in
theorem r_Tokens_scan_67 {s_Text_skipBlanks : aS} {s_Text_sortAt : aS} {s_Text_tokenEnd : aS} {J : aJ} {K : aR} {n : Nat} {L : aL} {S : List Value} {M : aM} : am_run (c_Tokens_scan s_Text_skipBlanks s_Text_sortAt s_Text_tokenEnd) k_Tokens_scan J K (n + 1) 67 L S M = ai_iast 68 (am_run (c_Tokens_scan s_Text_skipBlanks s_Text_sortAt s_Text_tokenEnd) k_Tokens_scan J K n) K 67 L S M := by rfl
set_option maxRecDepth 20000 in
theorem r_Tokens_scan_68 {s_Text_skipBlanks : aS} {s_Text_sortAt : aS} {s_Text_tokenEnd : aS} {J : aJ} {K : aR} {n : Nat} {L : aL} {S : List Value} {M : aM} : am_run (c_Tokens_scan s_Text_skipBlanks s_Text_sortAt s_Text_tokenEnd) k_Tokens_scan J K (n + 1) 68 L S M = ai_aload 0 69 (am_run (c_Tokens_scan s_Text_skipBlanks s_Text_sortAt s_Text_tokenEnd) k_Tokens_scan J K n) K 68 L S M := by rfl
set_option maxRecDepth 20000 in
theorem r_Tokens_scan_69 {s_Text_skipBlanks : aS} {s_Text_sortAt : aS} {s_Text_tokenEnd : aS} {J : aJ} {K : aR} {n : Nat} {L : aL} {S : List Value} {M : aM} : am_run (c_Tokens_scan s_Text_skipBlanks s_Text_sortAt s_Text_tokenEnd) k_Tokens_scan J K (n + 1) 69 L S M = ai_getf 3 2 72 (am_run (c_Tokens_scan s_Text_skipBlanks s_Text_sortAt s_Text_tokenEnd) k_Tokens_scan J K n) K 69 L S M := by rfl
set_option maxRecDepth 20000 in
theorem r_Tokens_scan_72 {s_Text_skipBlanks : aS} {s_Text_sortAt : aS} {s_Text_tokenEnd : aS} {J : aJ} {K : aR} {n : Nat} {L : aL} {S : List Value} {M : aM} : am_run (c_Tokens_scan s_Text_skipBlanks s_Text_sortAt s_Text_tokenEnd) k_Tokens_scan J K (n + 1) 72 L S M = ai_iload 3 73 (am_run (c_Tokens_scan s_Text_skipBlanks s_Text_sortAt s_Text_tokenEnd) k_Tokens_scan J K n) K 72 L S M := by rfl
set_option maxRecDepth 20000 in
theorem r_Tokens_scan_73 {s_Text_skipBlanks : aS} {s_Text_sortAt : aS} {s_Text_tokenEnd : aS} {J : aJ} {K : aR} {n : Nat} {L : aL} {S : List Value} {M : aM} : am_run (c_Tokens_scan s_Text_skipBlanks s_Text_sortAt s_Text_tokenEnd) k_Tokens_scan J K (n + 1) 73 L S M = ai_iload 6 75 (am_run (c_Tokens_scan s_Text_skipBlanks s_Text_sortAt s_Text_tokenEnd) k_Tokens_scan J K n) K 73 L S M := by rfl
set_option maxRecDepth 20000 in
theorem r_Tokens_scan_75 {s_Text_skipBlanks : aS} {s_Text_sortAt : aS} {s_Text_tokenEnd : aS} {J : aJ} {K : aR} {n : Nat} {L : aL} {S : List Value} {M : aM} : am_run (c_Tokens_scan s_Text_skipBlanks s_Text_sortAt s_Text_tokenEnd) k_Tokens_scan J K (n + 1) 75 L S M = ai_iast 76 (am_run (c_Tokens_scan s_Text_skipBlanks s_Text_sortAt s_Text_tokenEnd) k_Tokens_scan J K n) K 75 L S M := by rfl
set_option maxRecDepth 20000 in
theorem r_Tokens_scan_76 {s_Text_skipBlanks : aS} {s_Text_sortAt : aS} {s_Text_tokenEnd : aS} {J : aJ} {K : aR} {n : Nat} {L : aL} {S : List Value} {M : aM} : am_run (c_Tokens_scan s_Text_skipBlanks s_Text_sortAt s_Text_tokenEnd) k_Tokens_scan J K (n + 1) 76 L S M = ai_aload 0 77 (am_run (c_Tokens_scan s_Text_skipBlanks s_Text_sortAt s_Text_tokenEnd) k_Tokens_scan J K n) K 76 L S M := by rfl
set_option maxRecDepth 20000 in
theorem r_Tokens_scan_77 {s_Text_skipBlanks : aS} {s_Text_sortAt : aS} {s_Text_tokenEnd : aS} {J : aJ} {K : aR} {n : Nat} {L : aL} {S : List Value} {M : aM} : am_run (c_Tokens_scan s_Text_skipBlanks s_Text_sortAt s_Text_tokenEnd) k_Tokens_scan J K (n + 1) 77 L S M = ai_iload 3 78 (am_run (c_Tokens_scan s_Text_skipBlanks s_Text_sortAt s_Text_tokenEnd) k_Tokens_scan J K n) K 77 L S M := by rfl
set_option maxRecDepth 20000 in
theorem r_Tokens_scan_78 {s_Text_skipBlanks : aS} {s_Text_sortAt : aS} {s_Text_tokenEnd : aS} {J : aJ} {K : aR} {n : Nat} {L : aL} {S : List Value} {M : aM} : am_run (c_Tokens_scan s_Text_skipBlanks s_Text_sortAt s_Text_tokenEnd) k_Tokens_scan J K (n + 1) 78 L S M = ai_const 1 79 (am_run (c_Tokens_scan s_Text_skipBlanks s_Text_sortAt s_Text_tokenEnd) k_Tokens_scan J K n) K 78 L S M := by rfl
set_option maxRecDepth 20000 in
theorem r_Tokens_scan_79 {s_Text_skipBlanks : aS} {s_Text_sortAt : aS} {s_Text_tokenEnd : aS} {J : aJ} {K : aR} {n : Nat} {L : aL} {S : List Value} {M : aM} : am_run (c_Tokens_scan s_Text_skipBlanks s_Text_sortAt s_Text_tokenEnd) k_Tokens_scan J K (n + 1) 79 L S M = ai_iadd 80 (am_run (c_Tokens_scan s_Text_skipBlanks s_Text_sortAt s_Text_tokenEnd) k_Tokens_scan J K n) K 79 L S M := by rfl
set_option maxRecDepth 20000 in
theorem r_Tokens_scan_80 {s_Text_skipBlanks : aS} {s_Text_sortAt : aS} {s_Text_tokenEnd : aS} {J : aJ} {K : aR} {n : Nat} {L : aL} {S : List Value} {M : aM} : am_run (c_Tokens_scan s_Text_skipBlanks s_Text_sortAt s_Text_tokenEnd) k_Tokens_scan J K (n + 1) 80 L S M = ai_putf 3 3 83 (am_run (c_Tokens_scan s_Text_skipBlanks s_Text_sortAt s_Text_tokenEnd) k_Tokens_scan J K n) K 80 L S M := by rfl
set_option maxRecDepth 20000 in
theorem r_Tokens_scan_83 {s_Text_skipBlanks : aS} {s_Text_sortAt : aS} {s_Text_tokenEnd : aS} {J : aJ} {K : aR} {n : Nat} {L : aL} {S : List Value} {M : aM} : am_run (c_Tokens_scan s_Text_skipBlanks s_Text_sortAt s_Text_tokenEnd) k_Tokens_scan J K (n + 1) 83 L S M = ai_iload 6 85 (am_run (c_Tokens_scan s_Text_skipBlanks s_Text_sortAt s_Text_tokenEnd) k_Tokens_scan J K n) K 83 L S M := by rfl
set_option maxRecDepth 20000 in
theorem r_Tokens_scan_85 {s_Text_skipBlanks : aS} {s_Text_sortAt : aS} {s_Text_tokenEnd : aS} {J : aJ} {K : aR} {n : Nat} {L : aL} {S : List Value} {M : aM} : am_run (c_Tokens_scan s_Text_skipBlanks s_Text_sortAt s_Text_tokenEnd) k_Tokens_scan J K (n + 1) 85 L S M = ai_const (-1) 86 (am_run (c_Tokens_scan s_Text_skipBlanks s_Text_sortAt s_Text_tokenEnd) k_Tokens_scan J K n) K 85 L S M := by rfl
set_option maxRecDepth 20000 in
theorem r_Tokens_scan_86 {s_Text_skipBlanks : aS} {s_Text_sortAt : aS} {s_Text_tokenEnd : aS} {J : aJ} {K : aR} {n : Nat} {L : aL} {S : List Value} {M : aM} : am_run (c_Tokens_scan s_Text_skipBlanks s_Text_sortAt s_Text_tokenEnd) k_Tokens_scan J K (n + 1) 86 L S M = ai_cmpeq 96 89 (am_run (c_Tokens_scan s_Text_skipBlanks s_Text_sortAt s_Text_tokenEnd) k_Tokens_scan J K n) K 86 L S M := by rfl
set_option maxRecDepth 20000 in
theorem r_Tokens_scan_89 {s_Text_skipBlanks : aS} {s_Text_sortAt : aS} {s_Text_tokenEnd : aS} {J : aJ} {K : aR} {n : Nat} {L : aL} {S : List Value} {M : aM} : am_run (c_Tokens_scan s_Text_skipBlanks s_Text_sortAt s_Text_tokenEnd) k_Tokens_scan J K (n + 1) 89 L S M = ai_iload 5 91 (am_run (c_Tokens_scan s_Text_skipBlanks s_Text_sortAt s_Text_tokenEnd) k_Tokens_scan J K n) K 89 L S M := by rfl
set_option maxRecDepth 20000 in
theorem r_Tokens_scan_91 {s_Text_skipBlanks : aS} {s_Text_sortAt : aS} {s_Text_tokenEnd : aS} {J : aJ} {K : aR} {n : Nat} {L : aL} {S : List Value} {M : aM} : am_run (c_Tokens_scan s_Text_skipBlanks s_Text_sortAt s_Text_tokenEnd) k_Tokens_scan J K (n + 1) 91 L S M = ai_const 10 93 (am_run (c_Tokens_scan s_Text_skipBlanks s_Text_sortAt s_Text_tokenEnd) k_Tokens_scan J K n) K 91 L S M := by rfl
set_option maxRecDepth 20000 in
theorem r_Tokens_scan_93 {s_Text_skipBlanks : aS} {s_Text_sortAt : aS} {s_Text_tokenEnd : aS} {J : aJ} {K : aR} {n : Nat} {L : aL} {S : List Value} {M : aM} : am_run (c_Tokens_scan s_Text_skipBlanks s_Text_sortAt s_Text_tokenEnd) k_Tokens_scan J K (n + 1) 93 L S M = ai_cmpne 97 96 (am_run (c_Tokens_scan s_Text_skipBlanks s_Text_sortAt s_Text_tokenEnd) k_Tokens_scan J K n) K 93 L S M := by rfl
set_option maxRecDepth 20000 in
theorem r_Tokens_scan_96 {s_Text_skipBlanks : aS} {s_Text_sortAt : aS} {s_Text_tokenEnd : aS} {J : aJ} {K : aR} {n : Nat} {L : aL} {S : List Value} {M : aM} : am_run (c_Tokens_scan s_Text_skipBlanks s_Text_sortAt s_Text_tokenEnd) k_Tokens_scan J K (n + 1) 96 L S M = ai_vret (am_run (c_Tokens_scan s_Text_skipBlanks s_Text_sortAt s_Text_tokenEnd) k_Tokens_scan J K n) K 96 L S M := by rfl
set_option maxRecDepth 20000 in
theorem r_Tokens_scan_97 {s_Text_skipBlanks : aS} {s_Text_sortAt : aS} {s_Text_tokenEnd : aS} {J : aJ} {K : aR} {n : Nat} {L : aL} {S : List Value} {M : aM} : am_run (c_Tokens_scan s_Text_skipBlanks s_Text_sortAt s_Text_tokenEnd) k_Tokens_scan J K (n + 1) 97 L S M = ai_iload 6 99 (am_run (c_Tokens_scan s_Text_skipBlanks s_Text_sortAt s_Text_tokenEnd) k_Tokens_scan J K n) K 97 L S M := by rfl
set_option maxRecDepth 20000 in
theorem r_Tokens_scan_99 {s_Text_skipBlanks : aS} {s_Text_sortAt : aS} {s_Text_tokenEnd : aS} {J : aJ} {K : aR} {n : Nat} {L : aL} {S : List Value} {M : aM} : am_run (c_Tokens_scan s_Text_skipBlanks s_Text_sortAt s_Text_tokenEnd) k_Tokens_scan J K (n + 1) 99 L S M = ai_istore 2 100 (am_run (c_Tokens_scan s_Text_skipBlanks s_Text_sortAt s_Text_tokenEnd) k_Tokens_scan J K n) K 99 L S M := by rfl
set_option maxRecDepth 20000 in
theorem r_Tokens_scan_100 {s_Text_skipBlanks : aS} {s_Text_sortAt : aS} {s_Text_tokenEnd : aS} {J : aJ} {K : aR} {n : Nat} {L : aL} {S : List Value} {M : aM} : am_run (c_Tokens_scan s_Text_skipBlanks s_Text_sortAt s_Text_tokenEnd) k_Tokens_scan J K (n + 1) 100 L S M = ai_iinc 3 1 103 (am_run (c_Tokens_scan s_Text_skipBlanks s_Text_sortAt s_Text_tokenEnd) k_Tokens_scan J K n) K 100 L S M := by rfl
set_option maxRecDepth 20000 in
theorem r_Tokens_scan_103 {s_Text_skipBlanks : aS} {s_Text_sortAt : aS} {s_Text_tokenEnd : aS} {J : aJ} {K : aR} {n : Nat} {L : aL} {S : List Value} {M : aM} : am_run (c_Tokens_scan s_Text_skipBlanks s_Text_sortAt s_Text_tokenEnd) k_Tokens_scan J K (n + 1) 103 L S M = ai_goto 9 (am_run (c_Tokens_scan s_Text_skipBlanks s_Text_sortAt s_Text_tokenEnd) k_Tokens_scan J K n) K 103 L S M := by rfl
set_option maxRecDepth 20000 in
theorem r_Tokens_scan_106 {s_Text_skipBlanks : aS} {s_Text_sortAt : aS} {s_Text_tokenEnd : aS} {J : aJ} {K : aR} {n : Nat} {L : aL} {S : List Value} {M : aM} : am_run (c_Tokens_scan s_Text_skipBlanks s_Text_sortAt s_Text_tokenEnd) k_Tokens_scan J K (n + 1) 106 L S M = ai_vret (am_run (c_Tokens_scan s_Text_skipBlanks s_Text_sortAt s_Text_tokenEnd) k_Tokens_scan J K n) K 106 L S M := by rfl
def c_Tokens_sortOf : List (Nat × aI) := [
  (0, ai_iload 1 1),
  (1, ai_iflt 30 4),
  (4, ai_iload 1 5),
  (5, ai_aload 0 6),
  (6, ai_getf 3 3 9),
  (9, ai_cmpge 30 12),
  (12, ai_iload 1 13),
  (13, ai_aload 0 14),
  (14, ai_getf 3 0 17),
  (17, ai_alen 18),
  (18, ai_cmpge 30 21),
  (21, ai_aload 0 22),
  (22, ai_getf 3 0 25),
  (25, ai_iload 1 26),
  (26, ai_iald 27),
  (27, ai_goto 32),
  (30, ai_const 11 32),
  (32, ai_iret)]
set_option maxRecDepth 100000 in
set_option maxHeartbeats 4000000 in
theorem tb_Tokens_sortOf {G : aG} {d : Nat} : am_tab G Y_Tokens_sortOf d (c_Tokens_sortOf) := by
  intro K p e s m args below meth c C
  exact ⟨as_iload_n C (pc := 0) (q := 1) (by decide +kernel) rfl rfl,
    as_iflt C (pc := 1) (off := 29) (by decide +kernel) (by decide) rfl,
    as_iload_n C (pc := 4) (q := 1) (by decide +kernel) rfl rfl,
    as_aload_n C (pc := 5) (q := 0) (by decide +kernel) rfl rfl,
    as_getf C (pc := 6) (T := T_Tokens) (N := 4) rfl in_Tokens (by decide) rfl w_166 (by decide +kernel) rfl,
    as_cmpge C (pc := 9) (off := 21) (by decide +kernel) (by decide) rfl,
    as_iload_n C (pc := 12) (q := 1) (by decide +kernel) rfl rfl,
    as_aload_n C (pc := 13) (q := 0) (by decide +kernel) rfl rfl,
    as_getf C (pc := 14) (T := T_Tokens) (N := 4) rfl in_Tokens (by decide) rfl w_163 (by decide +kernel) rfl,
    as_alen C (pc := 17) (by decide +kernel) rfl,
    as_cmpge C (pc := 18) (off := 12) (by decide +kernel) (by decide) rfl,
    as_aload_n C (pc := 21) (q := 0) (by decide +kernel) rfl rfl,
    as_getf C (pc := 22) (T := T_Tokens) (N := 4) rfl in_Tokens (by decide) rfl w_163 (by decide +kernel) rfl,
    as_iload_n C (pc := 25) (q := 1) (by decide +kernel) rfl rfl,
    as_iald C (pc := 26) (by decide +kernel) rfl,
    as_goto C (pc := 27) (off := 5) (by decide +kernel) (by decide),
    as_bipush C (pc := 30) (n := 11) (by decide +kernel) (by decide +kernel) rfl,
    as_iret C (pc := 32) rfl (by decide +kernel), trivial⟩
abbrev k_Tokens_sortOf : List Nat := []
theorem r_Tokens_sortOf_0 {J : aJ} {K : aR} {n : Nat} {L : aL} {S : List Value} {M : aM} : am_run (c_Tokens_sortOf) k_Tokens_sortOf J K (n + 1) 0 L S M = ai_iload 1 1 (am_run (c_Tokens_sortOf) k_Tokens_sortOf J K n) K 0 L S M := by rfl
theorem r_Tokens_sortOf_1 {J : aJ} {K : aR} {n : Nat} {L : aL} {S : List Value} {M : aM} : am_run (c_Tokens_sortOf) k_Tokens_sortOf J K (n + 1) 1 L S M = ai_iflt 30 4 (am_run (c_Tokens_sortOf) k_Tokens_sortOf J K n) K 1 L S M := by rfl
theorem r_Tokens_sortOf_4 {J : aJ} {K : aR} {n : Nat} {L : aL} {S : List Value} {M : aM} : am_run (c_Tokens_sortOf) k_Tokens_sortOf J K (n + 1) 4 L S M = ai_iload 1 5 (am_run (c_Tokens_sortOf) k_Tokens_sortOf J K n) K 4 L S M := by rfl
theorem r_Tokens_sortOf_5 {J : aJ} {K : aR} {n : Nat} {L : aL} {S : List Value} {M : aM} : am_run (c_Tokens_sortOf) k_Tokens_sortOf J K (n + 1) 5 L S M = ai_aload 0 6 (am_run (c_Tokens_sortOf) k_Tokens_sortOf J K n) K 5 L S M := by rfl
theorem r_Tokens_sortOf_6 {J : aJ} {K : aR} {n : Nat} {L : aL} {S : List Value} {M : aM} : am_run (c_Tokens_sortOf) k_Tokens_sortOf J K (n + 1) 6 L S M = ai_getf 3 3 9 (am_run (c_Tokens_sortOf) k_Tokens_sortOf J K n) K 6 L S M := by rfl
theorem r_Tokens_sortOf_9 {J : aJ} {K : aR} {n : Nat} {L : aL} {S : List Value} {M : aM} : am_run (c_Tokens_sortOf) k_Tokens_sortOf J K (n + 1) 9 L S M = ai_cmpge 30 12 (am_run (c_Tokens_sortOf) k_Tokens_sortOf J K n) K 9 L S M := by rfl
theorem r_Tokens_sortOf_12 {J : aJ} {K : aR} {n : Nat} {L : aL} {S : List Value} {M : aM} : am_run (c_Tokens_sortOf) k_Tokens_sortOf J K (n + 1) 12 L S M = ai_iload 1 13 (am_run (c_Tokens_sortOf) k_Tokens_sortOf J K n) K 12 L S M := by rfl
theorem r_Tokens_sortOf_13 {J : aJ} {K : aR} {n : Nat} {L : aL} {S : List Value} {M : aM} : am_run (c_Tokens_sortOf) k_Tokens_sortOf J K (n + 1) 13 L S M = ai_aload 0 14 (am_run (c_Tokens_sortOf) k_Tokens_sortOf J K n) K 13 L S M := by rfl
theorem r_Tokens_sortOf_14 {J : aJ} {K : aR} {n : Nat} {L : aL} {S : List Value} {M : aM} : am_run (c_Tokens_sortOf) k_Tokens_sortOf J K (n + 1) 14 L S M = ai_getf 3 0 17 (am_run (c_Tokens_sortOf) k_Tokens_sortOf J K n) K 14 L S M := by rfl
theorem r_Tokens_sortOf_17 {J : aJ} {K : aR} {n : Nat} {L : aL} {S : List Value} {M : aM} : am_run (c_Tokens_sortOf) k_Tokens_sortOf J K (n + 1) 17 L S M = ai_alen 18 (am_run (c_Tokens_sortOf) k_Tokens_sortOf J K n) K 17 L S M := by rfl
theorem r_Tokens_sortOf_18 {J : aJ} {K : aR} {n : Nat} {L : aL} {S : List Value} {M : aM} : am_run (c_Tokens_sortOf) k_Tokens_sortOf J K (n + 1) 18 L S M = ai_cmpge 30 21 (am_run (c_Tokens_sortOf) k_Tokens_sortOf J K n) K 18 L S M := by rfl
theorem r_Tokens_sortOf_21 {J : aJ} {K : aR} {n : Nat} {L : aL} {S : List Value} {M : aM} : am_run (c_Tokens_sortOf) k_Tokens_sortOf J K (n + 1) 21 L S M = ai_aload 0 22 (am_run (c_Tokens_sortOf) k_Tokens_sortOf J K n) K 21 L S M := by rfl
theorem r_Tokens_sortOf_22 {J : aJ} {K : aR} {n : Nat} {L : aL} {S : List Value} {M : aM} : am_run (c_Tokens_sortOf) k_Tokens_sortOf J K (n + 1) 22 L S M = ai_getf 3 0 25 (am_run (c_Tokens_sortOf) k_Tokens_sortOf J K n) K 22 L S M := by rfl
theorem r_Tokens_sortOf_25 {J : aJ} {K : aR} {n : Nat} {L : aL} {S : List Value} {M : aM} : am_run (c_Tokens_sortOf) k_Tokens_sortOf J K (n + 1) 25 L S M = ai_iload 1 26 (am_run (c_Tokens_sortOf) k_Tokens_sortOf J K n) K 25 L S M := by rfl
theorem r_Tokens_sortOf_26 {J : aJ} {K : aR} {n : Nat} {L : aL} {S : List Value} {M : aM} : am_run (c_Tokens_sortOf) k_Tokens_sortOf J K (n + 1) 26 L S M = ai_iald 27 (am_run (c_Tokens_sortOf) k_Tokens_sortOf J K n) K 26 L S M := by rfl
theorem r_Tokens_sortOf_27 {J : aJ} {K : aR} {n : Nat} {L : aL} {S : List Value} {M : aM} : am_run (c_Tokens_sortOf) k_Tokens_sortOf J K (n + 1) 27 L S M = ai_goto 32 (am_run (c_Tokens_sortOf) k_Tokens_sortOf J K n) K 27 L S M := by rfl
theorem r_Tokens_sortOf_30 {J : aJ} {K : aR} {n : Nat} {L : aL} {S : List Value} {M : aM} : am_run (c_Tokens_sortOf) k_Tokens_sortOf J K (n + 1) 30 L S M = ai_const 11 32 (am_run (c_Tokens_sortOf) k_Tokens_sortOf J K n) K 30 L S M := by rfl
theorem r_Tokens_sortOf_32 {J : aJ} {K : aR} {n : Nat} {L : aL} {S : List Value} {M : aM} : am_run (c_Tokens_sortOf) k_Tokens_sortOf J K (n + 1) 32 L S M = ai_iret (am_run (c_Tokens_sortOf) k_Tokens_sortOf J K n) K 32 L S M := by rfl
def c_Tokens_startOf : List (Nat × aI) := [
  (0, ai_iload 1 1),
  (1, ai_iflt 30 4),
  (4, ai_iload 1 5),
  (5, ai_aload 0 6),
  (6, ai_getf 3 3 9),
  (9, ai_cmpge 30 12),
  (12, ai_iload 1 13),
  (13, ai_aload 0 14),
  (14, ai_getf 3 1 17),
  (17, ai_alen 18),
  (18, ai_cmpge 30 21),
  (21, ai_aload 0 22),
  (22, ai_getf 3 1 25),
  (25, ai_iload 1 26),
  (26, ai_iald 27),
  (27, ai_goto 31),
  (30, ai_const (-1) 31),
  (31, ai_iret)]
set_option maxRecDepth 100000 in
set_option maxHeartbeats 4000000 in
theorem tb_Tokens_startOf {G : aG} {d : Nat} : am_tab G Y_Tokens_startOf d (c_Tokens_startOf) := by
  intro K p e s m args below meth c C
  exact ⟨as_iload_n C (pc := 0) (q := 1) (by decide +kernel) rfl rfl,
    as_iflt C (pc := 1) (off := 29) (by decide +kernel) (by decide) rfl,
    as_iload_n C (pc := 4) (q := 1) (by decide +kernel) rfl rfl,
    as_aload_n C (pc := 5) (q := 0) (by decide +kernel) rfl rfl,
    as_getf C (pc := 6) (T := T_Tokens) (N := 4) rfl in_Tokens (by decide) rfl w_166 (by decide +kernel) rfl,
    as_cmpge C (pc := 9) (off := 21) (by decide +kernel) (by decide) rfl,
    as_iload_n C (pc := 12) (q := 1) (by decide +kernel) rfl rfl,
    as_aload_n C (pc := 13) (q := 0) (by decide +kernel) rfl rfl,
    as_getf C (pc := 14) (T := T_Tokens) (N := 4) rfl in_Tokens (by decide) rfl w_164 (by decide +kernel) rfl,
    as_alen C (pc := 17) (by decide +kernel) rfl,
    as_cmpge C (pc := 18) (off := 12) (by decide +kernel) (by decide) rfl,
    as_aload_n C (pc := 21) (q := 0) (by decide +kernel) rfl rfl,
    as_getf C (pc := 22) (T := T_Tokens) (N := 4) rfl in_Tokens (by decide) rfl w_164 (by decide +kernel) rfl,
    as_iload_n C (pc := 25) (q := 1) (by decide +kernel) rfl rfl,
    as_iald C (pc := 26) (by decide +kernel) rfl,
    as_goto C (pc := 27) (off := 4) (by decide +kernel) (by decide),
    as_iconst C (pc := 30) (n := (-1)) (by decide +kernel) (by decide +kernel) rfl,
    as_iret C (pc := 31) rfl (by decide +kernel), trivial⟩
abbrev k_Tokens_startOf : List Nat := []
theorem r_Tokens_startOf_0 {J : aJ} {K : aR} {n : Nat} {L : aL} {S : List Value} {M : aM} : am_run (c_Tokens_startOf) k_Tokens_startOf J K (n + 1) 0 L S M = ai_iload 1 1 (am_run (c_Tokens_startOf) k_Tokens_startOf J K n) K 0 L S M := by rfl
theorem r_Tokens_startOf_1 {J : aJ} {K : aR} {n : Nat} {L : aL} {S : List Value} {M : aM} : am_run (c_Tokens_startOf) k_Tokens_startOf J K (n + 1) 1 L S M = ai_iflt 30 4 (am_run (c_Tokens_startOf) k_Tokens_startOf J K n) K 1 L S M := by rfl
theorem r_Tokens_startOf_4 {J : aJ} {K : aR} {n : Nat} {L : aL} {S : List Value} {M : aM} : am_run (c_Tokens_startOf) k_Tokens_startOf J K (n + 1) 4 L S M = ai_iload 1 5 (am_run (c_Tokens_startOf) k_Tokens_startOf J K n) K 4 L S M := by rfl
theorem r_Tokens_startOf_5 {J : aJ} {K : aR} {n : Nat} {L : aL} {S : List Value} {M : aM} : am_run (c_Tokens_startOf) k_Tokens_startOf J K (n + 1) 5 L S M = ai_aload 0 6 (am_run (c_Tokens_startOf) k_Tokens_startOf J K n) K 5 L S M := by rfl
theorem r_Tokens_startOf_6 {J : aJ} {K : aR} {n : Nat} {L : aL} {S : List Value} {M : aM} : am_run (c_Tokens_startOf) k_Tokens_startOf J K (n + 1) 6 L S M = ai_getf 3 3 9 (am_run (c_Tokens_startOf) k_Tokens_startOf J K n) K 6 L S M := by rfl
theorem r_Tokens_startOf_9 {J : aJ} {K : aR} {n : Nat} {L : aL} {S : List Value} {M : aM} : am_run (c_Tokens_startOf) k_Tokens_startOf J K (n + 1) 9 L S M = ai_cmpge 30 12 (am_run (c_Tokens_startOf) k_Tokens_startOf J K n) K 9 L S M := by rfl
theorem r_Tokens_startOf_12 {J : aJ} {K : aR} {n : Nat} {L : aL} {S : List Value} {M : aM} : am_run (c_Tokens_startOf) k_Tokens_startOf J K (n + 1) 12 L S M = ai_iload 1 13 (am_run (c_Tokens_startOf) k_Tokens_startOf J K n) K 12 L S M := by rfl
theorem r_Tokens_startOf_13 {J : aJ} {K : aR} {n : Nat} {L : aL} {S : List Value} {M : aM} : am_run (c_Tokens_startOf) k_Tokens_startOf J K (n + 1) 13 L S M = ai_aload 0 14 (am_run (c_Tokens_startOf) k_Tokens_startOf J K n) K 13 L S M := by rfl
theorem r_Tokens_startOf_14 {J : aJ} {K : aR} {n : Nat} {L : aL} {S : List Value} {M : aM} : am_run (c_Tokens_startOf) k_Tokens_startOf J K (n + 1) 14 L S M = ai_getf 3 1 17 (am_run (c_Tokens_startOf) k_Tokens_startOf J K n) K 14 L S M := by rfl
theorem r_Tokens_startOf_17 {J : aJ} {K : aR} {n : Nat} {L : aL} {S : List Value} {M : aM} : am_run (c_Tokens_startOf) k_Tokens_startOf J K (n + 1) 17 L S M = ai_alen 18 (am_run (c_Tokens_startOf) k_Tokens_startOf J K n) K 17 L S M := by rfl
theorem r_Tokens_startOf_18 {J : aJ} {K : aR} {n : Nat} {L : aL} {S : List Value} {M : aM} : am_run (c_Tokens_startOf) k_Tokens_startOf J K (n + 1) 18 L S M = ai_cmpge 30 21 (am_run (c_Tokens_startOf) k_Tokens_startOf J K n) K 18 L S M := by rfl
theorem r_Tokens_startOf_21 {J : aJ} {K : aR} {n : Nat} {L : aL} {S : List Value} {M : aM} : am_run (c_Tokens_startOf) k_Tokens_startOf J K (n + 1) 21 L S M = ai_aload 0 22 (am_run (c_Tokens_startOf) k_Tokens_startOf J K n) K 21 L S M := by rfl
theorem r_Tokens_startOf_22 {J : aJ} {K : aR} {n : Nat} {L : aL} {S : List Value} {M : aM} : am_run (c_Tokens_startOf) k_Tokens_startOf J K (n + 1) 22 L S M = ai_getf 3 1 25 (am_run (c_Tokens_startOf) k_Tokens_startOf J K n) K 22 L S M := by rfl
theorem r_Tokens_startOf_25 {J : aJ} {K : aR} {n : Nat} {L : aL} {S : List Value} {M : aM} : am_run (c_Tokens_startOf) k_Tokens_startOf J K (n + 1) 25 L S M = ai_iload 1 26 (am_run (c_Tokens_startOf) k_Tokens_startOf J K n) K 25 L S M := by rfl
theorem r_Tokens_startOf_26 {J : aJ} {K : aR} {n : Nat} {L : aL} {S : List Value} {M : aM} : am_run (c_Tokens_startOf) k_Tokens_startOf J K (n + 1) 26 L S M = ai_iald 27 (am_run (c_Tokens_startOf) k_Tokens_startOf J K n) K 26 L S M := by rfl
theorem r_Tokens_startOf_27 {J : aJ} {K : aR} {n : Nat} {L : aL} {S : List Value} {M : aM} : am_run (c_Tokens_startOf) k_Tokens_startOf J K (n + 1) 27 L S M = ai_goto 31 (am_run (c_Tokens_startOf) k_Tokens_startOf J K n) K 27 L S M := by rfl
theorem r_Tokens_startOf_30 {J : aJ} {K : aR} {n : Nat} {L : aL} {S : List Value} {M : aM} : am_run (c_Tokens_startOf) k_Tokens_startOf J K (n + 1) 30 L S M = ai_const (-1) 31 (am_run (c_Tokens_startOf) k_Tokens_startOf J K n) K 30 L S M := by rfl
theorem r_Tokens_startOf_31 {J : aJ} {K : aR} {n : Nat} {L : aL} {S : List Value} {M : aM} : am_run (c_Tokens_startOf) k_Tokens_startOf J K (n + 1) 31 L S M = ai_iret (am_run (c_Tokens_startOf) k_Tokens_startOf J K n) K 31 L S M := by rfl
def c_Tokens_endOf : List (Nat × aI) := [
  (0, ai_iload 1 1),
  (1, ai_iflt 30 4),
  (4, ai_iload 1 5),
  (5, ai_aload 0 6),
  (6, ai_getf 3 3 9),
  (9, ai_cmpge 30 12),
  (12, ai_iload 1 13),
  (13, ai_aload 0 14),
  (14, ai_getf 3 2 17),
  (17, ai_alen 18),
  (18, ai_cmpge 30 21),
  (21, ai_aload 0 22),
  (22, ai_getf 3 2 25),
  (25, ai_iload 1 26),
  (26, ai_iald 27),
  (27, ai_goto 31),
  (30, ai_const (-1) 31),
  (31, ai_iret)]
set_option maxRecDepth 100000 in
set_option maxHeartbeats 4000000 in
theorem tb_Tokens_endOf {G : aG} {d : Nat} : am_tab G Y_Tokens_endOf d (c_Tokens_endOf) := by
  intro K p e s m args below meth c C
  exact ⟨as_iload_n C (pc := 0) (q := 1) (by decide +kernel) rfl rfl,
    as_iflt C (pc := 1) (off := 29) (by decide +kernel) (by decide) rfl,
    as_iload_n C (pc := 4) (q := 1) (by decide +kernel) rfl rfl,
    as_aload_n C (pc := 5) (q := 0) (by decide +kernel) rfl rfl,
    as_getf C (pc := 6) (T := T_Tokens) (N := 4) rfl in_Tokens (by decide) rfl w_166 (by decide +kernel) rfl,
    as_cmpge C (pc := 9) (off := 21) (by decide +kernel) (by decide) rfl,
    as_iload_n C (pc := 12) (q := 1) (by decide +kernel) rfl rfl,
    as_aload_n C (pc := 13) (q := 0) (by decide +kernel) rfl rfl,
    as_getf C (pc := 14) (T := T_Tokens) (N := 4) rfl in_Tokens (by decide) rfl w_165 (by decide +kernel) rfl,
    as_alen C (pc := 17) (by decide +kernel) rfl,
    as_cmpge C (pc := 18) (off := 12) (by decide +kernel) (by decide) rfl,
    as_aload_n C (pc := 21) (q := 0) (by decide +kernel) rfl rfl,
    as_getf C (pc := 22) (T := T_Tokens) (N := 4) rfl in_Tokens (by decide) rfl w_165 (by decide +kernel) rfl,
    as_iload_n C (pc := 25) (q := 1) (by decide +kernel) rfl rfl,
    as_iald C (pc := 26) (by decide +kernel) rfl,
    as_goto C (pc := 27) (off := 4) (by decide +kernel) (by decide),
    as_iconst C (pc := 30) (n := (-1)) (by decide +kernel) (by decide +kernel) rfl,
    as_iret C (pc := 31) rfl (by decide +kernel), trivial⟩
abbrev k_Tokens_endOf : List Nat := []
theorem r_Tokens_endOf_0 {J : aJ} {K : aR} {n : Nat} {L : aL} {S : List Value} {M : aM} : am_run (c_Tokens_endOf) k_Tokens_endOf J K (n + 1) 0 L S M = ai_iload 1 1 (am_run (c_Tokens_endOf) k_Tokens_endOf J K n) K 0 L S M := by rfl
theorem r_Tokens_endOf_1 {J : aJ} {K : aR} {n : Nat} {L : aL} {S : List Value} {M : aM} : am_run (c_Tokens_endOf) k_Tokens_endOf J K (n + 1) 1 L S M = ai_iflt 30 4 (am_run (c_Tokens_endOf) k_Tokens_endOf J K n) K 1 L S M := by rfl
theorem r_Tokens_endOf_4 {J : aJ} {K : aR} {n : Nat} {L : aL} {S : List Value} {M : aM} : am_run (c_Tokens_endOf) k_Tokens_endOf J K (n + 1) 4 L S M = ai_iload 1 5 (am_run (c_Tokens_endOf) k_Tokens_endOf J K n) K 4 L S M := by rfl
theorem r_Tokens_endOf_5 {J : aJ} {K : aR} {n : Nat} {L : aL} {S : List Value} {M : aM} : am_run (c_Tokens_endOf) k_Tokens_endOf J K (n + 1) 5 L S M = ai_aload 0 6 (am_run (c_Tokens_endOf) k_Tokens_endOf J K n) K 5 L S M := by rfl
theorem r_Tokens_endOf_6 {J : aJ} {K : aR} {n : Nat} {L : aL} {S : List Value} {M : aM} : am_run (c_Tokens_endOf) k_Tokens_endOf J K (n + 1) 6 L S M = ai_getf 3 3 9 (am_run (c_Tokens_endOf) k_Tokens_endOf J K n) K 6 L S M := by rfl
theorem r_Tokens_endOf_9 {J : aJ} {K : aR} {n : Nat} {L : aL} {S : List Value} {M : aM} : am_run (c_Tokens_endOf) k_Tokens_endOf J K (n + 1) 9 L S M = ai_cmpge 30 12 (am_run (c_Tokens_endOf) k_Tokens_endOf J K n) K 9 L S M := by rfl
theorem r_Tokens_endOf_12 {J : aJ} {K : aR} {n : Nat} {L : aL} {S : List Value} {M : aM} : am_run (c_Tokens_endOf) k_Tokens_endOf J K (n + 1) 12 L S M = ai_iload 1 13 (am_run (c_Tokens_endOf) k_Tokens_endOf J K n) K 12 L S M := by rfl
theorem r_Tokens_endOf_13 {J : aJ} {K : aR} {n : Nat} {L : aL} {S : List Value} {M : aM} : am_run (c_Tokens_endOf) k_Tokens_endOf J K (n + 1) 13 L S M = ai_aload 0 14 (am_run (c_Tokens_endOf) k_Tokens_endOf J K n) K 13 L S M := by rfl
theorem r_Tokens_endOf_14 {J : aJ} {K : aR} {n : Nat} {L : aL} {S : List Value} {M : aM} : am_run (c_Tokens_endOf) k_Tokens_endOf J K (n + 1) 14 L S M = ai_getf 3 2 17 (am_run (c_Tokens_endOf) k_Tokens_endOf J K n) K 14 L S M := by rfl
theorem r_Tokens_endOf_17 {J : aJ} {K : aR} {n : Nat} {L : aL} {S : List Value} {M : aM} : am_run (c_Tokens_endOf) k_Tokens_endOf J K (n + 1) 17 L S M = ai_alen 18 (am_run (c_Tokens_endOf) k_Tokens_endOf J K n) K 17 L S M := by rfl
theorem r_Tokens_endOf_18 {J : aJ} {K : aR} {n : Nat} {L : aL} {S : List Value} {M : aM} : am_run (c_Tokens_endOf) k_Tokens_endOf J K (n + 1) 18 L S M = ai_cmpge 30 21 (am_run (c_Tokens_endOf) k_Tokens_endOf J K n) K 18 L S M := by rfl
theorem r_Tokens_endOf_21 {J : aJ} {K : aR} {n : Nat} {L : aL} {S : List Value} {M : aM} : am_run (c_Tokens_endOf) k_Tokens_endOf J K (n + 1) 21 L S M = ai_aload 0 22 (am_run (c_Tokens_endOf) k_Tokens_endOf J K n) K 21 L S M := by rfl
theorem r_Tokens_endOf_22 {J : aJ} {K : aR} {n : Nat} {L : aL} {S : List Value} {M : aM} : am_run (c_Tokens_endOf) k_Tokens_endOf J K (n + 1) 22 L S M = ai_getf 3 2 25 (am_run (c_Tokens_endOf) k_Tokens_endOf J K n) K 22 L S M := by rfl
theorem r_Tokens_endOf_25 {J : aJ} {K : aR} {n : Nat} {L : aL} {S : List Value} {M : aM} : am_run (c_Tokens_endOf) k_Tokens_endOf J K (n + 1) 25 L S M = ai_iload 1 26 (am_run (c_Tokens_endOf) k_Tokens_endOf J K n) K 25 L S M := by rfl
theorem r_Tokens_endOf_26 {J : aJ} {K : aR} {n : Nat} {L : aL} {S : List Value} {M : aM} : am_run (c_Tokens_endOf) k_Tokens_endOf J K (n + 1) 26 L S M = ai_iald 27 (am_run (c_Tokens_endOf) k_Tokens_endOf J K n) K 26 L S M := by rfl
theorem r_Tokens_endOf_27 {J : aJ} {K : aR} {n : Nat} {L : aL} {S : List Value} {M : aM} : am_run (c_Tokens_endOf) k_Tokens_endOf J K (n + 1) 27 L S M = ai_goto 31 (am_run (c_Tokens_endOf) k_Tokens_endOf J K n) K 27 L S M := by rfl
theorem r_Tokens_endOf_30 {J : aJ} {K : aR} {n : Nat} {L : aL} {S : List Value} {M : aM} : am_run (c_Tokens_endOf) k_Tokens_endOf J K (n + 1) 30 L S M = ai_const (-1) 31 (am_run (c_Tokens_endOf) k_Tokens_endOf J K n) K 30 L S M := by rfl
theorem r_Tokens_endOf_31 {J : aJ} {K : aR} {n : Nat} {L : aL} {S : List Value} {M : aM} : am_run (c_Tokens_endOf) k_Tokens_endOf J K (n + 1) 31 L S M = ai_iret (am_run (c_Tokens_endOf) k_Tokens_endOf J K n) K 31 L S M := by rfl
