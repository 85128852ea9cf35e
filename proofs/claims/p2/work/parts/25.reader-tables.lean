def c_Reader_readText (s_Nodes_clear : aS) (s_Tokens_scan : aS) (s_Tokens_sortOf : aS) (s_Reader_readDatum : aS) (s_Nodes_addDatum : aS) : List (Nat × aI) := [
  (0, ai_aload 0 1),
  (1, ai_getf 1 1 4),
  (4, ai_callv1 0 s_Nodes_clear 7),
  (7, ai_aload 0 8),
  (8, ai_getf 1 2 11),
  (11, ai_aload 0 12),
  (12, ai_getf 1 0 15),
  (15, ai_callv2 3 s_Tokens_scan 18),
  (18, ai_aload 0 19),
  (19, ai_const (-1) 20),
  (20, ai_putf 1 4 23),
  (23, ai_aload 0 24),
  (24, ai_const 0 25),
  (25, ai_putf 1 3 28),
  (28, ai_const 0 29),
  (29, ai_istore 1 30),
  (30, ai_iload 1 31),
  (31, ai_const 400 34),
  (34, ai_cmpgt 96 37),
  (37, ai_aload 0 38),
  (38, ai_getf 1 2 41),
  (41, ai_aload 0 42),
  (42, ai_getf 1 3 45),
  (45, ai_callv2 3 s_Tokens_sortOf 48),
  (48, ai_const 10 50),
  (50, ai_cmpeq 96 53),
  (53, ai_aload 0 54),
  (54, ai_const 0 55),
  (55, ai_callv2 1 s_Reader_readDatum 58),
  (58, ai_istore 2 59),
  (59, ai_iload 2 60),
  (60, ai_const (-1) 61),
  (61, ai_cmpne 72 64),
  (64, ai_aload 0 65),
  (65, ai_getf 1 1 68),
  (68, ai_callv1 0 s_Nodes_clear 71),
  (71, ai_vret),
  (72, ai_aload 0 73),
  (73, ai_getf 1 1 76),
  (76, ai_iload 2 77),
  (77, ai_callv2 0 s_Nodes_addDatum 80),
  (80, ai_aload 0 81),
  (81, ai_dup 82),
  (82, ai_getf 1 3 85),
  (85, ai_const 1 86),
  (86, ai_iadd 87),
  (87, ai_putf 1 3 90),
  (90, ai_iinc 1 1 93),
  (93, ai_goto 30),
  (96, ai_vret)]
set_option maxRecDepth 100000 in
set_option maxHeartbeats 4000000 in
theorem tb_Reader_readText {G : aG} {d : Nat} {s_Nodes_clear : aS} {d_Nodes_clear : Nat} (h_Nodes_clear : am_Sp G Y_Nodes_clear d_Nodes_clear s_Nodes_clear) (l_Nodes_clear : d_Nodes_clear < d) {s_Tokens_scan : aS} {d_Tokens_scan : Nat} (h_Tokens_scan : am_Sp G Y_Tokens_scan d_Tokens_scan s_Tokens_scan) (l_Tokens_scan : d_Tokens_scan < d) {s_Tokens_sortOf : aS} {d_Tokens_sortOf : Nat} (h_Tokens_sortOf : am_Sp G Y_Tokens_sortOf d_Tokens_sortOf s_Tokens_sortOf) (l_Tokens_sortOf : d_Tokens_sortOf < d) {s_Reader_readDatum : aS} {d_Reader_readDatum : Nat} (h_Reader_readDatum : am_Sp G Y_Reader_readDatum d_Reader_readDatum s_Reader_readDatum) (l_Reader_readDatum : d_Reader_readDatum < d) {s_Nodes_addDatum : aS} {d_Nodes_addDatum : Nat} (h_Nodes_addDatum : am_Sp G Y_Nodes_addDatum d_Nodes_addDatum s_Nodes_addDatum) (l_Nodes_addDatum : d_Nodes_addDatum < d) : am_tab G Y_Reader_readText d (c_Reader_readText s_Nodes_clear s_Tokens_scan s_Tokens_sortOf s_Reader_readDatum s_Nodes_addDatum) := by
  intro K p e s m args below meth c C
  exact ⟨as_aload_n C (pc := 0) (q := 0) (by decide +kernel) rfl rfl,
    as_getf C (pc := 1) (T := T_Reader) (N := 5) rfl in_Reader (by decide) rfl w_177 (by decide +kernel) rfl,
    as_callv1N C (pc := 4) h_Nodes_clear (T := T_Nodes) (N := 10) rfl w_258 w_72 w_257 w_2 w_255 hy_Nodes_clear (am_rm_of l_Nodes_clear (by decide)) (by decide +kernel) rfl,
    as_aload_n C (pc := 7) (q := 0) (by decide +kernel) rfl rfl,
    as_getf C (pc := 8) (T := T_Reader) (N := 5) rfl in_Reader (by decide) rfl w_178 (by decide +kernel) rfl,
    as_aload_n C (pc := 11) (q := 0) (by decide +kernel) rfl rfl,
    as_getf C (pc := 12) (T := T_Reader) (N := 5) rfl in_Reader (by decide) rfl w_176 (by decide +kernel) rfl,
    as_callv2N C (pc := 15) h_Tokens_scan (T := T_Tokens) (N := 4) rfl w_262 w_75 w_261 w_3 w_259 hy_Tokens_scan (am_rm_of l_Tokens_scan (by decide)) (by decide +kernel) rfl,
    as_aload_n C (pc := 18) (q := 0) (by decide +kernel) rfl rfl,
    as_iconst C (pc := 19) (n := (-1)) (by decide +kernel) (by decide +kernel) rfl,
    as_putf C (pc := 20) t_Reader (T := T_Reader) (N := 5) rfl in_Reader tok_Reader nm_Reader (by decide) rfl rfl (by decide +kernel) w_180 (by decide +kernel) rfl,
    as_aload_n C (pc := 23) (q := 0) (by decide +kernel) rfl rfl,
    as_iconst C (pc := 24) (n := 0) (by decide +kernel) (by decide +kernel) rfl,
    as_putf C (pc := 25) t_Reader (T := T_Reader) (N := 5) rfl in_Reader tok_Reader nm_Reader (by decide) rfl rfl (by decide +kernel) w_179 (by decide +kernel) rfl,
    as_iconst C (pc := 28) (n := 0) (by decide +kernel) (by decide +kernel) rfl,
    as_istore_n C (pc := 29) (q := 1) (by decide +kernel) rfl (by decide) rfl,
    as_iload_n C (pc := 30) (q := 1) (by decide +kernel) rfl rfl,
    as_sipush C (pc := 31) (n := 400) (by decide +kernel) (by decide +kernel) rfl,
    as_cmpgt C (pc := 34) (off := 62) (by decide +kernel) (by decide) rfl,
    as_aload_n C (pc := 37) (q := 0) (by decide +kernel) rfl rfl,
    as_getf C (pc := 38) (T := T_Reader) (N := 5) rfl in_Reader (by decide) rfl w_178 (by decide +kernel) rfl,
    as_aload_n C (pc := 41) (q := 0) (by decide +kernel) rfl rfl,
    as_getf C (pc := 42) (T := T_Reader) (N := 5) rfl in_Reader (by decide) rfl w_179 (by decide +kernel) rfl,
    as_callv2N C (pc := 45) h_Tokens_sortOf (T := T_Tokens) (N := 4) rfl w_304 w_75 w_303 w_12 w_301 hy_Tokens_sortOf (am_rm_of l_Tokens_sortOf (by decide)) (by decide +kernel) rfl,
    as_bipush C (pc := 48) (n := 10) (by decide +kernel) (by decide +kernel) rfl,
    as_cmpeq C (pc := 50) (off := 46) (by decide +kernel) (by decide) rfl,
    as_aload_n C (pc := 53) (q := 0) (by decide +kernel) rfl rfl,
    as_iconst C (pc := 54) (n := 0) (by decide +kernel) (by decide +kernel) rfl,
    as_callv2 C (pc := 55) h_Reader_readDatum (T := T_Reader) (N := 5) rfl w_308 w_74 w_307 w_13 w_305 hy_Reader_readDatum (am_rm_of l_Reader_readDatum (by decide)) (by decide +kernel) rfl,
    as_istore_n C (pc := 58) (q := 2) (by decide +kernel) rfl (by decide) rfl,
    as_iload_n C (pc := 59) (q := 2) (by decide +kernel) rfl rfl,
    as_iconst C (pc := 60) (n := (-1)) (by decide +kernel) (by decide +kernel) rfl,
    as_cmpne C (pc := 61) (off := 11) (by decide +kernel) (by decide) rfl,
    as_aload_n C (pc := 64) (q := 0) (by decide +kernel) rfl rfl,
    as_getf C (pc := 65) (T := T_Reader) (N := 5) rfl in_Reader (by decide) rfl w_177 (by decide +kernel) rfl,
    as_callv1N C (pc := 68) h_Nodes_clear (T := T_Nodes) (N := 10) rfl w_258 w_72 w_257 w_2 w_255 hy_Nodes_clear (am_rm_of l_Nodes_clear (by decide)) (by decide +kernel) rfl,
    as_vret C (pc := 71) rfl (by decide +kernel),
    as_aload_n C (pc := 72) (q := 0) (by decide +kernel) rfl rfl,
    as_getf C (pc := 73) (T := T_Reader) (N := 5) rfl in_Reader (by decide) rfl w_177 (by decide +kernel) rfl,
    as_iload_n C (pc := 76) (q := 2) (by decide +kernel) rfl rfl,
    as_callv2N C (pc := 77) h_Nodes_addDatum (T := T_Nodes) (N := 10) rfl w_381 w_72 w_380 w_31 w_378 hy_Nodes_addDatum (am_rm_of l_Nodes_addDatum (by decide)) (by decide +kernel) rfl,
    as_aload_n C (pc := 80) (q := 0) (by decide +kernel) rfl rfl,
    as_dup C (pc := 81) (by decide +kernel) rfl,
    as_getf C (pc := 82) (T := T_Reader) (N := 5) rfl in_Reader (by decide) rfl w_179 (by decide +kernel) rfl,
    as_iconst C (pc := 85) (n := 1) (by decide +kernel) (by decide +kernel) rfl,
    as_iadd C (pc := 86) (by decide +kernel) rfl,
    as_putf C (pc := 87) t_Reader (T := T_Reader) (N := 5) rfl in_Reader tok_Reader nm_Reader (by decide) rfl rfl (by decide +kernel) w_179 (by decide +kernel) rfl,
    as_iinc C (pc := 90) (k := 1) (n := 1) (by decide +kernel) (by decide +kernel) (by decide) rfl,
    as_goto C (pc := 93) (off := (-63)) (by decide +kernel) (by decide),
    as_vret C (pc := 96) rfl (by decide +kernel), trivial⟩
abbrev k_Reader_readText : List Nat := [30]
theorem q_Reader_readText_30 {s_Nodes_clear : aS} {s_Tokens_scan : aS} {s_Tokens_sortOf : aS} {s_Reader_readDatum : aS} {s_Nodes_addDatum : aS} : am_at (c_Reader_readText s_Nodes_clear s_Tokens_scan s_Tokens_sortOf s_Reader_readDatum s_Nodes_addDatum) 30 = ai_iload 1 31 := by rfl
theorem r_Reader_readText_0 {s_Nodes_clear : aS} {s_Tokens_scan : aS} {s_Tokens_sortOf : aS} {s_Reader_readDatum : aS} {s_Nodes_addDatum : aS} {J : aJ} {K : aR} {n : Nat} {L : aL} {S : List Value} {M : aM} : am_run (c_Reader_readText s_Nodes_clear s_Tokens_scan s_Tokens_sortOf s_Reader_readDatum s_Nodes_addDatum) k_Reader_readText J K (n + 1) 0 L S M = ai_aload 0 1 (am_run (c_Reader_readText s_Nodes_clear s_Tokens_scan s_Tokens_sortOf s_Reader_readDatum s_Nodes_addDatum) k_Reader_readText J K n) K 0 L S M := by rfl
theorem r_Reader_readText_1 {s_Nodes_clear : aS} {s_Tokens_scan : aS} {s_Tokens_sortOf : aS} {s_Reader_readDatum : aS} {s_Nodes_addDatum : aS} {J : aJ} {K : aR} {n : Nat} {L : aL} {S : List Value} {M : aM} : am_run (c_Reader_readText s_Nodes_clear s_Tokens_scan s_Tokens_sortOf s_Reader_readDatum s_Nodes_addDatum) k_Reader_readText J K (n + 1) 1 L S M = ai_getf 1 1 4 (am_run (c_Reader_readText s_Nodes_clear s_Tokens_scan s_Tokens_sortOf s_Reader_readDatum s_Nodes_addDatum) k_Reader_readText J K n) K 1 L S M := by rfl
theorem r_Reader_readText_4 {s_Nodes_clear : aS} {s_Tokens_scan : aS} {s_Tokens_sortOf : aS} {s_Reader_readDatum : aS} {s_Nodes_addDatum : aS} {J : aJ} {K : aR} {n : Nat} {L : aL} {S : List Value} {M : aM} : am_run (c_Reader_readText s_Nodes_clear s_Tokens_scan s_Tokens_sortOf s_Reader_readDatum s_Nodes_addDatum) k_Reader_readText J K (n + 1) 4 L S M = ai_callv1 0 s_Nodes_clear 7 (am_run (c_Reader_readText s_Nodes_clear s_Tokens_scan s_Tokens_sortOf s_Reader_readDatum s_Nodes_addDatum) k_Reader_readText J K n) K 4 L S M := by rfl
theorem r_Reader_readText_7 {s_Nodes_clear : aS} {s_Tokens_scan : aS} {s_Tokens_sortOf : aS} {s_Reader_readDatum : aS} {s_Nodes_addDatum : aS} {J : aJ} {K : aR} {n : Nat} {L : aL} {S : List Value} {M : aM} : am_run (c_Reader_readText s_Nodes_clear s_Tokens_scan s_Tokens_sortOf s_Reader_readDatum s_Nodes_addDatum) k_Reader_readText J K (n + 1) 7 L S M = ai_aload 0 8 (am_run (c_Reader_readText s_Nodes_clear s_Tokens_scan s_Tokens_sortOf s_Reader_readDatum s_Nodes_addDatum) k_Reader_readText J K n) K 7 L S M := by rfl
theorem r_Reader_readText_8 {s_Nodes_clear : aS} {s_Tokens_scan : aS} {s_Tokens_sortOf : aS} {s_Reader_readDatum : aS} {s_Nodes_addDatum : aS} {J : aJ} {K : aR} {n : Nat} {L : aL} {S : List Value} {M : aM} : am_run (c_Reader_readText s_Nodes_clear s_Tokens_scan s_Tokens_sortOf s_Reader_readDatum s_Nodes_addDatum) k_Reader_readText J K (n + 1) 8 L S M = ai_getf 1 2 11 (am_run (c_Reader_readText s_Nodes_clear s_Tokens_scan s_Tokens_sortOf s_Reader_readDatum s_Nodes_addDatum) k_Reader_readText J K n) K 8 L S M := by rfl
theorem r_Reader_readText_11 {s_Nodes_clear : aS} {s_Tokens_scan : aS} {s_Tokens_sortOf : aS} {s_Reader_readDatum : aS} {s_Nodes_addDatum : aS} {J : aJ} {K : aR} {n : Nat} {L : aL} {S : List Value} {M : aM} : am_run (c_Reader_readText s_Nodes_clear s_Tokens_scan s_Tokens_sortOf s_Reader_readDatum s_Nodes_addDatum) k_Reader_readText J K (n + 1) 11 L S M = ai_aload 0 12 (am_run (c_Reader_readText s_Nodes_clear s_Tokens_scan s_Tokens_sortOf s_Reader_readDatum s_Nodes_addDatum) k_Reader_readText J K n) K 11 L S M := by rfl
theorem r_Reader_readText_12 {s_Nodes_clear : aS} {s_Tokens_scan : aS} {s_Tokens_sortOf : aS} {s_Reader_readDatum : aS} {s_Nodes_addDatum : aS} {J : aJ} {K : aR} {n : Nat} {L : aL} {S : List Value} {M : aM} : am_run (c_Reader_readText s_Nodes_clear s_Tokens_scan s_Tokens_sortOf s_Reader_readDatum s_Nodes_addDatum) k_Reader_readText J K (n + 1) 12 L S M = ai_getf 1 0 15 (am_run (c_Reader_readText s_Nodes_clear s_Tokens_scan s_Tokens_sortOf s_Reader_readDatum s_Nodes_addDatum) k_Reader_readText J K n) K 12 L S M := by rfl
theorem r_Reader_readText_15 {s_Nodes_clear : aS} {s_Tokens_scan : aS} {s_Tokens_sortOf : aS} {s_Reader_readDatum : aS} {s_Nodes_addDatum : aS} {J : aJ} {K : aR} {n : Nat} {L : aL} {S : List Value} {M : aM} : am_run (c_Reader_readText s_Nodes_clear s_Tokens_scan s_Tokens_sortOf s_Reader_readDatum s_Nodes_addDatum) k_Reader_readText J K (n + 1) 15 L S M = ai_callv2 3 s_Tokens_scan 18 (am_run (c_Reader_readText s_Nodes_clear s_Tokens_scan s_Tokens_sortOf s_Reader_readDatum s_Nodes_addDatum) k_Reader_readText J K n) K 15 L S M := by rfl
theorem r_Reader_readText_18 {s_Nodes_clear : aS} {s_Tokens_scan : aS} {s_Tokens_sortOf : aS} {s_Reader_readDatum : aS} {s_Nodes_addDatum : aS} {J : aJ} {K : aR} {n : Nat} {L : aL} {S : List Value} {M : aM} : am_run (c_Reader_readText s_Nodes_clear s_Tokens_scan s_Tokens_sortOf s_Reader_readDatum s_Nodes_addDatum) k_Reader_readText J K (n + 1) 18 L S M = ai_aload 0 19 (am_run (c_Reader_readText s_Nodes_clear s_Tokens_scan s_Tokens_sortOf s_Reader_readDatum s_Nodes_addDatum) k_Reader_readText J K n) K 18 L S M := by rfl
theorem r_Reader_readText_19 {s_Nodes_clear : aS} {s_Tokens_scan : aS} {s_Tokens_sortOf : aS} {s_Reader_readDatum : aS} {s_Nodes_addDatum : aS} {J : aJ} {K : aR} {n : Nat} {L : aL} {S : List Value} {M : aM} : am_run (c_Reader_readText s_Nodes_clear s_Tokens_scan s_Tokens_sortOf s_Reader_readDatum s_Nodes_addDatum) k_Reader_readText J K (n + 1) 19 L S M = ai_const (-1) 20 (am_run (c_Reader_readText s_Nodes_clear s_Tokens_scan s_Tokens_sortOf s_Reader_readDatum s_Nodes_addDatum) k_Reader_readText J K n) K 19 L S M := by rfl
theorem r_Reader_readText_20 {s_Nodes_clear : aS} {s_Tokens_scan : aS} {s_Tokens_sortOf : aS} {s_Reader_readDatum : aS} {s_Nodes_addDatum : aS} {J : aJ} {K : aR} {n : Nat} {L : aL} {S : List Value} {M : aM} : am_run (c_Reader_readText s_Nodes_clear s_Tokens_scan s_Tokens_sortOf s_Reader_readDatum s_Nodes_addDatum) k_Reader_readText J K (n + 1) 20 L S M = ai_putf 1 4 23 (am_run (c_Reader_readText s_Nodes_clear s_Tokens_scan s_Tokens_sortOf s_Reader_readDatum s_Nodes_addDatum) k_Reader_readText J K n) K 20 L S M := by rfl
theorem r_Reader_readText_23 {s_Nodes_clear : aS} {s_Tokens_scan : aS} {s_Tokens_sortOf : aS} {s_Reader_readDatum : aS} {s_Nodes_addDatum : aS} {J : aJ} {K : aR} {n : Nat} {L : aL} {S : List Value} {M : aM} : am_run (c_Reader_readText s_Nodes_clear s_Tokens_scan s_Tokens_sortOf s_Reader_readDatum s_Nodes_addDatum) k_Reader_readText J K (n + 1) 23 L S M = ai_aload 0 24 (am_run (c_Reader_readText s_Nodes_clear s_Tokens_scan s_Tokens_sortOf s_Reader_readDatum s_Nodes_addDatum) k_Reader_readText J K n) K 23 L S M := by rfl
theorem r_Reader_readText_24 {s_Nodes_clear : aS} {s_Tokens_scan : aS} {s_Tokens_sortOf : aS} {s_Reader_readDatum : aS} {s_Nodes_addDatum : aS} {J : aJ} {K : aR} {n : Nat} {L : aL} {S : List Value} {M : aM} : am_run (c_Reader_readText s_Nodes_clear s_Tokens_scan s_Tokens_sortOf s_Reader_readDatum s_Nodes_addDatum) k_Reader_readText J K (n + 1) 24 L S M = ai_const 0 25 (am_run (c_Reader_readText s_Nodes_clear s_Tokens_scan s_Tokens_sortOf s_Reader_readDatum s_Nodes_addDatum) k_Reader_readText J K n) K 24 L S M := by rfl
theorem r_Reader_readText_25 {s_Nodes_clear : aS} {s_Tokens_scan : aS} {s_Tokens_sortOf : aS} {s_Reader_readDatum : aS} {s_Nodes_addDatum : aS} {J : aJ} {K : aR} {n : Nat} {L : aL} {S : List Value} {M : aM} : am_run (c_Reader_readText s_Nodes_clear s_Tokens_scan s_Tokens_sortOf s_Reader_readDatum s_Nodes_addDatum) k_Reader_readText J K (n + 1) 25 L S M = ai_putf 1 3 28 (am_run (c_Reader_readText s_Nodes_clear s_Tokens_scan s_Tokens_sortOf s_Reader_readDatum s_Nodes_addDatum) k_Reader_readText J K n) K 25 L S M := by rfl
theorem r_Reader_readText_28 {s_Nodes_clear : aS} {s_Tokens_scan : aS} {s_Tokens_sortOf : aS} {s_Reader_readDatum : aS} {s_Nodes_addDatum : aS} {J : aJ} {K : aR} {n : Nat} {L : aL} {S : List Value} {M : aM} : am_run (c_Reader_readText s_Nodes_clear s_Tokens_scan s_Tokens_sortOf s_Reader_readDatum s_Nodes_addDatum) k_Reader_readText J K (n + 1) 28 L S M = ai_const 0 29 (am_run (c_Reader_readText s_Nodes_clear s_Tokens_scan s_Tokens_sortOf s_Reader_readDatum s_Nodes_addDatum) k_Reader_readText J K n) K 28 L S M := by rfl
theorem r_Reader_readText_29 {s_Nodes_clear : aS} {s_Tokens_scan : aS} {s_Tokens_sortOf : aS} {s_Reader_readDatum : aS} {s_Nodes_addDatum : aS} {J : aJ} {K : aR} {n : Nat} {L : aL} {S : List Value} {M : aM} : am_run (c_Reader_readText s_Nodes_clear s_Tokens_scan s_Tokens_sortOf s_Reader_readDatum s_Nodes_addDatum) k_Reader_readText J K (n + 1) 29 L S M = ai_istore 1 30 (am_run (c_Reader_readText s_Nodes_clear s_Tokens_scan s_Tokens_sortOf s_Reader_readDatum s_Nodes_addDatum) k_Reader_readText J K n) K 29 L S M := by rfl
theorem r_Reader_readText_30 {s_Nodes_clear : aS} {s_Tokens_scan : aS} {s_Tokens_sortOf : aS} {s_Reader_readDatum : aS} {s_Nodes_addDatum : aS} {J : aJ} {K : aR} {n : Nat} {L : aL} {S : List Value} {M : aM} : am_run (c_Reader_readText s_Nodes_clear s_Tokens_scan s_Tokens_sortOf s_Reader_readDatum s_Nodes_addDatum) k_Reader_readText J K (n + 1) 30 L S M = J 30 L S M := by rfl
theorem r_Reader_readText_31 {s_Nodes_clear : aS} {s_Tokens_scan : aS} {s_Tokens_sortOf : aS} {s_Reader_readDatum : aS} {s_Nodes_addDatum : aS} {J : aJ} {K : aR} {n : Nat} {L : aL} {S : List Value} {M : aM} : am_run (c_Reader_readText s_Nodes_clear s_Tokens_scan s_Tokens_sortOf s_Reader_readDatum s_Nodes_addDatum) k_Reader_readText J K (n + 1) 31 L S M = ai_const 400 34 (am_run (c_Reader_readText s_Nodes_clear s_Tokens_scan s_Tokens_sortOf s_Reader_readDatum s_Nodes_addDatum) k_Reader_readText J K n) K 31 L S M := by rfl
theorem r_Reader_readText_34 {s_Nodes_clear : aS} {s_Tokens_scan : aS} {s_Tokens_sortOf : aS} {s_Reader_readDatum : aS} {s_Nodes_addDatum : aS} {J : aJ} {K : aR} {n : Nat} {L : aL} {S : List Value} {M : aM} : am_run (c_Reader_readText s_Nodes_clear s_Tokens_scan s_Tokens_sortOf s_Reader_readDatum s_Nodes_addDatum) k_Reader_readText J K (n + 1) 34 L S M = ai_cmpgt 96 37 (am_run (c_Reader_readText s_Nodes_clear s_Tokens_scan s_Tokens_sortOf s_Reader_readDatum s_Nodes_addDatum) k_Reader_readText J K n) K 34 L S M := by rfl
theorem r_Reader_readText_37 {s_Nodes_clear : aS} {s_Tokens_scan : aS} {s_Tokens_sortOf : aS} {s_Reader_readDatum : aS} {s_Nodes_addDatum : aS} {J : aJ} {K : aR} {n : Nat} {L : aL} {S : List Value} {M : aM} : am_run (c_Reader_readText s_Nodes_clear s_Tokens_scan s_Tokens_sortOf s_Reader_readDatum s_Nodes_addDatum) k_Reader_readText J K (n + 1) 37 L S M = ai_aload 0 38 (am_run (c_Reader_readText s_Nodes_clear s_Tokens_scan s_Tokens_sortOf s_Reader_readDatum s_Nodes_addDatum) k_Reader_readText J K n) K 37 L S M := by rfl
theorem r_Reader_readText_38 {s_Nodes_clear : aS} {s_Tokens_scan : aS} {s_Tokens_sortOf : aS} {s_Reader_readDatum : aS} {s_Nodes_addDatum : aS} {J : aJ} {K : aR} {n : Nat} {L : aL} {S : List Value} {M : aM} : am_run (c_Reader_readText s_Nodes_clear s_Tokens_scan s_Tokens_sortOf s_Reader_readDatum s_Nodes_addDatum) k_Reader_readText J K (n + 1) 38 L S M = ai_getf 1 2 41 (am_run (c_Reader_readText s_Nodes_clear s_Tokens_scan s_Tokens_sortOf s_Reader_readDatum s_Nodes_addDatum) k_Reader_readText J K n) K 38 L S M := by rfl
theorem r_Reader_readText_41 {s_Nodes_clear : aS} {s_Tokens_scan : aS} {s_Tokens_sortOf : aS} {s_Reader_readDatum : aS} {s_Nodes_addDatum : aS} {J : aJ} {K : aR} {n : Nat} {L : aL} {S : List Value} {M : aM} : am_run (c_Reader_readText s_Nodes_clear s_Tokens_scan s_Tokens_sortOf s_Reader_readDatum s_Nodes_addDatum) k_Reader_readText J K (n + 1) 41 L S M = ai_aload 0 42 (am_run (c_Reader_readText s_Nodes_clear s_Tokens_scan s_Tokens_sortOf s_Reader_readDatum s_Nodes_addDatum) k_Reader_readText J K n) K 41 L S M := by rfl
theorem r_Reader_readText_42 {s_Nodes_clear : aS} {s_Tokens_scan : aS} {s_Tokens_sortOf : aS} {s_Reader_readDatum : aS} {s_Nodes_addDatum : aS} {J : aJ} {K : aR} {n : Nat} {L : aL} {S : List Value} {M : aM} : am_run (c_Reader_readText s_Nodes_clear s_Tokens_scan s_Tokens_sortOf s_Reader_readDatum s_Nodes_addDatum) k_Reader_readText J K (n + 1) 42 L S M = ai_getf 1 3 45 (am_run (c_Reader_readText s_Nodes_clear s_Tokens_scan s_Tokens_sortOf s_Reader_readDatum s_Nodes_addDatum) k_Reader_readText J K n) K 42 L S M := by rfl
theorem r_Reader_readText_45 {s_Nodes_clear : aS} {s_Tokens_scan : aS} {s_Tokens_sortOf : aS} {s_Reader_readDatum : aS} {s_Nodes_addDatum : aS} {J : aJ} {K : aR} {n : Nat} {L : aL} {S : List Value} {M : aM} : am_run (c_Reader_readText s_Nodes_clear s_Tokens_scan s_Tokens_sortOf s_Reader_readDatum s_Nodes_addDatum) k_Reader_readText J K (n + 1) 45 L S M = ai_callv2 3 s_Tokens_sortOf 48 (am_run (c_Reader_readText s_Nodes_clear s_Tokens_scan s_Tokens_sortOf s_Reader_readDatum s_Nodes_addDatum) k_Reader_readText J K n) K 45 L S M := by rfl
theorem r_Reader_readText_48 {s_Nodes_clear : aS} {s_Tokens_scan : aS} {s_Tokens_sortOf : aS} {s_Reader_readDatum : aS} {s_Nodes_addDatum : aS} {J : aJ} {K : aR} {n : Nat} {L : aL} {S : List Value} {M : aM} : am_run (c_Reader_readText s_Nodes_clear s_Tokens_scan s_Tokens_sortOf s_Reader_readDatum s_Nodes_addDatum) k_Reader_readText J K (n + 1) 48 L S M = ai_const 10 50 (am_run (c_Reader_readText s_Nodes_clear s_Tokens_scan s_Tokens_sortOf s_Reader_readDatum s_Nodes_addDatum) k_Reader_readText J K n) K 48 L S M := by rfl
theorem r_Reader_readText_50 {s_Nodes_clear : aS} {s_Tokens_scan : aS} {s_Tokens_sortOf : aS} {s_Reader_readDatum : aS} {s_Nodes_addDatum : aS} {J : aJ} {K : aR} {n : Nat} {L : aL} {S : List Value} {M : aM} : am_run (c_Reader_readText s_Nodes_clear s_Tokens_scan s_Tokens_sortOf s_Reader_readDatum s_Nodes_addDatum) k_Reader_readText J K (n + 1) 50 L S M = ai_cmpeq 96 53 (am_run (c_Reader_readText s_Nodes_clear s_Tokens_scan s_Tokens_sortOf s_Reader_readDatum s_Nodes_addDatum) k_Reader_readText J K n) K 50 L S M := by rfl
theorem r_Reader_readText_53 {s_Nodes_clear : aS} {s_Tokens_scan : aS} {s_Tokens_sortOf : aS} {s_Reader_readDatum : aS} {s_Nodes_addDatum : aS} {J : aJ} {K : aR} {n : Nat} {L : aL} {S : List Value} {M : aM} : am_run (c_Reader_readText s_Nodes_clear s_Tokens_scan s_Tokens_sortOf s_Reader_readDatum s_Nodes_addDatum) k_Reader_readText J K (n + 1) 53 L S M = ai_aload 0 54 (am_run (c_Reader_readText s_Nodes_clear s_Tokens_scan s_Tokens_sortOf s_Reader_readDatum s_Nodes_addDatum) k_Reader_readText J K n) K 53 L S M := by rfl
theorem r_Reader_readText_54 {s_Nodes_clear : aS} {s_Tokens_scan : aS} {s_Tokens_sortOf : aS} {s_Reader_readDatum : aS} {s_Nodes_addDatum : aS} {J : aJ} {K : aR} {n : Nat} {L : aL} {S : List Value} {M : aM} : am_run (c_Reader_readText s_Nodes_clear s_Tokens_scan s_Tokens_sortOf s_Reader_readDatum s_Nodes_addDatum) k_Reader_readText J K (n + 1) 54 L S M = ai_const 0 55 (am_run (c_Reader_readText s_Nodes_clear s_Tokens_scan s_Tokens_sortOf s_Reader_readDatum s_Nodes_addDatum) k_Reader_readText J K n) K 54 L S M := by rfl
theorem r_Reader_readText_55 {s_Nodes_clear : aS} {s_Tokens_scan : aS} {s_Tokens_sortOf : aS} {s_Reader_readDatum : aS} {s_Nodes_addDatum : aS} {J : aJ} {K : aR} {n : Nat} {L : aL} {S : List Value} {M : aM} : am_run (c_Reader_readText s_Nodes_clear s_Tokens_scan s_Tokens_sortOf s_Reader_readDatum s_Nodes_addDatum) k_Reader_readText J K (n + 1) 55 L S M = ai_callv2 1 s_Reader_readDatum 58 (am_run (c_Reader_readText s_Nodes_clear s_Tokens_scan s_Tokens_sortOf s_Reader_readDatum s_Nodes_addDatum) k_Reader_readText J K n) K 55 L S M := by rfl
theorem r_Reader_readText_58 {s_Nodes_clear : aS} {s_Tokens_scan : aS} {s_Tokens_sortOf : aS} {s_Reader_readDatum : aS} {s_Nodes_addDatum : aS} {J : aJ} {K : aR} {n : Nat} {L : aL} {S : List Value} {M : aM} : am_run (c_Reader_readText s_Nodes_clear s_Tokens_scan s_Tokens_sortOf s_Reader_readDatum s_Nodes_addDatum) k_Reader_readText J K (n + 1) 58 L S M = ai_istore 2 59 (am_run (c_Reader_readText s_Nodes_clear s_Tokens_scan s_Tokens_sortOf s_Reader_readDatum s_Nodes_addDatum) k_Reader_readText J K n) K 58 L S M := by rfl
theorem r_Reader_readText_59 {s_Nodes_clear : aS} {s_Tokens_scan : aS} {s_Tokens_sortOf : aS} {s_Reader_readDatum : aS} {s_Nodes_addDatum : aS} {J : aJ} {K : aR} {n : Nat} {L : aL} {S : List Value} {M : aM} : am_run (c_Reader_readText s_Nodes_clear s_Tokens_scan s_Tokens_sortOf s_Reader_readDatum s_Nodes_addDatum) k_Reader_readText J K (n + 1) 59 L S M = ai_iload 2 60 (am_run (c_Reader_readText s_Nodes_clear s_Tokens_scan s_Tokens_sortOf s_Reader_readDatum s_Nodes_addDatum) k_Reader_readText J K n) K 59 L S M := by rfl
theorem r_Reader_readText_60 {s_Nodes_clear : aS} {s_Tokens_scan : aS} {s_Tokens_sortOf : aS} {s_Reader_readDatum : aS} {s_Nodes_addDatum : aS} {J : aJ} {K : aR} {n : Nat} {L : aL} {S : List Value} {M : aM} : am_run (c_Reader_readText s_Nodes_clear s_Tokens_scan s_Tokens_sortOf s_Reader_readDatum s_Nodes_addDatum) k_Reader_readText J K (n + 1) 60 L S M = ai_const (-1) 61 (am_run (c_Reader_readText s_Nodes_clear s_Tokens_scan s_Tokens_sortOf s_Reader_readDatum s_Nodes_addDatum) k_Reader_readText J K n) K 60 L S M := by rfl
theorem r_Reader_readText_61 {s_Nodes_clear : aS} {s_Tokens_scan : aS} {s_Tokens_sortOf : aS} {s_Reader_readDatum : aS} {s_Nodes_addDatum : aS} {J : aJ} {K : aR} {n : Nat} {L : aL} {S : List Value} {M : aM} : am_run (c_Reader_readText s_Nodes_clear s_Tokens_scan s_Tokens_sortOf s_Reader_readDatum s_Nodes_addDatum) k_Reader_readText J K (n + 1) 61 L S M = ai_cmpne 72 64 (am_run (c_Reader_readText s_Nodes_clear s_Tokens_scan s_Tokens_sortOf s_Reader_readDatum s_Nodes_addDatum) k_Reader_readText J K n) K 61 L S M := by rfl
theorem r_Reader_readText_64 {s_Nodes_clear : aS} {s_Tokens_scan : aS} {s_Tokens_sortOf : aS} {s_Reader_readDatum : aS} {s_Nodes_addDatum : aS} {J : aJ} {K : aR} {n : Nat} {L : aL} {S : List Value} {M : aM} : am_run (c_Reader_readText s_Nodes_clear s_Tokens_scan s_Tokens_sortOf s_Reader_readDatum s_Nodes_addDatum) k_Reader_readText J K (n + 1) 64 L S M = ai_aload 0 65 (am_run (c_Reader_readText s_Nodes_clear s_Tokens_scan s_Tokens_sortOf s_Reader_readDatum s_Nodes_addDatum) k_Reader_readText J K n) K 64 L S M := by rfl
theorem r_Reader_readText_65 {s_Nodes_clear : aS} {s_Tokens_scan : aS} {s_Tokens_sortOf : aS} {s_Reader_readDatum : aS} {s_Nodes_addDatum : aS} {J : aJ} {K : aR} {n : Nat} {L : aL} {S : List Value} {M : aM} : am_run (c_Reader_readText s_Nodes_clear s_Tokens_scan s_Tokens_sortOf s_Reader_readDatum s_Nodes_addDatum) k_Reader_readText J K (n + 1) 65 L S M = ai_getf 1 1 68 (am_run (c_Reader_readText s_Nodes_clear s_Tokens_scan s_Tokens_sortOf s_Reader_readDatum s_Nodes_addDatum) k_Reader_readText J K n) K 65 L S M := by rfl
theorem r_Reader_readText_68 {s_Nodes_clear : aS} {s_Tokens_scan : aS} {s_Tokens_sortOf : aS} {s_Reader_readDatum : aS} {s_Nodes_addDatum : aS} {J : aJ} {K : aR} {n : Nat} {L : aL} {S : List Value} {M : aM} : am_run (c_Reader_readText s_Nodes_clear s_Tokens_scan s_Tokens_sortOf s_Reader_readDatum s_Nodes_addDatum) k_Reader_readText J K (n + 1) 68 L S M = ai_callv1 0 s_Nodes_clear 71 (am_run (c_Reader_readText s_Nodes_clear s_Tokens_scan s_Tokens_sortOf s_Reader_readDatum s_Nodes_addDatum) k_Reader_readText J K n) K 68 L S M := by rfl
theorem r_Reader_readText_71 {s_Nodes_clear : aS} {s_Tokens_scan : aS} {s_Tokens_sortOf : aS} {s_Reader_readDatum : aS} {s_Nodes_addDatum : aS} {J : aJ} {K : aR} {n : Nat} {L : aL} {S : List Value} {M : aM} : am_run (c_Reader_readText s_Nodes_clear s_Tokens_scan s_Tokens_sortOf s_Reader_readDatum s_Nodes_addDatum) k_Reader_readText J K (n + 1) 71 L S M = ai_vret (am_run (c_Reader_readText s_Nodes_clear s_Tokens_scan s_Tokens_sortOf s_Reader_readDatum s_Nodes_addDatum) k_Reader_readText J K n) K 71 L S M := by rfl
theorem r_Reader_readText_72 {s_Nodes_clear : aS} {s_Tokens_scan : aS} {s_Tokens_sortOf : aS} {s_Reader_readDatum : aS} {s_Nodes_addDatum : aS} {J : aJ} {K : aR} {n : Nat} {L : aL} {S : List Value} {M : aM} : am_run (c_Reader_readText s_Nodes_clear s_Tokens_scan s_Tokens_sortOf s_Reader_readDatum s_Nodes_addDatum) k_Reader_readText J K (n + 1) 72 L S M = ai_aload 0 73 (am_run (c_Reader_readText s_Nodes_clear s_Tokens_scan s_Tokens_sortOf s_Reader_readDatum s_Nodes_addDatum) k_Reader_readText J K n) K 72 L S M := by rfl
theorem r_Reader_readText_73 {s_Nodes_clear : aS} {s_Tokens_scan : aS} {s_Tokens_sortOf : aS} {s_Reader_readDatum : aS} {s_Nodes_addDatum : aS} {J : aJ} {K : aR} {n : Nat} {L : aL} {S : List Value} {M : aM} : am_run (c_Reader_readText s_Nodes_clear s_Tokens_scan s_Tokens_sortOf s_Reader_readDatum s_Nodes_addDatum) k_Reader_readText J K (n + 1) 73 L S M = ai_getf 1 1 76 (am_run (c_Reader_readText s_Nodes_clear s_Tokens_scan s_Tokens_sortOf s_Reader_readDatum s_Nodes_addDatum) k_Reader_readText J K n) K 73 L S M := by rfl
theorem r_Reader_readText_76 {s_Nodes_clear : aS} {s_Tokens_scan : aS} {s_Tokens_sortOf : aS} {s_Reader_readDatum : aS} {s_Nodes_addDatum : aS} {J : aJ} {K : aR} {n : Nat} {L : aL} {S : List Value} {M : aM} : am_run (c_Reader_readText s_Nodes_clear s_Tokens_scan s_Tokens_sortOf s_Reader_readDatum s_Nodes_addDatum) k_Reader_readText J K (n + 1) 76 L S M = ai_iload 2 77 (am_run (c_Reader_readText s_Nodes_clear s_Tokens_scan s_Tokens_sortOf s_Reader_readDatum s_Nodes_addDatum) k_Reader_readText J K n) K 76 L S M := by rfl
theorem r_Reader_readText_77 {s_Nodes_clear : aS} {s_Tokens_scan : aS} {s_Tokens_sortOf : aS} {s_Reader_readDatum : aS} {s_Nodes_addDatum : aS} {J : aJ} {K : aR} {n : Nat} {L : aL} {S : List Value} {M : aM} : am_run (c_Reader_readText s_Nodes_clear s_Tokens_scan s_Tokens_sortOf s_Reader_readDatum s_Nodes_addDatum) k_Reader_readText J K (n + 1) 77 L S M = ai_callv2 0 s_Nodes_addDatum 80 (am_run (c_Reader_readText s_Nodes_clear s_Tokens_scan s_Tokens_sortOf s_Reader_readDatum s_Nodes_addDatum) k_Reader_readText J K n) K 77 L S M := by rfl
theorem r_Reader_readText_80 {s_Nodes_clear : aS} {s_Tokens_scan : aS} {s_Tokens_sortOf : aS} {s_Reader_readDatum : aS} {s_Nodes_addDatum : aS} {J : aJ} {K : aR} {n : Nat} {L : aL} {S : List Value} {M : aM} : am_run (c_Reader_readText s_Nodes_clear s_Tokens_scan s_Tokens_sortOf s_Reader_readDatum s_Nodes_addDatum) k_Reader_readText J K (n + 1) 80 L S M = ai_aload 0 81 (am_run (c_Reader_readText s_Nodes_clear s_Tokens_scan s_Tokens_sortOf s_Reader_readDatum s_Nodes_addDatum) k_Reader_readText J K n) K 80 L S M := by rfl
theorem r_Reader_readText_81 {s_Nodes_clear : aS} {s_Tokens_scan : aS} {s_Tokens_sortOf : aS} {s_Reader_readDatum : aS} {s_Nodes_addDatum : aS} {J : aJ} {K : aR} {n : Nat} {L : aL} {S : List Value} {M : aM} : am_run (c_Reader_readText s_Nodes_clear s_Tokens_scan s_Tokens_sortOf s_Reader_readDatum s_Nodes_addDatum) k_Reader_readText J K (n + 1) 81 L S M = ai_dup 82 (am_run (c_Reader_readText s_Nodes_clear s_Tokens_scan s_Tokens_sortOf s_Reader_readDatum s_Nodes_addDatum) k_Reader_readText J K n) K 81 L S M := by rfl
theorem r_Reader_readText_82 {s_Nodes_clear : aS} {s_Tokens_scan : aS} {s_Tokens_sortOf : aS} {s_Reader_readDatum : aS} {s_Nodes_addDatum : aS} {J : aJ} {K : aR} {n : Nat} {L : aL} {S : List Value} {M : aM} : am_run (c_Reader_readText s_Nodes_clear s_Tokens_scan s_Tokens_sortOf s_Reader_readDatum s_Nodes_addDatum) k_Reader_readText J K (n + 1) 82 L S M = ai_getf 1 3 85 (am_run (c_Reader_readText s_Nodes_clear s_Tokens_scan s_Tokens_sortOf s_Reader_readDatum s_Nodes_addDatum) k_Reader_readText J K n) K 82 L S M := by rfl
theorem r_Reader_readText_85 {s_Nodes_clear : aS} {s_Tokens_scan : aS} {s_Tokens_sortOf : aS} {s_Reader_readDatum : aS} {s_Nodes_addDatum : aS} {J : aJ} {K : aR} {n : Nat} {L : aL} {S : List Value} {M : aM} : am_run (c_Reader_readText s_Nodes_clear s_Tokens_scan s_Tokens_sortOf s_Reader_readDatum s_Nodes_addDatum) k_Reader_readText J K (n + 1) 85 L S M = ai_const 1 86 (am_run (c_Reader_readText s_Nodes_clear s_Tokens_scan s_Tokens_sortOf s_Reader_readDatum s_Nodes_addDatum) k_Reader_readText J K n) K 85 L S M := by rfl
theorem r_Reader_readText_86 {s_Nodes_clear : aS} {s_Tokens_scan : aS} {s_Tokens_sortOf : aS} {s_Reader_readDatum : aS} {s_Nodes_addDatum : aS} {J : aJ} {K : aR} {n : Nat} {L : aL} {S : List Value} {M : aM} : am_run (c_Reader_readText s_Nodes_clear s_Tokens_scan s_Tokens_sortOf s_Reader_readDatum s_Nodes_addDatum) k_Reader_readText J K (n + 1) 86 L S M = ai_iadd 87 (am_run (c_Reader_readText s_Nodes_clear s_Tokens_scan s_Tokens_sortOf s_Reader_readDatum s_Nodes_addDatum) k_Reader_readText J K n) K 86 L S M := by rfl
theorem r_Reader_readText_87 {s_Nodes_clear : aS} {s_Tokens_scan : aS} {s_Tokens_sortOf : aS} {s_Reader_readDatum : aS} {s_Nodes_addDatum : aS} {J : aJ} {K : aR} {n : Nat} {L : aL} {S : List Value} {M : aM} : am_run (c_Reader_readText s_Nodes_clear s_Tokens_scan s_Tokens_sortOf s_Reader_readDatum s_Nodes_addDatum) k_Reader_readText J K (n + 1) 87 L S M = ai_putf 1 3 90 (am_run (c_Reader_readText s_Nodes_clear s_Tokens_scan s_Tokens_sortOf s_Reader_readDatum s_Nodes_addDatum) k_Reader_readText J K n) K 87 L S M := by rfl
theorem r_Reader_readText_90 {s_Nodes_clear : aS} {s_Tokens_scan : aS} {s_Tokens_sortOf : aS} {s_Reader_readDatum : aS} {s_Nodes_addDatum : aS} {J : aJ} {K : aR} {n : Nat} {L : aL} {S : List Value} {M : aM} : am_run (c_Reader_readText s_Nodes_clear s_Tokens_scan s_Tokens_sortOf s_Reader_readDatum s_Nodes_addDatum) k_Reader_readText J K (n + 1) 90 L S M = ai_iinc 1 1 93 (am_run (c_Reader_readText s_Nodes_clear s_Tokens_scan s_Tokens_sortOf s_Reader_readDatum s_Nodes_addDatum) k_Reader_readText J K n) K 90 L S M := by rfl
theorem r_Reader_readText_93 {s_Nodes_clear : aS} {s_Tokens_scan : aS} {s_Tokens_sortOf : aS} {s_Reader_readDatum : aS} {s_Nodes_addDatum : aS} {J : aJ} {K : aR} {n : Nat} {L : aL} {S : List Value} {M : aM} : am_run (c_Reader_readText s_Nodes_clear s_Tokens_scan s_Tokens_sortOf s_Reader_readDatum s_Nodes_addDatum) k_Reader_readText J K (n + 1) 93 L S M = ai_goto 30 (am_run (c_Reader_readText s_Nodes_clear s_Tokens_scan s_Tokens_sortOf s_Reader_readDatum s_Nodes_addDatum) k_Reader_readText J K n) K 93 L S M := by rfl
theorem r_Reader_readText_96 {s_Nodes_clear : aS} {s_Tokens_scan : aS} {s_Tokens_sortOf : aS} {s_Reader_readDatum : aS} {s_Nodes_addDatum : aS} {J : aJ} {K : aR} {n : Nat} {L : aL} {S : List Value} {M : aM} : am_run (c_Reader_readText s_Nodes_clear s_Tokens_scan s_Tokens_sortOf s_Reader_readDatum s_Nodes_addDatum) k_Reader_readText J K (n + 1) 96 L S M = ai_vret (am_run (c_Reader_readText s_Nodes_clear s_Tokens_scan s_Tokens_sortOf s_Reader_readDatum s_Nodes_addDatum) k_Reader_readText J K n) K 96 L S M := by rfl
def c_Reader_readDatum (s_Tokens_sortOf : aS) (s_Reader_readNumber : aS) (s_Reader_readName : aS) (s_Reader_readString : aS) (s_Reader_readQuoted : aS) (s_Reader_readList : aS) (s_Reader_fault : aS) : List (Nat × aI) := [
  (0, ai_aload 0 1),
  (1, ai_getf 1 2 4),
  (4, ai_aload 0 5),
  (5, ai_getf 1 3 8),
  (8, ai_callv2 3 s_Tokens_sortOf 11),
  (11, ai_switch [(1, 56), (2, 61), (3, 66), (4, 83), (5, 83), (6, 77), (7, 83), (8, 71)] 83),
  (56, ai_aload 0 57),
  (57, ai_callv1 1 s_Reader_readNumber 60),
  (60, ai_iret),
  (61, ai_aload 0 62),
  (62, ai_callv1 1 s_Reader_readName 65),
  (65, ai_iret),
  (66, ai_aload 0 67),
  (67, ai_callv1 1 s_Reader_readString 70),
  (70, ai_iret),
  (71, ai_aload 0 72),
  (72, ai_iload 1 73),
  (73, ai_callv2 1 s_Reader_readQuoted 76),
  (76, ai_iret),
  (77, ai_aload 0 78),
  (78, ai_iload 1 79),
  (79, ai_callv2 1 s_Reader_readList 82),
  (82, ai_iret),
  (83, ai_aload 0 84),
  (84, ai_callv1 1 s_Reader_fault 87),
  (87, ai_iret)]
set_option maxRecDepth 100000 in
set_option maxHeartbeats 4000000 in
theorem tb_Reader_readDatum {G : aG} {d : Nat} {s_Tokens_sortOf : aS} {d_Tokens_sortOf : Nat} (h_Tokens_sortOf : am_Sp G Y_Tokens_sortOf d_Tokens_sortOf s_Tokens_sortOf) (l_Tokens_sortOf : d_Tokens_sortOf < d) {s_Reader_readNumber : aS} {d_Reader_readNumber : Nat} (h_Reader_readNumber : am_Sp G Y_Reader_readNumber d_Reader_readNumber s_Reader_readNumber) (l_Reader_readNumber : d_Reader_readNumber < d) {s_Reader_readName : aS} {d_Reader_readName : Nat} (h_Reader_readName : am_Sp G Y_Reader_readName d_Reader_readName s_Reader_readName) (l_Reader_readName : d_Reader_readName < d) {s_Reader_readString : aS} {d_Reader_readString : Nat} (h_Reader_readString : am_Sp G Y_Reader_readString d_Reader_readString s_Reader_readString) (l_Reader_readString : d_Reader_readString < d) {s_Reader_readQuoted : aS} {d_Reader_readQuoted : Nat} (h_Reader_readQuoted : am_Sp G Y_Reader_readQuoted d_Reader_readQuoted s_Reader_readQuoted) (l_Reader_readQuoted : d_Reader_readQuoted < d) {s_Reader_readList : aS} {d_Reader_readList : Nat} (h_Reader_readList : am_Sp G Y_Reader_readList d_Reader_readList s_Reader_readList) (l_Reader_readList : d_Reader_readList < d) {s_Reader_fault : aS} {d_Reader_fault : Nat} (h_Reader_fault : am_Sp G Y_Reader_fault d_Reader_fault s_Reader_fault) (l_Reader_fault : d_Reader_fault < d) : am_tab G Y_Reader_readDatum d (c_Reader_readDatum s_Tokens_sortOf s_Reader_readNumber s_Reader_readName s_Reader_readString s_Reader_readQuoted s_Reader_readList s_Reader_fault) := by
  intro K p e s m args below meth c C
  exact ⟨as_aload_n C (pc := 0) (q := 0) (by decide +kernel) rfl rfl,
    as_getf C (pc := 1) (T := T_Reader) (N := 5) rfl in_Reader (by decide) rfl w_178 (by decide +kernel) rfl,
    as_aload_n C (pc := 4) (q := 0) (by decide +kernel) rfl rfl,
    as_getf C (pc := 5) (T := T_Reader) (N := 5) rfl in_Reader (by decide) rfl w_179 (by decide +kernel) rfl,
    as_callv2N C (pc := 8) h_Tokens_sortOf (T := T_Tokens) (N := 4) rfl w_304 w_75 w_303 w_12 w_301 hy_Tokens_sortOf (am_rm_of l_Tokens_sortOf (by decide)) (by decide +kernel) rfl,
    as_table C (pc := 11) (dflt := 72) (lo := 1) (hi := 8) (offs := #[45, 50, 55, 72, 72, 66, 72, 60]) (len := 45) (by decide +kernel) (by decide +kernel) (by decide) (by decide),
    as_aload_n C (pc := 56) (q := 0) (by decide +kernel) rfl rfl,
    as_callv1 C (pc := 57) h_Reader_readNumber (T := T_Reader) (N := 5) rfl w_312 w_74 w_311 w_14 w_309 hy_Reader_readNumber (am_rm_of l_Reader_readNumber (by decide)) (by decide +kernel) rfl,
    as_iret C (pc := 60) rfl (by decide +kernel),
    as_aload_n C (pc := 61) (q := 0) (by decide +kernel) rfl rfl,
    as_callv1 C (pc := 62) h_Reader_readName (T := T_Reader) (N := 5) rfl w_345 w_74 w_344 w_22 w_342 hy_Reader_readName (am_rm_of l_Reader_readName (by decide)) (by decide +kernel) rfl,
    as_iret C (pc := 65) rfl (by decide +kernel),
    as_aload_n C (pc := 66) (q := 0) (by decide +kernel) rfl rfl,
    as_callv1 C (pc := 67) h_Reader_readString (T := T_Reader) (N := 5) rfl w_353 w_74 w_352 w_24 w_350 hy_Reader_readString (am_rm_of l_Reader_readString (by decide)) (by decide +kernel) rfl,
    as_iret C (pc := 70) rfl (by decide +kernel),
    as_aload_n C (pc := 71) (q := 0) (by decide +kernel) rfl rfl,
    as_iload_n C (pc := 72) (q := 1) (by decide +kernel) rfl rfl,
    as_callv2 C (pc := 73) h_Reader_readQuoted (T := T_Reader) (N := 5) rfl w_357 w_74 w_356 w_25 w_354 hy_Reader_readQuoted (am_rm_of l_Reader_readQuoted (by decide)) (by decide +kernel) rfl,
    as_iret C (pc := 76) rfl (by decide +kernel),
    as_aload_n C (pc := 77) (q := 0) (by decide +kernel) rfl rfl,
    as_iload_n C (pc := 78) (q := 1) (by decide +kernel) rfl rfl,
    as_callv2 C (pc := 79) h_Reader_readList (T := T_Reader) (N := 5) rfl w_373 w_74 w_372 w_29 w_370 hy_Reader_readList (am_rm_of l_Reader_readList (by decide)) (by decide +kernel) rfl,
    as_iret C (pc := 82) rfl (by decide +kernel),
    as_aload_n C (pc := 83) (q := 0) (by decide +kernel) rfl rfl,
    as_callv1 C (pc := 84) h_Reader_fault (T := T_Reader) (N := 5) rfl w_333 w_74 w_332 w_19 w_330 hy_Reader_fault (am_rm_of l_Reader_fault (by decide)) (by decide +kernel) rfl,
    as_iret C (pc := 87) rfl (by decide +kernel), trivial⟩
abbrev k_Reader_readDatum : List Nat := []
theorem r_Reader_readDatum_0 {s_Tokens_sortOf : aS} {s_Reader_readNumber : aS} {s_Reader_readName : aS} {s_Reader_readString : aS} {s_Reader_readQuoted : aS} {s_Reader_readList : aS} {s_Reader_fault : aS} {J : aJ} {K : aR} {n : Nat} {L : aL} {S : List Value} {M : aM} : am_run (c_Reader_readDatum s_Tokens_sortOf s_Reader_readNumber s_Reader_readName s_Reader_readString s_Reader_readQuoted s_Reader_readList s_Reader_fault) k_Reader_readDatum J K (n + 1) 0 L S M = ai_aload 0 1 (am_run (c_Reader_readDatum s_Tokens_sortOf s_Reader_readNumber s_Reader_readName s_Reader_readString s_Reader_readQuoted s_Reader_readList s_Reader_fault) k_Reader_readDatum J K n) K 0 L S M := by rfl
theorem r_Reader_readDatum_1 {s_Tokens_sortOf : aS} {s_Reader_readNumber : aS} {s_Reader_readName : aS} {s_Reader_readString : aS} {s_Reader_readQuoted : aS} {s_Reader_readList : aS} {s_Reader_fault : aS} {J : aJ} {K : aR} {n : Nat} {L : aL} {S : List Value} {M : aM} : am_run (c_Reader_readDatum s_Tokens_sortOf s_Reader_readNumber s_Reader_readName s_Reader_readString s_Reader_readQuoted s_Reader_readList s_Reader_fault) k_Reader_readDatum J K (n + 1) 1 L S M = ai_getf 1 2 4 (am_run (c_Reader_readDatum s_Tokens_sortOf s_Reader_readNumber s_Reader_readName s_Reader_readString s_Reader_readQuoted s_Reader_readList s_Reader_fault) k_Reader_readDatum J K n) K 1 L S M := by rfl
theorem r_Reader_readDatum_4 {s_Tokens_sortOf : aS} {s_Reader_readNumber : aS} {s_Reader_readName : aS} {s_Reader_readString : aS} {s_Reader_readQuoted : aS} {s_Reader_readList : aS} {s_Reader_fault : aS} {J : aJ} {K : aR} {n : Nat} {L : aL} {S : List Value} {M : aM} : am_run (c_Reader_readDatum s_Tokens_sortOf s_Reader_readNumber s_Reader_readName s_Reader_readString s_Reader_readQuoted s_Reader_readList s_Reader_fault) k_Reader_readDatum J K (n + 1) 4 L S M = ai_aload 0 5 (am_run (c_Reader_readDatum s_Tokens_sortOf s_Reader_readNumber s_Reader_readName s_Reader_readString s_Reader_readQuoted s_Reader_readList s_Reader_fault) k_Reader_readDatum J K n) K 4 L S M := by rfl
theorem r_Reader_readDatum_5 {s_Tokens_sortOf : aS} {s_Reader_readNumber : aS} {s_Reader_readName : aS} {s_Reader_readString : aS} {s_Reader_readQuoted : aS} {s_Reader_readList : aS} {s_Reader_fault : aS} {J : aJ} {K : aR} {n : Nat} {L : aL} {S : List Value} {M : aM} : am_run (c_Reader_readDatum s_Tokens_sortOf s_Reader_readNumber s_Reader_readName s_Reader_readString s_Reader_readQuoted s_Reader_readList s_Reader_fault) k_Reader_readDatum J K (n + 1) 5 L S M = ai_getf 1 3 8 (am_run (c_Reader_readDatum s_Tokens_sortOf s_Reader_readNumber s_Reader_readName s_Reader_readString s_Reader_readQuoted s_Reader_readList s_Reader_fault) k_Reader_readDatum J K n) K 5 L S M := by rfl
theorem r_Reader_readDatum_8 {s_Tokens_sortOf : aS} {s_Reader_readNumber : aS} {s_Reader_readName : aS} {s_Reader_readString : aS} {s_Reader_readQuoted : aS} {s_Reader_readList : aS} {s_Reader_fault : aS} {J : aJ} {K : aR} {n : Nat} {L : aL} {S : List Value} {M : aM} : am_run (c_Reader_readDatum s_Tokens_sortOf s_Reader_readNumber s_Reader_readName s_Reader_readString s_Reader_readQuoted s_Reader_readList s_Reader_fault) k_Reader_readDatum J K (n + 1) 8 L S M = ai_callv2 3 s_Tokens_sortOf 11 (am_run (c_Reader_readDatum s_Tokens_sortOf s_Reader_readNumber s_Reader_readName s_Reader_readString s_Reader_readQuoted s_Reader_readList s_Reader_fault) k_Reader_readDatum J K n) K 8 L S M := by rfl
theorem r_Reader_readDatum_11 {s_Tokens_sortOf : aS} {s_Reader_readNumber : aS} {s_Reader_readName : aS} {s_Reader_readString : aS} {s_Reader_readQuoted : aS} {s_Reader_readList : aS} {s_Reader_fault : aS} {J : aJ} {K : aR} {n : Nat} {L : aL} {S : List Value} {M : aM} : am_run (c_Reader_readDatum s_Tokens_sortOf s_Reader_readNumber s_Reader_readName s_Reader_readString s_Reader_readQuoted s_Reader_readList s_Reader_fault) k_Reader_readDatum J K (n + 1) 11 L S M = ai_switch [(1, 56), (2, 61), (3, 66), (4, 83), (5, 83), (6, 77), (7, 83), (8, 71)] 83 (am_run (c_Reader_readDatum s_Tokens_sortOf s_Reader_readNumber s_Reader_readName s_Reader_readString s_Reader_readQuoted s_Reader_readList s_Reader_fault) k_Reader_readDatum J K n) K 11 L S M := by rfl
theorem r_Reader_readDatum_56 {s_Tokens_sortOf : aS} {s_Reader_readNumber : aS} {s_Reader_readName : aS} {s_Reader_readString : aS} {s_Reader_readQuoted : aS} {s_Reader_readList : aS} {s_Reader_fault : aS} {J : aJ} {K : aR} {n : Nat} {L : aL} {S : List Value} {M : aM} : am_run (c_Reader_readDatum s_Tokens_sortOf s_Reader_readNumber s_Reader_readName s_Reader_readString s_Reader_readQuoted s_Reader_readList s_Reader_fault) k_Reader_readDatum J K (n + 1) 56 L S M = ai_aload 0 57 (am_run (c_Reader_readDatum s_Tokens_sortOf s_Reader_readNumber s_Reader_readName s_Reader_readString s_Reader_readQuoted s_Reader_readList s_Reader_fault) k_Reader_readDatum J K n) K 56 L S M := by rfl
theorem r_Reader_readDatum_57 {s_Tokens_sortOf : aS} {s_Reader_readNumber : aS} {s_Reader_readName : aS} {s_Reader_readString : aS} {s_Reader_readQuoted : aS} {s_Reader_readList : aS} {s_Reader_fault : aS} {J : aJ} {K : aR} {n : Nat} {L : aL} {S : List Value} {M : aM} : am_run (c_Reader_readDatum s_Tokens_sortOf s_Reader_readNumber s_Reader_readName s_Reader_readString s_Reader_readQuoted s_Reader_readList s_Reader_fault) k_Reader_readDatum J K (n + 1) 57 L S M = ai_callv1 1 s_Reader_readNumber 60 (am_run (c_Reader_readDatum s_Tokens_sortOf s_Reader_readNumber s_Reader_readName s_Reader_readString s_Reader_readQuoted s_Reader_readList s_Reader_fault) k_Reader_readDatum J K n) K 57 L S M := by rfl
theorem r_Reader_readDatum_60 {s_Tokens_sortOf : aS} {s_Reader_readNumber : aS} {s_Reader_readName : aS} {s_Reader_readString : aS} {s_Reader_readQuoted : aS} {s_Reader_readList : aS} {s_Reader_fault : aS} {J : aJ} {K : aR} {n : Nat} {L : aL} {S : List Value} {M : aM} : am_run (c_Reader_readDatum s_Tokens_sortOf s_Reader_readNumber s_Reader_readName s_Reader_readString s_Reader_readQuoted s_Reader_readList s_Reader_fault) k_Reader_readDatum J K (n + 1) 60 L S M = ai_iret (am_run (c_Reader_readDatum s_Tokens_sortOf s_Reader_readNumber s_Reader_readName s_Reader_readString s_Reader_readQuoted s_Reader_readList s_Reader_fault) k_Reader_readDatum J K n) K 60 L S M := by rfl
theorem r_Reader_readDatum_61 {s_Tokens_sortOf : aS} {s_Reader_readNumber : aS} {s_Reader_readName : aS} {s_Reader_readString : aS} {s_Reader_readQuoted : aS} {s_Reader_readList : aS} {s_Reader_fault : aS} {J : aJ} {K : aR} {n : Nat} {L : aL} {S : List Value} {M : aM} : am_run (c_Reader_readDatum s_Tokens_sortOf s_Reader_readNumber s_Reader_readName s_Reader_readString s_Reader_readQuoted s_Reader_readList s_Reader_fault) k_Reader_readDatum J K (n + 1) 61 L S M = ai_aload 0 62 (am_run (c_Reader_readDatum s_Tokens_sortOf s_Reader_readNumber s_Reader_readName s_Reader_readString s_Reader_readQuoted s_Reader_readList s_Reader_fault) k_Reader_readDatum J K n) K 61 L S M := by rfl
theorem r_Reader_readDatum_62 {s_Tokens_sortOf : aS} {s_Reader_readNumber : aS} {s_Reader_readName : aS} {s_Reader_readString : aS} {s_Reader_readQuoted : aS} {s_Reader_readList : aS} {s_Reader_fault : aS} {J : aJ} {K : aR} {n : Nat} {L : aL} {S : List Value} {M : aM} : am_run (c_Reader_readDatum s_Tokens_sortOf s_Reader_readNumber s_Reader_readName s_Reader_readString s_Reader_readQuoted s_Reader_readList s_Reader_fault) k_Reader_readDatum J K (n + 1) 62 L S M = ai_callv1 1 s_Reader_readName 65 (am_run (c_Reader_readDatum s_Tokens_sortOf s_Reader_readNumber s_Reader_readName s_Reader_readString s_Reader_readQuoted s_Reader_readList s_Reader_fault) k_Reader_readDatum J K n) K 62 L S M := by rfl
theorem r_Reader_readDatum_65 {s_Tokens_sortOf : aS} {s_Reader_readNumber : aS} {s_Reader_readName : aS} {s_Reader_readString : aS} {s_Reader_readQuoted : aS} {s_Reader_readList : aS} {s_Reader_fault : aS} {J : aJ} {K : aR} {n : Nat} {L : aL} {S : List Value} {M : aM} : am_run (c_Reader_readDatum s_Tokens_sortOf s_Reader_readNumber s_Reader_readName s_Reader_readString s_Reader_readQuoted s_Reader_readList s_Reader_fault) k_Reader_readDatum J K (n + 1) 65 L S M = ai_iret (am_run (c_Reader_readDatum s_Tokens_sortOf s_Reader_readNumber s_Reader_readName s_Reader_readString s_Reader_readQuoted s_Reader_readList s_Reader_fault) k_Reader_readDatum J K n) K 65 L S M := by rfl
theorem r_Reader_readDatum_66 {s_Tokens_sortOf : aS} {s_Reader_readNumber : aS} {s_Reader_readName : aS} {s_Reader_readString : aS} {s_Reader_readQuoted : aS} {s_Reader_readList : aS} {s_Reader_fault : aS} {J : aJ} {K : aR} {n : Nat} {L : aL} {S : List Value} {M : aM} : am_run (c_Reader_readDatum s_Tokens_sortOf s_Reader_readNumber s_Reader_readName s_Reader_readString s_Reader_readQuoted s_Reader_readList s_Reader_fault) k_Reader_readDatum J K (n + 1) 66 L S M = ai_aload 0 67 (am_run (c_Reader_readDatum s_Tokens_sortOf s_Reader_readNumber s_Reader_readName s_Reader_readString s_Reader_readQuoted s_Reader_readList s_Reader_fault) k_Reader_readDatum J K n) K 66 L S M := by rfl
theorem r_Reader_readDatum_67 {s_Tokens_sortOf : aS} {s_Reader_readNumber : aS} {s_Reader_readName : aS} {s_Reader_readString : aS} {s_Reader_readQuoted : aS} {s_Reader_readList : aS} {s_Reader_fault : aS} {J : aJ} {K : aR} {n : Nat} {L : aL} {S : List Value} {M : aM} : am_run (c_Reader_readDatum s_Tokens_sortOf s_Reader_readNumber s_Reader_readName s_Reader_readString s_Reader_readQuoted s_Reader_readList s_Reader_fault) k_Reader_readDatum J K (n + 1) 67 L S M = ai_callv1 1 s_Reader_readString 70 (am_run (c_Reader_readDatum s_Tokens_sortOf s_Reader_readNumber s_Reader_readName s_Reader_readString s_Reader_readQuoted s_Reader_readList s_Reader_fault) k_Reader_readDatum J K n) K 67 L S M := by rfl
theorem r_Reader_readDatum_70 {s_Tokens_sortOf : aS} {s_Reader_readNumber : aS} {s_Reader_readName : aS} {s_Reader_readString : aS} {s_Reader_readQuoted : aS} {s_Reader_readList : aS} {s_Reader_fault : aS} {J : aJ} {K : aR} {n : Nat} {L : aL} {S : List Value} {M : aM} : am_run (c_Reader_readDatum s_Tokens_sortOf s_Reader_readNumber s_Reader_readName s_Reader_readString s_Reader_readQuoted s_Reader_readList s_Reader_fault) k_Reader_readDatum J K (n + 1) 70 L S M = ai_iret (am_run (c_Reader_readDatum s_Tokens_sortOf s_Reader_readNumber s_Reader_readName s_Reader_readString s_Reader_readQuoted s_Reader_readList s_Reader_fault) k_Reader_readDatum J K n) K 70 L S M := by rfl
theorem r_Reader_readDatum_71 {s_Tokens_sortOf : aS} {s_Reader_readNumber : aS} {s_Reader_readName : aS} {s_Reader_readString : aS} {s_Reader_readQuoted : aS} {s_Reader_readList : aS} {s_Reader_fault : aS} {J : aJ} {K : aR} {n : Nat} {L : aL} {S : List Value} {M : aM} : am_run (c_Reader_readDatum s_Tokens_sortOf s_Reader_readNumber s_Reader_readName s_Reader_readString s_Reader_readQuoted s_Reader_readList s_Reader_fault) k_Reader_readDatum J K (n + 1) 71 L S M = ai_aload 0 72 (am_run (c_Reader_readDatum s_Tokens_sortOf s_Reader_readNumber s_Reader_readName s_Reader_readString s_Reader_readQuoted s_Reader_readList s_Reader_fault) k_Reader_readDatum J K n) K 71 L S M := by rfl
theorem r_Reader_readDatum_72 {s_Tokens_sortOf : aS} {s_Reader_readNumber : aS} {s_Reader_readName : aS} {s_Reader_readString : aS} {s_Reader_readQuoted : aS} {s_Reader_readList : aS} {s_Reader_fault : aS} {J : aJ} {K : aR} {n : Nat} {L : aL} {S : List Value} {M : aM} : am_run (c_Reader_readDatum s_Tokens_sortOf s_Reader_readNumber s_Reader_readName s_Reader_readString s_Reader_readQuoted s_Reader_readList s_Reader_fault) k_Reader_readDatum J K (n + 1) 72 L S M = ai_iload 1 73 (am_run (c_Reader_readDatum s_Tokens_sortOf s_Reader_readNumber s_Reader_readName s_Reader_readString s_Reader_readQuoted s_Reader_readList s_Reader_fault) k_Reader_readDatum J K n) K 72 L S M := by rfl
theorem r_Reader_readDatum_73 {s_Tokens_sortOf : aS} {s_Reader_readNumber : aS} {s_Reader_readName : aS} {s_Reader_readString : aS} {s_Reader_readQuoted : aS} {s_Reader_readList : aS} {s_Reader_fault : aS} {J : aJ} {K : aR} {n : Nat} {L : aL} {S : List Value} {M : aM} : am_run (c_Reader_readDatum s_Tokens_sortOf s_Reader_readNumber s_Reader_readName s_Reader_readString s_Reader_readQuoted s_Reader_readList s_Reader_fault) k_Reader_readDatum J K (n + 1) 73 L S M = ai_callv2 1 s_Reader_readQuoted 76 (am_run (c_Reader_readDatum s_Tokens_sortOf s_Reader_readNumber s_Reader_readName s_Reader_readString s_Reader_readQuoted s_Reader_readList s_Reader_fault) k_Reader_readDatum J K n) K 73 L S M := by rfl
theorem r_Reader_readDatum_76 {s_Tokens_sortOf : aS} {s_Reader_readNumber : aS} {s_Reader_readName : aS} {s_Reader_readString : aS} {s_Reader_readQuoted : aS} {s_Reader_readList : aS} {s_Reader_fault : aS} {J : aJ} {K : aR} {n : Nat} {L : aL} {S : List Value} {M : aM} : am_run (c_Reader_readDatum s_Tokens_sortOf s_Reader_readNumber s_Reader_readName s_Reader_readString s_Reader_readQuoted s_Reader_readList s_Reader_fault) k_Reader_readDatum J K (n + 1) 76 L S M = ai_iret (am_run (c_Reader_readDatum s_Tokens_sortOf s_Reader_readNumber s_Reader_readName s_Reader_readString s_Reader_readQuoted s_Reader_readList s_Reader_fault) k_Reader_readDatum J K n) K 76 L S M := by rfl
theorem r_Reader_readDatum_77 {s_Tokens_sortOf : aS} {s_Reader_readNumber : aS} {s_Reader_readName : aS} {s_Reader_readString : aS} {s_Reader_readQuoted : aS} {s_Reader_readList : aS} {s_Reader_fault : aS} {J : aJ} {K : aR} {n : Nat} {L : aL} {S : List Value} {M : aM} : am_run (c_Reader_readDatum s_Tokens_sortOf s_Reader_readNumber s_Reader_readName s_Reader_readString s_Reader_readQuoted s_Reader_readList s_Reader_fault) k_Reader_readDatum J K (n + 1) 77 L S M = ai_aload 0 78 (am_run (c_Reader_readDatum s_Tokens_sortOf s_Reader_readNumber s_Reader_readName s_Reader_readString s_Reader_readQuoted s_Reader_readList s_Reader_fault) k_Reader_readDatum J K n) K 77 L S M := by rfl
theorem r_Reader_readDatum_78 {s_Tokens_sortOf : aS} {s_Reader_readNumber : aS} {s_Reader_readName : aS} {s_Reader_readString : aS} {s_Reader_readQuoted : aS} {s_Reader_readList : aS} {s_Reader_fault : aS} {J : aJ} {K : aR} {n : Nat} {L : aL} {S : List Value} {M : aM} : am_run (c_Reader_readDatum s_Tokens_sortOf s_Reader_readNumber s_Reader_readName s_Reader_readString s_Reader_readQuoted s_Reader_readList s_Reader_fault) k_Reader_readDatum J K (n + 1) 78 L S M = ai_iload 1 79 (am_run (c_Reader_readDatum s_Tokens_sortOf s_Reader_readNumber s_Reader_readName s_Reader_readString s_Reader_readQuoted s_Reader_readList s_Reader_fault) k_Reader_readDatum J K n) K 78 L S M := by rfl
theorem r_Reader_readDatum_79 {s_Tokens_sortOf : aS} {s_Reader_readNumber : aS} {s_Reader_readName : aS} {s_Reader_readString : aS} {s_Reader_readQuoted : aS} {s_Reader_readList : aS} {s_Reader_fault : aS} {J : aJ} {K : aR} {n : Nat} {L : aL} {S : List Value} {M : aM} : am_run (c_Reader_readDatum s_Tokens_sortOf s_Reader_readNumber s_Reader_readName s_Reader_readString s_Reader_readQuoted s_Reader_readList s_Reader_fault) k_Reader_readDatum J K (n + 1) 79 L S M = ai_callv2 1 s_Reader_readList 82 (am_run (c_Reader_readDatum s_Tokens_sortOf s_Reader_readNumber s_Reader_readName s_Reader_readString s_Reader_readQuoted s_Reader_readList s_Reader_fault) k_Reader_readDatum J K n) K 79 L S M := by rfl
theorem r_Reader_readDatum_82 {s_Tokens_sortOf : aS} {s_Reader_readNumber : aS} {s_Reader_readName : aS} {s_Reader_readString : aS} {s_Reader_readQuoted : aS} {s_Reader_readList : aS} {s_Reader_fault : aS} {J : aJ} {K : aR} {n : Nat} {L : aL} {S : List Value} {M : aM} : am_run (c_Reader_readDatum s_Tokens_sortOf s_Reader_readNumber s_Reader_readName s_Reader_readString s_Reader_readQuoted s_Reader_readList s_Reader_fault) k_Reader_readDatum J K (n + 1) 82 L S M = ai_iret (am_run (c_Reader_readDatum s_Tokens_sortOf s_Reader_readNumber s_Reader_readName s_Reader_readString s_Reader_readQuoted s_Reader_readList s_Reader_fault) k_Reader_readDatum J K n) K 82 L S M := by rfl
theorem r_Reader_readDatum_83 {s_Tokens_sortOf : aS} {s_Reader_readNumber : aS} {s_Reader_readName : aS} {s_Reader_readString : aS} {s_Reader_readQuoted : aS} {s_Reader_readList : aS} {s_Reader_fault : aS} {J : aJ} {K : aR} {n : Nat} {L : aL} {S : List Value} {M : aM} : am_run (c_Reader_readDatum s_Tokens_sortOf s_Reader_readNumber s_Reader_readName s_Reader_readString s_Reader_readQuoted s_Reader_readList s_Reader_fault) k_Reader_readDatum J K (n + 1) 83 L S M = ai_aload 0 84 (am_run (c_Reader_readDatum s_Tokens_sortOf s_Reader_readNumber s_Reader_readName s_Reader_readString s_Reader_readQuoted s_Reader_readList s_Reader_fault) k_Reader_readDatum J K n) K 83 L S M := by rfl
theorem r_Reader_readDatum_84 {s_Tokens_sortOf : aS} {s_Reader_readNumber : aS} {s_Reader_readName : aS} {s_Reader_readString : aS} {s_Reader_readQuoted : aS} {s_Reader_readList : aS} {s_Reader_fault : aS} {J : aJ} {K : aR} {n : Nat} {L : aL} {S : List Value} {M : aM} : am_run (c_Reader_readDatum s_Tokens_sortOf s_Reader_readNumber s_Reader_readName s_Reader_readString s_Reader_readQuoted s_Reader_readList s_Reader_fault) k_Reader_readDatum J K (n + 1) 84 L S M = ai_callv1 1 s_Reader_fault 87 (am_run (c_Reader_readDatum s_Tokens_sortOf s_Reader_readNumber s_Reader_readName s_Reader_readString s_Reader_readQuoted s_Reader_readList s_Reader_fault) k_Reader_readDatum J K n) K 84 L S M := by rfl
theorem r_Reader_readDatum_87 {s_Tokens_sortOf : aS} {s_Reader_readNumber : aS} {s_Reader_readName : aS} {s_Reader_readString : aS} {s_Reader_readQuoted : aS} {s_Reader_readList : aS} {s_Reader_fault : aS} {J : aJ} {K : aR} {n : Nat} {L : aL} {S : List Value} {M : aM} : am_run (c_Reader_readDatum s_Tokens_sortOf s_Reader_readNumber s_Reader_readName s_Reader_readString s_Reader_readQuoted s_Reader_readList s_Reader_fault) k_Reader_readDatum J K (n + 1) 87 L S M = ai_iret (am_run (c_Reader_readDatum s_Tokens_sortOf s_Reader_readNumber s_Reader_readName s_Reader_readString s_Reader_readQuoted s_Reader_readList s_Reader_fault) k_Reader_readDatum J K n) K 87 L S M := by rfl
def c_Reader_readNumber (s_Tokens_endOf : aS) (s_Tokens_startOf : aS) (s_Text_at : aS) (s_Reader_add : aS) (s_Nodes_setAmount : aS) : List (Nat × aI) := [
  (0, ai_aload 0 1),
  (1, ai_getf 1 2 4),
  (4, ai_aload 0 5),
  (5, ai_getf 1 3 8),
  (8, ai_callv2 3 s_Tokens_endOf 11),
  (11, ai_istore 1 12),
  (12, ai_aload 0 13),
  (13, ai_getf 1 2 16),
  (16, ai_aload 0 17),
  (17, ai_getf 1 3 20),
  (20, ai_callv2 3 s_Tokens_startOf 23),
  (23, ai_istore 2 24),
  (24, ai_aload 0 25),
  (25, ai_getf 1 0 28),
  (28, ai_iload 2 29),
  (29, ai_callv2 2 s_Text_at 32),
  (32, ai_const 45 34),
  (34, ai_cmpne 41 37),
  (37, ai_const 1 38),
  (38, ai_goto 42),
  (41, ai_const 0 42),
  (42, ai_istore 3 43),
  (43, ai_const 0 44),
  (44, ai_istore 4 46),
  (46, ai_iload 3 47),
  (47, ai_ifeq 56 50),
  (50, ai_iload 2 51),
  (51, ai_const 1 52),
  (52, ai_iadd 53),
  (53, ai_goto 57),
  (56, ai_iload 2 57),
  (57, ai_istore 5 59),
  (59, ai_iload 5 61),
  (61, ai_iload 1 62),
  (62, ai_cmpge 91 65),
  (65, ai_iload 4 67),
  (67, ai_const 10 69),
  (69, ai_imul 70),
  (70, ai_aload 0 71),
  (71, ai_getf 1 0 74),
  (74, ai_iload 5 76),
  (76, ai_callv2 2 s_Text_at 79),
  (79, ai_const 48 81),
  (81, ai_isub 82),
  (82, ai_iadd 83),
  (83, ai_istore 4 85),
  (85, ai_iinc 5 1 88),
  (88, ai_goto 59),
  (91, ai_aload 0 92),
  (92, ai_const 1 93),
  (93, ai_callv2 1 s_Reader_add 96),
  (96, ai_istore 5 98),
  (98, ai_aload 0 99),
  (99, ai_getf 1 1 102),
  (102, ai_iload 5 104),
  (104, ai_iload 3 105),
  (105, ai_ifeq 114 108),
  (108, ai_iload 4 110),
  (110, ai_ineg 111),
  (111, ai_goto 116),
  (114, ai_iload 4 116),
  (116, ai_callv3 0 s_Nodes_setAmount 119),
  (119, ai_iload 5 121),
  (121, ai_iret)]
set_option maxRecDepth 100000 in
set_option maxHeartbeats 4000000 in
theorem tb_Reader_readNumber {G : aG} {d : Nat} {s_Tokens_endOf : aS} {d_Tokens_endOf : Nat} (h_Tokens_endOf : am_Sp G Y_Tokens_endOf d_Tokens_endOf s_Tokens_endOf) (l_Tokens_endOf : d_Tokens_endOf < d) {s_Tokens_startOf : aS} {d_Tokens_startOf : Nat} (h_Tokens_startOf : am_Sp G Y_Tokens_startOf d_Tokens_startOf s_Tokens_startOf) (l_Tokens_startOf : d_Tokens_startOf < d) {s_Text_at : aS} {d_Text_at : Nat} (h_Text_at : am_Sp G Y_Text_at d_Text_at s_Text_at) (l_Text_at : d_Text_at < d) {s_Reader_add : aS} {d_Reader_add : Nat} (h_Reader_add : am_Sp G Y_Reader_add d_Reader_add s_Reader_add) (l_Reader_add : d_Reader_add < d) {s_Nodes_setAmount : aS} {d_Nodes_setAmount : Nat} (h_Nodes_setAmount : am_Sp G Y_Nodes_setAmount d_Nodes_setAmount s_Nodes_setAmount) (l_Nodes_setAmount : d_Nodes_setAmount < d) : am_tab G Y_Reader_readNumber d (c_Reader_readNumber s_Tokens_endOf s_Tokens_startOf s_Text_at s_Reader_add s_Nodes_setAmount) := by
  intro K p e s m args below meth c C
  exact ⟨as_aload_n C (pc := 0) (q := 0) (by decide +kernel) rfl rfl,
    as_getf C (pc := 1) (T := T_Reader) (N := 5) rfl in_Reader (by decide) rfl w_178 (by decide +kernel) rfl,
    as_aload_n C (pc := 4) (q := 0) (by decide +kernel) rfl rfl,
    as_getf C (pc := 5) (T := T_Reader) (N := 5) rfl in_Reader (by decide) rfl w_179 (by decide +kernel) rfl,
    as_callv2N C (pc := 8) h_Tokens_endOf (T := T_Tokens) (N := 4) rfl w_316 w_75 w_315 w_15 w_313 hy_Tokens_endOf (am_rm_of l_Tokens_endOf (by decide)) (by decide +kernel) rfl,
    as_istore_n C (pc := 11) (q := 1) (by decide +kernel) rfl (by decide) rfl,
    as_aload_n C (pc := 12) (q := 0) (by decide +kernel) rfl rfl,
    as_getf C (pc := 13) (T := T_Reader) (N := 5) rfl in_Reader (by decide) rfl w_178 (by decide +kernel) rfl,
    as_aload_n C (pc := 16) (q := 0) (by decide +kernel) rfl rfl,
    as_getf C (pc := 17) (T := T_Reader) (N := 5) rfl in_Reader (by decide) rfl w_179 (by decide +kernel) rfl,
    as_callv2N C (pc := 20) h_Tokens_startOf (T := T_Tokens) (N := 4) rfl w_320 w_75 w_319 w_16 w_317 hy_Tokens_startOf (am_rm_of l_Tokens_startOf (by decide)) (by decide +kernel) rfl,
    as_istore_n C (pc := 23) (q := 2) (by decide +kernel) rfl (by decide) rfl,
    as_aload_n C (pc := 24) (q := 0) (by decide +kernel) rfl rfl,
    as_getf C (pc := 25) (T := T_Reader) (N := 5) rfl in_Reader (by decide) rfl w_176 (by decide +kernel) rfl,
    as_iload_n C (pc := 28) (q := 2) (by decide +kernel) rfl rfl,
    as_callv2N C (pc := 29) h_Text_at (T := T_Text) (N := 2) rfl w_270 w_71 w_269 w_5 w_321 hy_Text_at (am_rm_of l_Text_at (by decide)) (by decide +kernel) rfl,
    as_bipush C (pc := 32) (n := 45) (by decide +kernel) (by decide +kernel) rfl,
    as_cmpne C (pc := 34) (off := 7) (by decide +kernel) (by decide) rfl,
    as_iconst C (pc := 37) (n := 1) (by decide +kernel) (by decide +kernel) rfl,
    as_goto C (pc := 38) (off := 4) (by decide +kernel) (by decide),
    as_iconst C (pc := 41) (n := 0) (by decide +kernel) (by decide +kernel) rfl,
    as_istore_n C (pc := 42) (q := 3) (by decide +kernel) rfl (by decide) rfl,
    as_iconst C (pc := 43) (n := 0) (by decide +kernel) (by decide +kernel) rfl,
    as_istore C (pc := 44) (k := 4) (by decide +kernel) (by decide) rfl,
    as_iload_n C (pc := 46) (q := 3) (by decide +kernel) rfl rfl,
    as_ifeq C (pc := 47) (off := 9) (by decide +kernel) (by decide) rfl,
    as_iload_n C (pc := 50) (q := 2) (by decide +kernel) rfl rfl,
    as_iconst C (pc := 51) (n := 1) (by decide +kernel) (by decide +kernel) rfl,
    as_iadd C (pc := 52) (by decide +kernel) rfl,
    as_goto C (pc := 53) (off := 4) (by decide +kernel) (by decide),
    as_iload_n C (pc := 56) (q := 2) (by decide +kernel) rfl rfl,
    as_istore C (pc := 57) (k := 5) (by decide +kernel) (by decide) rfl,
    as_iload C (pc := 59) (k := 5) (by decide +kernel) rfl,
    as_iload_n C (pc := 61) (q := 1) (by decide +kernel) rfl rfl,
    as_cmpge C (pc := 62) (off := 29) (by decide +kernel) (by decide) rfl,
    as_iload C (pc := 65) (k := 4) (by decide +kernel) rfl,
    as_bipush C (pc := 67) (n := 10) (by decide +kernel) (by decide +kernel) rfl,
    as_imul C (pc := 69) (by decide +kernel) rfl,
    as_aload_n C (pc := 70) (q := 0) (by decide +kernel) rfl rfl,
    as_getf C (pc := 71) (T := T_Reader) (N := 5) rfl in_Reader (by decide) rfl w_176 (by decide +kernel) rfl,
    as_iload C (pc := 74) (k := 5) (by decide +kernel) rfl,
    as_callv2N C (pc := 76) h_Text_at (T := T_Text) (N := 2) rfl w_270 w_71 w_269 w_5 w_321 hy_Text_at (am_rm_of l_Text_at (by decide)) (by decide +kernel) rfl,
    as_bipush C (pc := 79) (n := 48) (by decide +kernel) (by decide +kernel) rfl,
    as_isub C (pc := 81) (by decide +kernel) rfl,
    as_iadd C (pc := 82) (by decide +kernel) rfl,
    as_istore C (pc := 83) (k := 4) (by decide +kernel) (by decide) rfl,
    as_iinc C (pc := 85) (k := 5) (n := 1) (by decide +kernel) (by decide +kernel) (by decide) rfl,
    as_goto C (pc := 88) (off := (-29)) (by decide +kernel) (by decide),
    as_aload_n C (pc := 91) (q := 0) (by decide +kernel) rfl rfl,
    as_iconst C (pc := 92) (n := 1) (by decide +kernel) (by decide +kernel) rfl,
    as_callv2 C (pc := 93) h_Reader_add (T := T_Reader) (N := 5) rfl w_325 w_74 w_324 w_17 w_322 hy_Reader_add (am_rm_of l_Reader_add (by decide)) (by decide +kernel) rfl,
    as_istore C (pc := 96) (k := 5) (by decide +kernel) (by decide) rfl,
    as_aload_n C (pc := 98) (q := 0) (by decide +kernel) rfl rfl,
    as_getf C (pc := 99) (T := T_Reader) (N := 5) rfl in_Reader (by decide) rfl w_177 (by decide +kernel) rfl,
    as_iload C (pc := 102) (k := 5) (by decide +kernel) rfl,
    as_iload_n C (pc := 104) (q := 3) (by decide +kernel) rfl rfl,
    as_ifeq C (pc := 105) (off := 9) (by decide +kernel) (by decide) rfl,
    as_iload C (pc := 108) (k := 4) (by decide +kernel) rfl,
    as_ineg C (pc := 110) (by decide +kernel) rfl,
    as_goto C (pc := 111) (off := 5) (by decide +kernel) (by decide),
    as_iload C (pc := 114) (k := 4) (by decide +kernel) rfl,
    as_callv3N C (pc := 116) h_Nodes_setAmount (T := T_Nodes) (N := 10) rfl w_337 w_72 w_336 w_20 w_334 hy_Nodes_setAmount (am_rm_of l_Nodes_setAmount (by decide)) (by decide +kernel) rfl,
    as_iload C (pc := 119) (k := 5) (by decide +kernel) rfl,
    as_iret C (pc := 121) rfl (by decide +kernel), trivial⟩
abbrev k_Reader_readNumber : List Nat := [59]
set_option maxRecDepth 20000 in
theorem q_Reader_readNumber_59 {s_Tokens_endOf : aS} {s_Tokens_startOf : aS} {s_Text_at : aS} {s_Reader_add : aS} {s_Nodes_setAmount : aS} : am_at (c_Reader_readNumber s_Tokens_endOf s_Tokens_startOf s_Text_at s_Reader_add s_Nodes_setAmount) 59 = ai_iload 5 61 := by rfl
set_option maxRecDepth 20000 in
theorem r_Reader_readNumber_0 {s_Tokens_endOf : aS} {s_Tokens_startOf : aS} {s_Text_at : aS} {s_Reader_add : aS} {s_Nodes_setAmount : aS} {J : aJ} {K : aR} {n : Nat} {L : aL} {S : List Value} {M : aM} : am_run (c_Reader_readNumber s_Tokens_endOf s_Tokens_startOf s_Text_at s_Reader_add s_Nodes_setAmount) k_Reader_readNumber J K (n + 1) 0 L S M = ai_aload 0 1 (am_run (c_Reader_readNumber s_Tokens_endOf s_Tokens_startOf s_Text_at s_Reader_add s_Nodes_setAmount) k_Reader_readNumber J K n) K 0 L S M := by rfl
set_option maxRecDepth 20000 in
theorem r_Reader_readNumber_1 {s_Tokens_endOf : aS} {s_Tokens_startOf : aS} {s_Text_at : aS} {s_Reader_add : aS} {s_Nodes_setAmount : aS} {J : aJ} {K : aR} {n : Nat} {L : aL} {S : List Value} {M : aM} : am_run (c_Reader_readNumber s_Tokens_endOf s_Tokens_startOf s_Text_at s_Reader_add s_Nodes_setAmount) k_Reader_readNumber J K (n + 1) 1 L S M = ai_getf 1 2 4 (am_run (c_Reader_readNumber s_Tokens_endOf s_Tokens_startOf s_Text_at s_Reader_add s_Nodes_setAmount) k_Reader_readNumber J K n) K 1 L S M := by rfl
set_option maxRecDepth 20000 in
theorem r_Reader_readNumber_4 {s_Tokens_endOf : aS} {s_Tokens_startOf : aS} {s_Text_at : aS} {s_Reader_add : aS} {s_Nodes_setAmount : aS} {J : aJ} {K : aR} {n : Nat} {L : aL} {S : List Value} {M : aM} : am_run (c_Reader_readNumber s_Tokens_endOf s_Tokens_startOf s_Text_at s_Reader_add s_Nodes_setAmount) k_Reader_readNumber J K (n + 1) 4 L S M = ai_aload 0 5 (am_run (c_Reader_readNumber s_Tokens_endOf s_Tokens_startOf s_Text_at s_Reader_add s_Nodes_setAmount) k_Reader_readNumber J K n) K 4 L S M := by rfl
set_option maxRecDepth 20000 in
theorem r_Reader_readNumber_5 {s_Tokens_endOf : aS} {s_Tokens_startOf : aS} {s_Text_at : aS} {s_Reader_add : aS} {s_Nodes_setAmount : aS} {J : aJ} {K : aR} {n : Nat} {L : aL} {S : List Value} {M : aM} : am_run (c_Reader_readNumber s_Tokens_endOf s_Tokens_startOf s_Text_at s_Reader_add s_Nodes_setAmount) k_Reader_readNumber J K (n + 1) 5 L S M = ai_getf 1 3 8 (am_run (c_Reader_readNumber s_Tokens_endOf s_Tokens_startOf s_Text_at s_Reader_add s_Nodes_setAmount) k_Reader_readNumber J K n) K 5 L S M := by rfl
set_option maxRecDepth 20000 in
theorem r_Reader_readNumber_8 {s_Tokens_endOf : aS} {s_Tokens_startOf : aS} {s_Text_at : aS} {s_Reader_add : aS} {s_Nodes_setAmount : aS} {J : aJ} {K : aR} {n : Nat} {L : aL} {S : List Value} {M : aM} : am_run (c_Reader_readNumber s_Tokens_endOf s_Tokens_startOf s_Text_at s_Reader_add s_Nodes_setAmount) k_Reader_readNumber J K (n + 1) 8 L S M = ai_callv2 3 s_Tokens_endOf 11 (am_run (c_Reader_readNumber s_Tokens_endOf s_Tokens_startOf s_Text_at s_Reader_add s_Nodes_setAmount) k_Reader_readNumber J K n) K 8 L S M := by rfl
set_option maxRecDepth 20000 in
theorem r_Reader_readNumber_11 {s_Tokens_endOf : aS} {s_Tokens_startOf : aS} {s_Text_at : aS} {s_Reader_add : aS} {s_Nodes_setAmount : aS} {J : aJ} {K : aR} {n : Nat} {L : aL} {S : List Value} {M : aM} : am_run (c_Reader_readNumber s_Tokens_endOf s_Tokens_startOf s_Text_at s_Reader_add s_Nodes_setAmount) k_Reader_readNumber J K (n + 1) 11 L S M = ai_istore 1 12 (am_run (c_Reader_readNumber s_Tokens_endOf s_Tokens_startOf s_Text_at s_Reader_add s_Nodes_setAmount) k_Reader_readNumber J K n) K 11 L S M := by rfl
set_option maxRecDepth 20000 in
theorem r_Reader_readNumber_12 {s_Tokens_endOf : aS} {s_Tokens_startOf : aS} {s_Text_at : aS} {s_Reader_add : aS} {s_Nodes_setAmount : aS} {J : aJ} {K : aR} {n : Nat} {L : aL} {S : List Value} {M : aM} : am_run (c_Reader_readNumber s_Tokens_endOf s_Tokens_startOf s_Text_at s_Reader_add s_Nodes_setAmount) k_Reader_readNumber J K (n + 1) 12 L S M = ai_aload 0 13 (am_run (c_Reader_readNumber s_Tokens_endOf s_Tokens_startOf s_Text_at s_Reader_add s_Nodes_setAmount) k_Reader_readNumber J K n) K 12 L S M := by rfl
set_option maxRecDepth 20000 in
theorem r_Reader_readNumber_13 {s_Tokens_endOf : aS} {s_Tokens_startOf : aS} {s_Text_at : aS} {s_Reader_add : aS} {s_Nodes_setAmount : aS} {J : aJ} {K : aR} {n : Nat} {L : aL} {S : List Value} {M : aM} : am_run (c_Reader_readNumber s_Tokens_endOf s_Tokens_startOf s_Text_at s_Reader_add s_Nodes_setAmount) k_Reader_readNumber J K (n + 1) 13 L S M = ai_getf 1 2 16 (am_run (c_Reader_readNumber s_Tokens_endOf s_Tokens_startOf s_Text_at s_Reader_add s_Nodes_setAmount) k_Reader_readNumber J K n) K 13 L S M := by rfl
set_option maxRecDepth 20000 in
theorem r_Reader_readNumber_16 {s_Tokens_endOf : aS} {s_Tokens_startOf : aS} {s_Text_at : aS} {s_Reader_add : aS} {s_Nodes_setAmount : aS} {J : aJ} {K : aR} {n : Nat} {L : aL} {S : List Value} {M : aM} : am_run (c_Reader_readNumber s_Tokens_endOf s_Tokens_startOf s_Text_at s_Reader_add s_Nodes_setAmount) k_Reader_readNumber J K (n + 1) 16 L S M = ai_aload 0 17 (am_run (c_Reader_readNumber s_Tokens_endOf s_Tokens_startOf s_Text_at s_Reader_add s_Nodes_setAmount) k_Reader_readNumber J K n) K 16 L S M := by rfl
set_option maxRecDepth 20000 in
theorem r_Reader_readNumber_17 {s_Tokens_endOf : aS} {s_Tokens_startOf : aS} {s_Text_at : aS} {s_Reader_add : aS} {s_Nodes_setAmount : aS} {J : aJ} {K : aR} {n : Nat} {L : aL} {S : List Value} {M : aM} : am_run (c_Reader_readNumber s_Tokens_endOf s_Tokens_startOf s_Text_at s_Reader_add s_Nodes_setAmount) k_Reader_readNumber J K (n + 1) 17 L S M = ai_getf 1 3 20 (am_run (c_Reader_readNumber s_Tokens_endOf s_Tokens_startOf s_Text_at s_Reader_add s_Nodes_setAmount) k_Reader_readNumber J K n) K 17 L S M := by rfl
set_option maxRecDepth 20000 in
theorem r_Reader_readNumber_20 {s_Tokens_endOf : aS} {s_Tokens_startOf : aS} {s_Text_at : aS} {s_Reader_add : aS} {s_Nodes_setAmount : aS} {J : aJ} {K : aR} {n : Nat} {L : aL} {S : List Value} {M : aM} : am_run (c_Reader_readNumber s_Tokens_endOf s_Tokens_startOf s_Text_at s_Reader_add s_Nodes_setAmount) k_Reader_readNumber J K (n + 1) 20 L S M = ai_callv2 3 s_Tokens_startOf 23 (am_run (c_Reader_readNumber s_Tokens_endOf s_Tokens_startOf s_Text_at s_Reader_add s_Nodes_setAmount) k_Reader_readNumber J K n) K 20 L S M := by rfl
set_option maxRecDepth 20000 in
theorem r_Reader_readNumber_23 {s_Tokens_endOf : aS} {s_Tokens_startOf : aS} {s_Text_at : aS} {s_Reader_add : aS} {s_Nodes_setAmount : aS} {J : aJ} {K : aR} {n : Nat} {L : aL} {S : List Value} {M : aM} : am_run (c_Reader_readNumber s_Tokens_endOf s_Tokens_startOf s_Text_at s_Reader_add s_Nodes_setAmount) k_Reader_readNumber J K (n + 1) 23 L S M = ai_istore 2 24 (am_run (c_Reader_readNumber s_Tokens_endOf s_Tokens_startOf s_Text_at s_Reader_add s_Nodes_setAmount) k_Reader_readNumber J K n) K 23 L S M := by rfl
set_option maxRecDepth 20000 in
theorem r_Reader_readNumber_24 {s_Tokens_endOf : aS} {s_Tokens_startOf : aS} {s_Text_at : aS} {s_Reader_add : aS} {s_Nodes_setAmount : aS} {J : aJ} {K : aR} {n : Nat} {L : aL} {S : List Value} {M : aM} : am_run (c_Reader_readNumber s_Tokens_endOf s_Tokens_startOf s_Text_at s_Reader_add s_Nodes_setAmount) k_Reader_readNumber J K (n + 1) 24 L S M = ai_aload 0 25 (am_run (c_Reader_readNumber s_Tokens_endOf s_Tokens_startOf s_Text_at s_Reader_add s_Nodes_setAmount) k_Reader_readNumber J K n) K 24 L S M := by rfl
set_option maxRecDepth 20000 in
theorem r_Reader_readNumber_25 {s_Tokens_endOf : aS} {s_Tokens_startOf : aS} {s_Text_at : aS} {s_Reader_add : aS} {s_Nodes_setAmount : aS} {J : aJ} {K : aR} {n : Nat} {L : aL} {S : List Value} {M : aM} : am_run (c_Reader_readNumber s_Tokens_endOf s_Tokens_startOf s_Text_at s_Reader_add s_Nodes_setAmount) k_Reader_readNumber J K (n + 1) 25 L S M = ai_getf 1 0 28 (am_run (c_Reader_readNumber s_Tokens_endOf s_Tokens_startOf s_Text_at s_Reader_add s_Nodes_setAmount) k_Reader_readNumber J K n) K 25 L S M := by rfl
set_option maxRecDepth 20000 in
theorem r_Reader_readNumber_28 {s_Tokens_endOf : aS} {s_Tokens_startOf : aS} {s_Text_at : aS} {s_Reader_add : aS} {s_Nodes_setAmount : aS} {J : aJ} {K : aR} {n : Nat} {L : aL} {S : List Value} {M : aM} : am_run (c_Reader_readNumber s_Tokens_endOf s_Tokens_startOf s_Text_at s_Reader_add s_Nodes_setAmount) k_Reader_readNumber J K (n + 1) 28 L S M = ai_iload 2 29 (am_run (c_Reader_readNumber s_Tokens_endOf s_Tokens_startOf s_Text_at s_Reader_add s_Nodes_setAmount) k_Reader_readNumber J K n) K 28 L S M := by rfl
set_option maxRecDepth 20000 in
theorem r_Reader_readNumber_29 {s_Tokens_endOf : aS} {s_Tokens_startOf : aS} {s_Text_at : aS} {s_Reader_add : aS} {s_Nodes_setAmount : aS} {J : aJ} {K : aR} {n : Nat} {L : aL} {S : List Value} {M : aM} : am_run (c_Reader_readNumber s_Tokens_endOf s_Tokens_startOf s_Text_at s_Reader_add s_Nodes_setAmount) k_Reader_readNumber J K (n + 1) 29 L S M = ai_callv2 2 s_Text_at 32 (am_run (c_Reader_readNumber s_Tokens_endOf s_Tokens_startOf s_Text_at s_Reader_add s_Nodes_setAmount) k_Reader_readNumber J K n) K 29 L S M := by rfl
set_option maxRecDepth 20000 in
theorem r_Reader_readNumber_32 {s_Tokens_endOf : aS} {s_Tokens_startOf : aS} {s_Text_at : aS} {s_Reader_add : aS} {s_Nodes_setAmount : aS} {J : aJ} {K : aR} {n : Nat} {L : aL} {S : List Value} {M : aM} : am_run (c_Reader_readNumber s_Tokens_endOf s_Tokens_startOf s_Text_at s_Reader_add s_Nodes_setAmount) k_Reader_readNumber J K (n + 1) 32 L S M = ai_const 45 34 (am_run (c_Reader_readNumber s_Tokens_endOf s_Tokens_startOf s_Text_at s_Reader_add s_Nodes_setAmount) k_Reader_readNumber J K n) K 32 L S M := by rfl
set_option maxRecDepth 20000 in
theorem r_Reader_readNumber_34 {s_Tokens_endOf : aS} {s_Tokens_startOf : aS} {s_Text_at : aS} {s_Reader_add : aS} {s_Nodes_setAmount : aS} {J : aJ} {K : aR} {n : Nat} {L : aL} {S : List Value} {M : aM} : am_run (c_Reader_readNumber s_Tokens_endOf s_Tokens_startOf s_Text_at s_Reader_add s_Nodes_setAmount) k_Reader_readNumber J K (n + 1) 34 L S M = ai_cmpne 41 37 (am_run (c_Reader_readNumber s_Tokens_endOf s_Tokens_startOf s_Text_at s_Reader_add s_Nodes_setAmount) k_Reader_readNumber J K n) K 34 L S M := by rfl
set_option maxRecDepth 20000 in
theorem r_Reader_readNumber_37 {s_Tokens_endOf : aS} {s_Tokens_startOf : aS} {s_Text_at : aS} {s_Reader_add : aS} {s_Nodes_setAmount : aS} {J : aJ} {K : aR} {n : Nat} {L : aL} {S : List Value} {M : aM} : am_run (c_Reader_readNumber s_Tokens_endOf s_Tokens_startOf s_Text_at s_Reader_add s_Nodes_setAmount) k_Reader_readNumber J K (n + 1) 37 L S M = ai_const 1 38 (am_run (c_Reader_readNumber s_Tokens_endOf s_Tokens_startOf s_Text_at s_Reader_add s_Nodes_setAmount) k_Reader_readNumber J K n) K 37 L S M := by rfl
set_option maxRecDepth 20000 in
theorem r_Reader_readNumber_38 {s_Tokens_endOf : aS} {s_Tokens_startOf : aS} {s_Text_at : aS} {s_Reader_add : aS} {s_Nodes_setAmount : aS} {J : aJ} {K : aR} {n : Nat} {L : aL} {S : List Value} {M : aM} : am_run (c_Reader_readNumber s_Tokens_endOf s_Tokens_startOf s_Text_at s_Reader_add s_Nodes_setAmount) k_Reader_readNumber J K (n + 1) 38 L S M = ai_goto 42 (am_run (c_Reader_readNumber s_Tokens_endOf s_Tokens_startOf s_Text_at s_Reader_add s_Nodes_setAmount) k_Reader_readNumber J K n) K 38 L S M := by rfl
set_option maxRecDepth 20000 in
theorem r_Reader_readNumber_41 {s_Tokens_endOf : aS} {s_Tokens_startOf : aS} {s_Text_at : aS} {s_Reader_add : aS} {s_Nodes_setAmount : aS} {J : aJ} {K : aR} {n : Nat} {L : aL} {S : List Value} {M : aM} : am_run (c_Reader_readNumber s_Tokens_endOf s_Tokens_startOf s_Text_at s_Reader_add s_Nodes_setAmount) k_Reader_readNumber J K (n + 1) 41 L S M = ai_const 0 42 (am_run (c_Reader_readNumber s_Tokens_endOf s_Tokens_startOf s_Text_at s_Reader_add s_Nodes_setAmount) k_Reader_readNumber J K n) K 41 L S M := by rfl
set_option maxRecDepth 20000 in
theorem r_Reader_readNumber_42 {s_Tokens_endOf : aS} {s_Tokens_startOf : aS} {s_Text_at : aS} {s_Reader_add : aS} {s_Nodes_setAmount : aS} {J : aJ} {K : aR} {n : Nat} {L : aL} {S : List Value} {M : aM} : am_run (c_Reader_readNumber s_Tokens_endOf s_Tokens_startOf s_Text_at s_Reader_add s_Nodes_setAmount) k_Reader_readNumber J K (n + 1) 42 L S M = ai_istore 3 43 (am_run (c_Reader_readNumber s_Tokens_endOf s_Tokens_startOf s_Text_at s_Reader_add s_Nodes_setAmount) k_Reader_readNumber J K n) K 42 L S M := by rfl
set_option maxRecDepth 20000 in
theorem r_Reader_readNumber_43 {s_Tokens_endOf : aS} {s_Tokens_startOf : aS} {s_Text_at : aS} {s_Reader_add : aS} {s_Nodes_setAmount : aS} {J : aJ} {K : aR} {n : Nat} {L : aL} {S : List Value} {M : aM} : am_run (c_Reader_readNumber s_Tokens_endOf s_Tokens_startOf s_Text_at s_Reader_add s_Nodes_setAmount) k_Reader_readNumber J K (n + 1) 43 L S M = ai_const 0 44 (am_run (c_Reader_readNumber s_Tokens_endOf s_Tokens_startOf s_Text_at s_Reader_add s_Nodes_setAmount) k_Reader_readNumber J K n) K 43 L S M := by rfl
set_option maxRecDepth 20000 in
theorem r_Reader_readNumber_44 {s_Tokens_endOf : aS} {s_Tokens_startOf : aS} {s_Text_at : aS} {s_Reader_add : aS} {s_Nodes_setAmount : aS} {J : aJ} {K : aR} {n : Nat} {L : aL} {S : List Value} {M : aM} : am_run (c_Reader_readNumber s_Tokens_endOf s_Tokens_startOf s_Text_at s_Reader_add s_Nodes_setAmount) k_Reader_readNumber J K (n + 1) 44 L S M = ai_istore 4 46 (am_run (c_Reader_readNumber s_Tokens_endOf s_Tokens_startOf s_Text_at s_Reader_add s_Nodes_setAmount) k_Reader_readNumber J K n) K 44 L S M := by rfl
set_option maxRecDepth 20000 in
theorem r_Reader_readNumber_46 {s_Tokens_endOf : aS} {s_Tokens_startOf : aS} {s_Text_at : aS} {s_Reader_add : aS} {s_Nodes_setAmount : aS} {J : aJ} {K : aR} {n : Nat} {L : aL} {S : List Value} {M : aM} : am_run (c_Reader_readNumber s_Tokens_endOf s_Tokens_startOf s_Text_at s_Reader_add s_Nodes_setAmount) k_Reader_readNumber J K (n + 1) 46 L S M = ai_iload 3 47 (am_run (c_Reader_readNumber s_Tokens_endOf s_Tokens_startOf s_Text_at s_Reader_add s_Nodes_setAmount) k_Reader_readNumber J K n) K 46 L S M := by rfl
set_option maxRecDepth 20000 in
theorem r_Reader_readNumber_47 {s_Tokens_endOf : aS} {s_Tokens_startOf : aS} {s_Text_at : aS} {s_Reader_add : aS} {s_Nodes_setAmount : aS} {J : aJ} {K : aR} {n : Nat} {L : aL} {S : List Value} {M : aM} : am_run (c_Reader_readNumber s_Tokens_endOf s_Tokens_startOf s_Text_at s_Reader_add s_Nodes_setAmount) k_Reader_readNumber J K (n + 1) 47 L S M = ai_ifeq 56 50 (am_run (c_Reader_readNumber s_Tokens_endOf s_Tokens_startOf s_Text_at s_Reader_add s_Nodes_setAmount) k_Reader_readNumber J K n) K 47 L S M := by rfl
set_option maxRecDepth 20000 in
theorem r_Reader_readNumber_50 {s_Tokens_endOf : aS} {s_Tokens_startOf : aS} {s_Text_at : aS} {s_Reader_add : aS} {s_Nodes_setAmount : aS} {J : aJ} {K : aR} {n : Nat} {L : aL} {S : List Value} {M : aM} : am_run (c_Reader_readNumber s_Tokens_endOf s_Tokens_startOf s_Text_at s_Reader_add s_Nodes_setAmount) k_Reader_readNumber J K (n + 1) 50 L S M = ai_iload 2 51 (am_run (c_Reader_readNumber s_Tokens_endOf s_Tokens_startOf s_Text_at s_Reader_add s_Nodes_setAmount) k_Reader_readNumber J K n) K 50 L S M := by rfl
set_option maxRecDepth 20000 in
theorem r_Reader_readNumber_51 {s_Tokens_endOf : aS} {s_Tokens_startOf : aS} {s_Text_at : aS} {s_Reader_add : aS} {s_Nodes_setAmount : aS} {J : aJ} {K : aR} {n : Nat} {L : aL} {S : List Value} {M : aM} : am_run (c_Reader_readNumber s_Tokens_endOf s_Tokens_startOf s_Text_at s_Reader_add s_Nodes_setAmount) k_Reader_readNumber J K (n + 1) 51 L S M = ai_const 1 52 (am_run (c_Reader_readNumber s_Tokens_endOf s_Tokens_startOf s_Text_at s_Reader_add s_Nodes_setAmount) k_Reader_readNumber J K n) K 51 L S M := by rfl
set_option maxRecDepth 20000 in
theorem r_Reader_readNumber_52 {s_Tokens_endOf : aS} {s_Tokens_startOf : aS} {s_Text_at : aS} {s_Reader_add : aS} {s_Nodes_setAmount : aS} {J : aJ} {K : aR} {n : Nat} {L : aL} {S : List Value} {M : aM} : am_run (c_Reader_readNumber s_Tokens_endOf s_Tokens_startOf s_Text_at s_Reader_add s_Nodes_setAmount) k_Reader_readNumber J K (n + 1) 52 L S M = ai_iadd 53 (am_run (c_Reader_readNumber s_Tokens_endOf s_Tokens_startOf s_Text_at s_Reader_add s_Nodes_setAmount) k_Reader_readNumber J K n) K 52 L S M := by rfl
set_option maxRecDepth 20000 in
theorem r_Reader_readNumber_53 {s_Tokens_endOf : aS} {s_Tokens_startOf : aS} {s_Text_at : aS} {s_Reader_add : aS} {s_Nodes_setAmount : aS} {J : aJ} {K : aR} {n : Nat} {L : aL} {S : List Value} {M : aM} : am_run (c_Reader_readNumber s_Tokens_endOf s_Tokens_startOf s_Text_at s_Reader_add s_Nodes_setAmount) k_Reader_readNumber J K (n + 1) 53 L S M = ai_goto 57 (am_run (c_Reader_readNumber s_Tokens_endOf s_Tokens_startOf s_Text_at s_Reader_add s_Nodes_setAmount) k_Reader_readNumber J K n) K 53 L S M := by rfl
set_option maxRecDepth 20000 in
theorem r_Reader_readNumber_56 {s_Tokens_endOf : aS} {s_Tokens_startOf : aS} {s_Text_at : aS} {s_Reader_add : aS} {s_Nodes_setAmount : aS} {J : aJ} {K : aR} {n : Nat} {L : aL} {S : List Value} {M : aM} : am_run (c_Reader_readNumber s_Tokens_endOf s_Tokens_startOf s_Text_at s_Reader_add s_Nodes_setAmount) k_Reader_readNumber J K (n + 1) 56 L S M = ai_iload 2 57 (am_run (c_Reader_readNumber s_Tokens_endOf s_Tokens_startOf s_Text_at s_Reader_add s_Nodes_setAmount) k_Reader_readNumber J K n) K 56 L S M := by rfl
set_option maxRecDepth 20000 in
theorem r_Reader_readNumber_57 {s_Tokens_endOf : aS} {s_Tokens_startOf : aS} {s_Text_at : aS} {s_Reader_add : aS} {s_Nodes_setAmount : aS} {J : aJ} {K : aR} {n : Nat} {L : aL} {S : List Value} {M : aM} : am_run (c_Reader_readNumber s_Tokens_endOf s_Tokens_startOf s_Text_at s_Reader_add s_Nodes_setAmount) k_Reader_readNumber J K (n + 1) 57 L S M = ai_istore 5 59 (am_run (c_Reader_readNumber s_Tokens_endOf s_Tokens_startOf s_Text_at s_Reader_add s_Nodes_setAmount) k_Reader_readNumber J K n) K 57 L S M := by rfl
set_option maxRecDepth 20000 in
theorem r_Reader_readNumber_59 {s_Tokens_endOf : aS} {s_Tokens_startOf : aS} {s_Text_at : aS} {s_Reader_add : aS} {s_Nodes_setAmount : aS} {J : aJ} {K : aR} {n : Nat} {L : aL} {S : List Value} {M : aM} : am_run (c_Reader_readNumber s_Tokens_endOf s_Tokens_startOf s_Text_at s_Reader_add s_Nodes_setAmount) k_Reader_readNumber J K (n + 1) 59 L S M = J 59 L S M := by rfl
set_option maxRecDepth 20000 in
theorem r_Reader_readNumber_61 {s_Tokens_endOf : aS} {s_Tokens_startOf : aS} {s_Text_at : aS} {s_Reader_add : aS} {s_Nodes_setAmount : aS} {J : aJ} {K : aR} {n : Nat} {L : aL} {S : List Value} {M : aM} : am_run (c_Reader_readNumber s_Tokens_endOf s_Tokens_startOf s_Text_at s_Reader_add s_Nodes_setAmount) k_Reader_readNumber J K (n + 1) 61 L S M = ai_iload 1 62 (am_run (c_Reader_readNumber s_Tokens_endOf s_Tokens_startOf s_Text_at s_Reader_add s_Nodes_setAmount) k_Reader_readNumber J K n) K 61 L S M := by rfl
set_option maxRecDepth 20000 in
theorem r_Reader_readNumber_62 {s_Tokens_endOf : aS} {s_Tokens_startOf : aS} {s_Text_at : aS} {s_Reader_add : aS} {s_Nodes_setAmount : aS} {J : aJ} {K : aR} {n : Nat} {L : aL} {S : List Value} {M : aM} : am_run (c_Reader_readNumber s_Tokens_endOf s_Tokens_startOf s_Text_at s_Reader_add s_Nodes_setAmount) k_Reader_readNumber J K (n + 1) 62 L S M = ai_cmpge 91 65 (am_run (c_Reader_readNumber s_Tokens_endOf s_Tokens_startOf s_Text_at s_Reader_add s_Nodes_setAmount) k_Reader_readNumber J K n) K 62 L S M := by rfl
set_option maxRecDepth 20000 in
theorem r_Reader_readNumber_65 {s_Tokens_endOf : aS} {s_Tokens_startOf : aS} {s_Text_at : aS} {s_Reader_add : aS} {s_Nodes_setAmount : aS} {J : aJ} {K : aR} {n : Nat} {L : aL} {S : List Value} {M : aM} : am_run (c_Reader_readNumber s_Tokens_endOf s_Tokens_startOf s_Text_at s_Reader_add s_Nodes_setAmount) k_Reader_readNumber J K (n + 1) 65 L S M = ai_iload 4 67 (am_run (c_Reader_readNumber s_Tokens_endOf s_Tokens_startOf s_Text_at s_Reader_add s_Nodes_setAmount) k_Reader_readNumber J K n) K 65 L S M := by rfl
set_option maxRecDepth 20000 in
theorem r_Reader_readNumber_67 {s_Tokens_endOf : aS} {s_Tokens_startOf : aS} {s_Text_at : aS} {s_Reader_add : aS} {s_Nodes_setAmount : aS} {J : aJ} {K : aR} {n : Nat} {L : aL} {S : List Value} {M : aM} : am_run (c_Reader_readNumber s_Tokens_endOf s_Tokens_startOf s_Text_at s_Reader_add s_Nodes_setAmount) k_Reader_readNumber J K (n + 1) 67 L S M = ai_const 10 69 (am_run (c_Reader_readNumber s_Tokens_endOf s_Tokens_startOf s_Text_at s_Reader_add s_Nodes_setAmount) k_Reader_readNumber J K n) K 67 L S M := by rfl
set_option maxRecDepth 20000 in
theorem r_Reader_readNumber_69 {s_Tokens_endOf : aS} {s_Tokens_startOf : aS} {s_Text_at : aS} {s_Reader_add : aS} {s_Nodes_setAmount : aS} {J : aJ} {K : aR} {n : Nat} {L : aL} {S : List Value} {M : aM} : am_run (c_Reader_readNumber s_Tokens_endOf s_Tokens_startOf s_Text_at s_Reader_add s_Nodes_setAmount) k_Reader_readNumber J K (n + 1) 69 L S M = ai_imul 70 (am_run (c_Reader_readNumber s_Tokens_endOf s_Tokens_startOf s_Text_at s_Reader_add s_Nodes_setAmount) k_Reader_readNumber J K n) K 69 L S M := by rfl
set_option maxRecDepth 20000 in
theorem r_Reader_readNumber_70 {s_Tokens_endOf : aS} {s_Tokens_startOf : aS} {s_Text_at : aS} {s_Reader_add : aS} {s_Nodes_setAmount : aS} {J : aJ} {K : aR} {n : Nat} {L : aL} {S : List Value} {M : aM} : am_run (c_Reader_readNumber s_Tokens_endOf s_Tokens_startOf s_Text_at s_Reader_add s_Nodes_setAmount) k_Reader_readNumber J K (n + 1) 70 L S M = ai_aload 0 71 (am_run (c_Reader_readNumber s_Tokens_endOf s_Tokens_startOf s_Text_at s_Reader_add s_Nodes_setAmount) k_Reader_readNumber J K n) K 70 L S M := by rfl
set_option maxRecDepth 20000 in
theorem r_Reader_readNumber_71 {s_Tokens_endOf : aS} {s_Tokens_startOf : aS} {s_Text_at : aS} {s_Reader_add : aS} {s_Nodes_setAmount : aS} {J : aJ} {K : aR} {n : Nat} {L : aL} {S : List Value} {M : aM} : am_run (c_Reader_readNumber s_Tokens_endOf s_Tokens_startOf s_Text_at s_Reader_add s_Nodes_setAmount) k_Reader_readNumber J K (n + 1) 71 L S M = ai_getf 1 0 74 (am_run (c_Reader_readNumber s_Tokens_endOf s_Tokens_startOf s_Text_at s_Reader_add s_Nodes_setAmount) k_Reader_readNumber J K n) K 71 L S M := by rfl
set_option maxRecDepth 20000 in
theorem r_Reader_readNumber_74 {s_Tokens_endOf : aS} {s_Tokens_startOf : aS} {s_Text_at : aS} {s_Reader_add : aS} {s_Nodes_setAmount : aS} {J : aJ} {K : aR} {n : Nat} {L : aL} {S : List Value} {M : aM} : am_run (c_Reader_readNumber s_Tokens_endOf s_Tokens_startOf s_Text_at s_Reader_add s_Nodes_setAmount) k_Reader_readNumber J K (n + 1) 74 L S M = ai_iload 5 76 (am_run (c_Reader_readNumber s_Tokens_endOf s_Tokens_startOf s_Text_at s_Reader_add s_Nodes_setAmount) k_Reader_readNumber J K n) K 74 L S M := by rfl
set_option maxRecDepth 20000 in
theorem r_Reader_readNumber_76 {s_Tokens_endOf : aS} {s_Tokens_startOf : aS} {s_Text_at : aS} {s_Reader_add : aS} {s_Nodes_setAmount : aS} {J : aJ} {K : aR} {n : Nat} {L : aL} {S : List Value} {M : aM} : am_run (c_Reader_readNumber s_Tokens_endOf s_Tokens_startOf s_Text_at s_Reader_add s_Nodes_setAmount) k_Reader_readNumber J K (n + 1) 76 L S M = ai_callv2 2 s_Text_at 79 (am_run (c_Reader_readNumber s_Tokens_endOf s_Tokens_startOf s_Text_at s_Reader_add s_Nodes_setAmount) k_Reader_readNumber J K n) K 76 L S M := by rfl
set_option maxRecDepth 20000 in
theorem r_Reader_readNumber_79 {s_Tokens_endOf : aS} {s_Tokens_startOf : aS} {s_Text_at : aS} {s_Reader_add : aS} {s_Nodes_setAmount : aS} {J : aJ} {K : aR} {n : Nat} {L : aL} {S : List Value} {M : aM} : am_run (c_Reader_readNumber s_Tokens_endOf s_Tokens_startOf s_Text_at s_Reader_add s_Nodes_setAmount) k_Reader_readNumber J K (n + 1) 79 L S M = ai_const 48 81 (am_run (c_Reader_readNumber s_Tokens_endOf s_Tokens_startOf s_Text_at s_Reader_add s_Nodes_setAmount) k_Reader_readNumber J K n) K 79 L S M := by rfl
set_option maxRecDepth 20000 in
theorem r_Reader_readNumber_81 {s_Tokens_endOf : aS} {s_Tokens_startOf : aS} {s_Text_at : aS} {s_Reader_add : aS} {s_Nodes_setAmount : aS} {J : aJ} {K : aR} {n : Nat} {L : aL} {S : List Value} {M : aM} : am_run (c_Reader_readNumber s_Tokens_endOf s_Tokens_startOf s_Text_at s_Reader_add s_Nodes_setAmount) k_Reader_readNumber J K (n + 1) 81 L S M = ai_isub 82 (am_run (c_Reader_readNumber s_Tokens_endOf s_Tokens_startOf s_Text_at s_Reader_add s_Nodes_setAmount) k_Reader_readNumber J K n) K 81 L S M := by rfl
set_option maxRecDepth 20000 in
theorem r_Reader_readNumber_82 {s_Tokens_endOf : aS} {s_Tokens_startOf : aS} {s_Text_at : aS} {s_Reader_add : aS} {s_Nodes_setAmount : aS} {J : aJ} {K : aR} {n : Nat} {L : aL} {S : List Value} {M : aM} : am_run (c_Reader_readNumber s_Tokens_endOf s_Tokens_startOf s_Text_at s_Reader_add s_Nodes_setAmount) k_Reader_readNumber J K (n + 1) 82 L S M = ai_iadd 83 (am_run (c_Reader_readNumber s_Tokens_endOf s_Tokens_startOf s_Text_at s_Reader_add s_Nodes_setAmount) k_Reader_readNumber J K n) K 82 L S M := by rfl
set_option maxRecDepth 20000 in
theorem r_Reader_readNumber_83 {s_Tokens_endOf : aS} {s_Tokens_startOf : aS} {s_Text_at : aS} {s_Reader_add : aS} {s_Nodes_setAmount : aS} {J : aJ} {K : aR} {n : Nat} {L : aL} {S : List Value} {M : aM} : am_run (c_Reader_readNumber s_Tokens_endOf s_Tokens_startOf s_Text_at s_Reader_add s_Nodes_setAmount) k_Reader_readNumber J K (n + 1) 83 L S M = ai_istore 4 85 (am_run (c_Reader_readNumber s_Tokens_endOf s_Tokens_startOf s_Text_at s_Reader_add s_Nodes_setAmount) k_Reader_readNumber J K n) K 83 L S M := by rfl
set_option maxRecDepth 20000 in
theorem r_Reader_readNumber_85 {s_Tokens_endOf : aS} {s_Tokens_startOf : aS} {s_Text_at : aS} {s_Reader_add : aS} {s_Nodes_setAmount : aS} {J : aJ} {K : aR} {n : Nat} {L : aL} {S : List Value} {M : aM} : am_run (c_Reader_readNumber s_Tokens_endOf s_Tokens_startOf s_Text_at s_Reader_add s_Nodes_setAmount) k_Reader_readNumber J K (n + 1) 85 L S M = ai_iinc 5 1 88 (am_run (c_Reader_readNumber s_Tokens_endOf s_Tokens_startOf s_Text_at s_Reader_add s_Nodes_setAmount) k_Reader_readNumber J K n) K 85 L S M := by rfl
set_option maxRecDepth 20000 in
theorem r_Reader_readNumber_88 {s_Tokens_endOf : aS} {s_Tokens_startOf : aS} {s_Text_at : aS} {s_Reader_add : aS} {s_Nodes_setAmount : aS} {J : aJ} {K : aR} {n : Nat} {L : aL} {S : List Value} {M : aM} : am_run (c_Reader_readNumber s_Tokens_endOf s_Tokens_startOf s_Text_at s_Reader_add s_Nodes_setAmount) k_Reader_readNumber J K (n + 1) 88 L S M = ai_goto 59 (am_run (c_Reader_readNumber s_Tokens_endOf s_Tokens_startOf s_Text_at s_Reader_add s_Nodes_setAmount) k_Reader_readNumber J K n) K 88 L S M := by rfl
set_option maxRecDepth 20000 in
theorem r_Reader_readNumber_91 {s_Tokens_endOf : aS} {s_Tokens_startOf : aS} {s_Text_at : aS} {s_Reader_add : aS} {s_Nodes_setAmount : aS} {J : aJ} {K : aR} {n : Nat} {L : aL} {S : List Value} {M : aM} : am_run (c_Reader_readNumber s_Tokens_endOf s_Tokens_startOf s_Text_at s_Reader_add s_Nodes_setAmount) k_Reader_readNumber J K (n + 1) 91 L S M = ai_aload 0 92 (am_run (c_Reader_readNumber s_Tokens_endOf s_Tokens_startOf s_Text_at s_Reader_add s_Nodes_setAmount) k_Reader_readNumber J K n) K 91 L S M := by rfl
set_option maxRecDepth 20000 in
theorem r_Reader_readNumber_92 {s_Tokens_endOf : aS} {s_Tokens_startOf : aS} {s_Text_at : aS} {s_Reader_add : aS} {s_Nodes_setAmount : aS} {J : aJ} {K : aR} {n : Nat} {L : aL} {S : List Value} {M : aM} : am_run (c_Reader_readNumber s_Tokens_endOf s_Tokens_startOf s_Text_at s_Reader_add s_Nodes_setAmount) k_Reader_readNumber J K (n + 1) 92 L S M = ai_const 1 93 (am_run (c_Reader_readNumber s_Tokens_endOf s_Tokens_startOf s_Text_at s_Reader_add s_Nodes_setAmount) k_Reader_readNumber J K n) K 92 L S M := by rfl
set_option maxRecDepth 20000 in
theorem r_Reader_readNumber_93 {s_Tokens_endOf : aS} {s_Tokens_startOf : aS} {s_Text_at : aS} {s_Reader_add : aS} {s_Nodes_setAmount : aS} {J : aJ} {K : aR} {n : Nat} {L : aL} {S : List Value} {M : aM} : am_run (c_Reader_readNumber s_Tokens_endOf s_Tokens_startOf s_Text_at s_Reader_add s_Nodes_setAmount) k_Reader_readNumber J K (n + 1) 93 L S M = ai_callv2 1 s_Reader_add 96 (am_run (c_Reader_readNumber s_Tokens_endOf s_Tokens_startOf s_Text_at s_Reader_add s_Nodes_setAmount) k_Reader_readNumber J K n) K 93 L S M := by rfl
set_option maxRecDepth 20000 in
theorem r_Reader_readNumber_96 {s_Tokens_endOf : aS} {s_Tokens_startOf : aS} {s_Text_at : aS} {s_Reader_add : aS} {s_Nodes_setAmount : aS} {J : aJ} {K : aR} {n : Nat} {L : aL} {S : List Value} {M : aM} : am_run (c_Reader_readNumber s_Tokens_endOf s_Tokens_startOf s_Text_at s_Reader_add s_Nodes_setAmount) k_Reader_readNumber J K (n + 1) 96 L S M = ai_istore 5 98 (am_run (c_Reader_readNumber s_Tokens_endOf s_Tokens_startOf s_Text_at s_Reader_add s_Nodes_setAmount) k_Reader_readNumber J K n) K 96 L S M := by rfl
set_option maxRecDepth 20000 in
theorem r_Reader_readNumber_98 {s_Tokens_endOf : aS} {s_Tokens_startOf : aS} {s_Text_at : aS} {s_Reader_add : aS} {s_Nodes_setAmount : aS} {J : aJ} {K : aR} {n : Nat} {L : aL} {S : List Value} {M : aM} : am_run (c_Reader_readNumber s_Tokens_endOf s_Tokens_startOf s_Text_at s_Reader_add s_Nodes_setAmount) k_Reader_readNumber J K (n + 1) 98 L S M = ai_aload 0 99 (am_run (c_Reader_readNumber s_Tokens_endOf s_Tokens_startOf s_Text_at s_Reader_add s_Nodes_setAmount) k_Reader_readNumber J K n) K 98 L S M := by rfl
set_option maxRecDepth 20000 in
theorem r_Reader_readNumber_99 {s_Tokens_endOf : aS} {s_Tokens_startOf : aS} {s_Text_at : aS} {s_Reader_add : aS} {s_Nodes_setAmount : aS} {J : aJ} {K : aR} {n : Nat} {L : aL} {S : List Value} {M : aM} : am_run (c_Reader_readNumber s_Tokens_endOf s_Tokens_startOf s_Text_at s_Reader_add s_Nodes_setAmount) k_Reader_readNumber J K (n + 1) 99 L S M = ai_getf 1 1 102 (am_run (c_Reader_readNumber s_Tokens_endOf s_Tokens_startOf s_Text_at s_Reader_add s_Nodes_setAmount) k_Reader_readNumber J K n) K 99 L S M := by rfl
set_option maxRecDepth 20000 in
theorem r_Reader_readNumber_102 {s_Tokens_endOf : aS} {s_Tokens_startOf : aS} {s_Text_at : aS} {s_Reader_add : aS} {s_Nodes_setAmount : aS} {J : aJ} {K : aR} {n : Nat} {L : aL} {S : List Value} {M : aM} : am_run (c_Reader_readNumber s_Tokens_endOf s_Tokens_startOf s_Text_at s_Reader_add s_Nodes_setAmount) k_Reader_readNumber J K (n + 1) 102 L S M = ai_iload 5 104 (am_run (c_Reader_readNumber s_Tokens_endOf s_Tokens_startOf s_Text_at s_Reader_add s_Nodes_setAmount) k_Reader_readNumber J K n) K 102 L S M := by rfl
set_option maxRecDepth 20000 in
theorem r_Reader_readNumber_104 {s_Tokens_endOf : aS} {s_Tokens_startOf : aS} {s_Text_at : aS} {s_Reader_add : aS} {s_Nodes_setAmount : aS} {J : aJ} {K : aR} {n : Nat} {L : aL} {S : List Value} {M : aM} : am_run (c_Reader_readNumber s_Tokens_endOf s_Tokens_startOf s_Text_at s_Reader_add s_Nodes_setAmount) k_Reader_readNumber J K (n + 1) 104 L S M = ai_iload 3 105 (am_run (c_Reader_readNumber s_Tokens_endOf s_Tokens_startOf s_Text_at s_Reader_add s_Nodes_setAmount) k_Reader_readNumber J K n) K 104 L S M := by rfl
set_option maxRecDepth 20000 in
theorem r_Reader_readNumber_105 {s_Tokens_endOf : aS} {s_Tokens_startOf : aS} {s_Text_at : aS} {s_Reader_add : aS} {s_Nodes_setAmount : aS} {J : aJ} {K : aR} {n : Nat} {L : aL} {S : List Value} {M : aM} : am_run (c_Reader_readNumber s_Tokens_endOf s_Tokens_startOf s_Text_at s_Reader_add s_Nodes_setAmount) k_Reader_readNumber J K (n + 1) 105 L S M = ai_ifeq 114 108 (am_run (c_Reader_readNumber s_Tokens_endOf s_Tokens_startOf s_Text_at s_Reader_add s_Nodes_setAmount) k_Reader_readNumber J K n) K 105 L S M := by rfl
set_option maxRecDepth 20000 in
theorem r_Reader_readNumber_108 {s_Tokens_endOf : aS} {s_Tokens_startOf : aS} {s_Text_at : aS} {s_Reader_add : aS} {s_Nodes_setAmount : aS} {J : aJ} {K : aR} {n : Nat} {L : aL} {S : List Value} {M : aM} : am_run (c_Reader_readNumber s_Tokens_endOf s_Tokens_startOf s_Text_at s_Reader_add s_Nodes_setAmount) k_Reader_readNumber J K (n + 1) 108 L S M = ai_iload 4 110 (am_run (c_Reader_readNumber s_Tokens_endOf s_Tokens_startOf s_Text_at s_Reader_add s_Nodes_setAmount) k_Reader_readNumber J K n) K 108 L S M := by rfl
set_option maxRecDepth 20000 in
theorem r_Reader_readNumber_110 {s_Tokens_endOf : aS} {s_Tokens_startOf : aS} {s_Text_at : aS} {s_Reader_add : aS} {s_Nodes_setAmount : aS} {J : aJ} {K : aR} {n : Nat} {L : aL} {S : List Value} {M : aM} : am_run (c_Reader_readNumber s_Tokens_endOf s_Tokens_startOf s_Text_at s_Reader_add s_Nodes_setAmount) k_Reader_readNumber J K (n + 1) 110 L S M = ai_ineg 111 (am_run (c_Reader_readNumber s_Tokens_endOf s_Tokens_startOf s_Text_at s_Reader_add s_Nodes_setAmount) k_Reader_readNumber J K n) K 110 L S M := by rfl
set_option maxRecDepth 20000 in
theorem r_Reader_readNumber_111 {s_Tokens_endOf : aS} {s_Tokens_startOf : aS} {s_Text_at : aS} {s_Reader_add : aS} {s_Nodes_setAmount : aS} {J : aJ} {K : aR} {n : Nat} {L : aL} {S : List Value} {M : aM} : am_run (c_Reader_readNumber s_Tokens_endOf s_Tokens_startOf s_Text_at s_Reader_add s_Nodes_setAmount) k_Reader_readNumber J K (n + 1) 111 L S M = ai_goto 116 (am_run (c_Reader_readNumber s_Tokens_endOf s_Tokens_startOf s_Text_at s_Reader_add s_Nodes_setAmount) k_Reader_readNumber J K n) K 111 L S M := by rfl
set_option maxRecDepth 20000 in
theorem r_Reader_readNumber_114 {s_Tokens_endOf : aS} {s_Tokens_startOf : aS} {s_Text_at : aS} {s_Reader_add : aS} {s_Nodes_setAmount : aS} {J : aJ} {K : aR} {n : Nat} {L : aL} {S : List Value} {M : aM} : am_run (c_Reader_readNumber s_Tokens_endOf s_Tokens_startOf s_Text_at s_Reader_add s_Nodes_setAmount) k_Reader_readNumber J K (n + 1) 114 L S M = ai_iload 4 116 (am_run (c_Reader_readNumber s_Tokens_endOf s_Tokens_startOf s_Text_at s_Reader_add s_Nodes_setAmount) k_Reader_readNumber J K n) K 114 L S M := by rfl
set_option maxRecDepth 20000 in
theorem r_Reader_readNumber_116 {s_Tokens_endOf : aS} {s_Tokens_startOf : aS} {s_Text_at : aS} {s_Reader_add : aS} {s_Nodes_setAmount : aS} {J : aJ} {K : aR} {n : Nat} {L : aL} {S : List Value} {M : aM} : am_run (c_Reader_readNumber s_Tokens_endOf s_Tokens_startOf s_Text_at s_Reader_add s_Nodes_setAmount) k_Reader_readNumber J K (n + 1) 116 L S M = ai_callv3 0 s_Nodes_setAmount 119 (am_run (c_Reader_readNumber s_Tokens_endOf s_Tokens_startOf s_Text_at s_Reader_add s_Nodes_setAmount) k_Reader_readNumber J K n) K 116 L S M := by rfl
set_option maxRecDepth 20000 in
theorem r_Reader_readNumber_119 {s_Tokens_endOf : aS} {s_Tokens_startOf : aS} {s_Text_at : aS} {s_Reader_add : aS} {s_Nodes_setAmount : aS} {J : aJ} {K : aR} {n : Nat} {L : aL} {S : List Value} {M : aM} : am_run (c_Reader_readNumber s_Tokens_endOf s_Tokens_startOf s_Text_at s_Reader_add s_Nodes_setAmount) k_Reader_readNumber J K (n + 1) 119 L S M = ai_iload 5 121 (am_run (c_Reader_readNumber s_Tokens_endOf s_Tokens_startOf s_Text_at s_Reader_add s_Nodes_setAmount) k_Reader_readNumber J K n) K 119 L S M := by rfl
set_option maxRecDepth 20000 in
theorem r_Reader_readNumber_121 {s_Tokens_endOf : aS} {s_Tokens_startOf : aS} {s_Text_at : aS} {s_Reader_add : aS} {s_Nodes_setAmount : aS} {J : aJ} {K : aR} {n : Nat} {L : aL} {S : List Value} {M : aM} : am_run (c_Reader_readNumber s_Tokens_endOf s_Tokens_startOf s_Text_at s_Reader_add s_Nodes_setAmount) k_Reader_readNumber J K (n + 1) 121 L S M = ai_iret (am_run (c_Reader_readNumber s_Tokens_endOf s_Tokens_startOf s_Text_at s_Reader_add s_Nodes_setAmount) k_Reader_readNumber J K n) K 121 L S M := by rfl
def c_Reader_readName (s_Tokens_endOf : aS) (s_Reader_add : aS) (s_Tokens_startOf : aS) (s_Text_at : aS) (s_Nodes_addLetter : aS) : List (Nat × aI) := [
  (0, ai_aload 0 1),
  (1, ai_getf 1 2 4),
  (4, ai_aload 0 5),
  (5, ai_getf 1 3 8),
  (8, ai_callv2 3 s_Tokens_endOf 11),
  (11, ai_istore 1 12),
  (12, ai_aload 0 13),
  (13, ai_const 2 14),
  (14, ai_callv2 1 s_Reader_add 17),
  (17, ai_istore 2 18),
  (18, ai_aload 0 19),
  (19, ai_getf 1 2 22),
  (22, ai_aload 0 23),
  (23, ai_getf 1 3 26),
  (26, ai_callv2 3 s_Tokens_startOf 29),
  (29, ai_istore 3 30),
  (30, ai_iload 3 31),
  (31, ai_iload 1 32),
  (32, ai_cmpge 57 35),
  (35, ai_aload 0 36),
  (36, ai_getf 1 1 39),
  (39, ai_iload 2 40),
  (40, ai_aload 0 41),
  (41, ai_getf 1 0 44),
  (44, ai_iload 3 45),
  (45, ai_callv2 2 s_Text_at 48),
  (48, ai_callv3 0 s_Nodes_addLetter 51),
  (51, ai_iinc 3 1 54),
  (54, ai_goto 30),
  (57, ai_iload 2 58),
  (58, ai_iret)]
set_option maxRecDepth 100000 in
set_option maxHeartbeats 4000000 in
theorem tb_Reader_readName {G : aG} {d : Nat} {s_Tokens_endOf : aS} {d_Tokens_endOf : Nat} (h_Tokens_endOf : am_Sp G Y_Tokens_endOf d_Tokens_endOf s_Tokens_endOf) (l_Tokens_endOf : d_Tokens_endOf < d) {s_Reader_add : aS} {d_Reader_add : Nat} (h_Reader_add : am_Sp G Y_Reader_add d_Reader_add s_Reader_add) (l_Reader_add : d_Reader_add < d) {s_Tokens_startOf : aS} {d_Tokens_startOf : Nat} (h_Tokens_startOf : am_Sp G Y_Tokens_startOf d_Tokens_startOf s_Tokens_startOf) (l_Tokens_startOf : d_Tokens_startOf < d) {s_Text_at : aS} {d_Text_at : Nat} (h_Text_at : am_Sp G Y_Text_at d_Text_at s_Text_at) (l_Text_at : d_Text_at < d) {s_Nodes_addLetter : aS} {d_Nodes_addLetter : Nat} (h_Nodes_addLetter : am_Sp G Y_Nodes_addLetter d_Nodes_addLetter s_Nodes_addLetter) (l_Nodes_addLetter : d_Nodes_addLetter < d) : am_tab G Y_Reader_readName d (c_Reader_readName s_Tokens_endOf s_Reader_add s_Tokens_startOf s_Text_at s_Nodes_addLetter) := by
  intro K p e s m args below meth c C
  exact ⟨as_aload_n C (pc := 0) (q := 0) (by decide +kernel) rfl rfl,
    as_getf C (pc := 1) (T := T_Reader) (N := 5) rfl in_Reader (by decide) rfl w_178 (by decide +kernel) rfl,
    as_aload_n C (pc := 4) (q := 0) (by decide +kernel) rfl rfl,
    as_getf C (pc := 5) (T := T_Reader) (N := 5) rfl in_Reader (by decide) rfl w_179 (by decide +kernel) rfl,
    as_callv2N C (pc := 8) h_Tokens_endOf (T := T_Tokens) (N := 4) rfl w_316 w_75 w_315 w_15 w_313 hy_Tokens_endOf (am_rm_of l_Tokens_endOf (by decide)) (by decide +kernel) rfl,
    as_istore_n C (pc := 11) (q := 1) (by decide +kernel) rfl (by decide) rfl,
    as_aload_n C (pc := 12) (q := 0) (by decide +kernel) rfl rfl,
    as_iconst C (pc := 13) (n := 2) (by decide +kernel) (by decide +kernel) rfl,
    as_callv2 C (pc := 14) h_Reader_add (T := T_Reader) (N := 5) rfl w_325 w_74 w_324 w_17 w_322 hy_Reader_add (am_rm_of l_Reader_add (by decide)) (by decide +kernel) rfl,
    as_istore_n C (pc := 17) (q := 2) (by decide +kernel) rfl (by decide) rfl,
    as_aload_n C (pc := 18) (q := 0) (by decide +kernel) rfl rfl,
    as_getf C (pc := 19) (T := T_Reader) (N := 5) rfl in_Reader (by decide) rfl w_178 (by decide +kernel) rfl,
    as_aload_n C (pc := 22) (q := 0) (by decide +kernel) rfl rfl,
    as_getf C (pc := 23) (T := T_Reader) (N := 5) rfl in_Reader (by decide) rfl w_179 (by decide +kernel) rfl,
    as_callv2N C (pc := 26) h_Tokens_startOf (T := T_Tokens) (N := 4) rfl w_320 w_75 w_319 w_16 w_317 hy_Tokens_startOf (am_rm_of l_Tokens_startOf (by decide)) (by decide +kernel) rfl,
    as_istore_n C (pc := 29) (q := 3) (by decide +kernel) rfl (by decide) rfl,
    as_iload_n C (pc := 30) (q := 3) (by decide +kernel) rfl rfl,
    as_iload_n C (pc := 31) (q := 1) (by decide +kernel) rfl rfl,
    as_cmpge C (pc := 32) (off := 25) (by decide +kernel) (by decide) rfl,
    as_aload_n C (pc := 35) (q := 0) (by decide +kernel) rfl rfl,
    as_getf C (pc := 36) (T := T_Reader) (N := 5) rfl in_Reader (by decide) rfl w_177 (by decide +kernel) rfl,
    as_iload_n C (pc := 39) (q := 2) (by decide +kernel) rfl rfl,
    as_aload_n C (pc := 40) (q := 0) (by decide +kernel) rfl rfl,
    as_getf C (pc := 41) (T := T_Reader) (N := 5) rfl in_Reader (by decide) rfl w_176 (by decide +kernel) rfl,
    as_iload_n C (pc := 44) (q := 3) (by decide +kernel) rfl rfl,
    as_callv2N C (pc := 45) h_Text_at (T := T_Text) (N := 2) rfl w_270 w_71 w_269 w_5 w_321 hy_Text_at (am_rm_of l_Text_at (by decide)) (by decide +kernel) rfl,
    as_callv3N C (pc := 48) h_Nodes_addLetter (T := T_Nodes) (N := 10) rfl w_349 w_72 w_348 w_23 w_346 hy_Nodes_addLetter (am_rm_of l_Nodes_addLetter (by decide)) (by decide +kernel) rfl,
    as_iinc C (pc := 51) (k := 3) (n := 1) (by decide +kernel) (by decide +kernel) (by decide) rfl,
    as_goto C (pc := 54) (off := (-24)) (by decide +kernel) (by decide),
    as_iload_n C (pc := 57) (q := 2) (by decide +kernel) rfl rfl,
    as_iret C (pc := 58) rfl (by decide +kernel), trivial⟩
abbrev k_Reader_readName : List Nat := [30]
theorem q_Reader_readName_30 {s_Tokens_endOf : aS} {s_Reader_add : aS} {s_Tokens_startOf : aS} {s_Text_at : aS} {s_Nodes_addLetter : aS} : am_at (c_Reader_readName s_Tokens_endOf s_Reader_add s_Tokens_startOf s_Text_at s_Nodes_addLetter) 30 = ai_iload 3 31 := by rfl
theorem r_Reader_readName_0 {s_Tokens_endOf : aS} {s_Reader_add : aS} {s_Tokens_startOf : aS} {s_Text_at : aS} {s_Nodes_addLetter : aS} {J : aJ} {K : aR} {n : Nat} {L : aL} {S : List Value} {M : aM} : am_run (c_Reader_readName s_Tokens_endOf s_Reader_add s_Tokens_startOf s_Text_at s_Nodes_addLetter) k_Reader_readName J K (n + 1) 0 L S M = ai_aload 0 1 (am_run (c_Reader_readName s_Tokens_endOf s_Reader_add s_Tokens_startOf s_Text_at s_Nodes_addLetter) k_Reader_readName J K n) K 0 L S M := by rfl
theorem r_Reader_readName_1 {s_Tokens_endOf : aS} {s_Reader_add : aS} {s_Tokens_startOf : aS} {s_Text_at : aS} {s_Nodes_addLetter : aS} {J : aJ} {K : aR} {n : Nat} {L : aL} {S : List Value} {M : aM} : am_run (c_Reader_readName s_Tokens_endOf s_Reader_add s_Tokens_startOf s_Text_at s_Nodes_addLetter) k_Reader_readName J K (n + 1) 1 L S M = ai_getf 1 2 4 (am_run (c_Reader_readName s_Tokens_endOf s_Reader_add s_Tokens_startOf s_Text_at s_Nodes_addLetter) k_Reader_readName J K n) K 1 L S M := by rfl
theorem r_Reader_readName_4 {s_Tokens_endOf : aS} {s_Reader_add : aS} {s_Tokens_startOf : aS} {s_Text_at : aS} {s_Nodes_addLetter : aS} {J : aJ} {K : aR} {n : Nat} {L : aL} {S : List Value} {M : aM} : am_run (c_Reader_readName s_Tokens_endOf s_Reader_add s_Tokens_startOf s_Text_at s_Nodes_addLetter) k_Reader_readName J K (n + 1) 4 L S M = ai_aload 0 5 (am_run (c_Reader_readName s_Tokens_endOf s_Reader_add s_Tokens_startOf s_Text_at s_Nodes_addLetter) k_Reader_readName J K n) K 4 L S M := by rfl
theorem r_Reader_readName_5 {s_Tokens_endOf : aS} {s_Reader_add : aS} {s_Tokens_startOf : aS} {s_Text_at : aS} {s_Nodes_addLetter : aS} {J : aJ} {K : aR} {n : Nat} {L : aL} {S : List Value} {M : aM} : am_run (c_Reader_readName s_Tokens_endOf s_Reader_add s_Tokens_startOf s_Text_at s_Nodes_addLetter) k_Reader_readName J K (n + 1) 5 L S M = ai_getf 1 3 8 (am_run (c_Reader_readName s_Tokens_endOf s_Reader_add s_Tokens_startOf s_Text_at s_Nodes_addLetter) k_Reader_readName J K n) K 5 L S M := by rfl
theorem r_Reader_readName_8 {s_Tokens_endOf : aS} {s_Reader_add : aS} {s_Tokens_startOf : aS} {s_Text_at : aS} {s_Nodes_addLetter : aS} {J : aJ} {K : aR} {n : Nat} {L : aL} {S : List Value} {M : aM} : am_run (c_Reader_readName s_Tokens_endOf s_Reader_add s_Tokens_startOf s_Text_at s_Nodes_addLetter) k_Reader_readName J K (n + 1) 8 L S M = ai_callv2 3 s_Tokens_endOf 11 (am_run (c_Reader_readName s_Tokens_endOf s_Reader_add s_Tokens_startOf s_Text_at s_Nodes_addLetter) k_Reader_readName J K n) K 8 L S M := by rfl
theorem r_Reader_readName_11 {s_Tokens_endOf : aS} {s_Reader_add : aS} {s_Tokens_startOf : aS} {s_Text_at : aS} {s_Nodes_addLetter : aS} {J : aJ} {K : aR} {n : Nat} {L : aL} {S : List Value} {M : aM} : am_run (c_Reader_readName s_Tokens_endOf s_Reader_add s_Tokens_startOf s_Text_at s_Nodes_addLetter) k_Reader_readName J K (n + 1) 11 L S M = ai_istore 1 12 (am_run (c_Reader_readName s_Tokens_endOf s_Reader_add s_Tokens_startOf s_Text_at s_Nodes_addLetter) k_Reader_readName J K n) K 11 L S M := by rfl
theorem r_Reader_readName_12 {s_Tokens_endOf : aS} {s_Reader_add : aS} {s_Tokens_startOf : aS} {s_Text_at : aS} {s_Nodes_addLetter : aS} {J : aJ} {K : aR} {n : Nat} {L : aL} {S : List Value} {M : aM} : am_run (c_Reader_readName s_Tokens_endOf s_Reader_add s_Tokens_startOf s_Text_at s_Nodes_addLetter) k_Reader_readName J K (n + 1) 12 L S M = ai_aload 0 13 (am_run (c_Reader_readName s_Tokens_endOf s_Reader_add s_Tokens_startOf s_Text_at s_Nodes_addLetter) k_Reader_readName J K n) K 12 L S M := by rfl
theorem r_Reader_readName_13 {s_Tokens_endOf : aS} {s_Reader_add : aS} {s_Tokens_startOf : aS} {s_Text_at : aS} {s_Nodes_addLetter : aS} {J : aJ} {K : aR} {n : Nat} {L : aL} {S : List Value} {M : aM} : am_run (c_Reader_readName s_Tokens_endOf s_Reader_add s_Tokens_startOf s_Text_at s_Nodes_addLetter) k_Reader_readName J K (n + 1) 13 L S M = ai_const 2 14 (am_run (c_Reader_readName s_Tokens_endOf s_Reader_add s_Tokens_startOf s_Text_at s_Nodes_addLetter) k_Reader_readName J K n) K 13 L S M := by rfl
theorem r_Reader_readName_14 {s_Tokens_endOf : aS} {s_Reader_add : aS} {s_Tokens_startOf : aS} {s_Text_at : aS} {s_Nodes_addLetter : aS} {J : aJ} {K : aR} {n : Nat} {L : aL} {S : List Value} {M : aM} : am_run (c_Reader_readName s_Tokens_endOf s_Reader_add s_Tokens_startOf s_Text_at s_Nodes_addLetter) k_Reader_readName J K (n + 1) 14 L S M = ai_callv2 1 s_Reader_add 17 (am_run (c_Reader_readName s_Tokens_endOf s_Reader_add s_Tokens_startOf s_Text_at s_Nodes_addLetter) k_Reader_readName J K n) K 14 L S M := by rfl
theorem r_Reader_readName_17 {s_Tokens_endOf : aS} {s_Reader_add : aS} {s_Tokens_startOf : aS} {s_Text_at : aS} {s_Nodes_addLetter : aS} {J : aJ} {K : aR} {n : Nat} {L : aL} {S : List Value} {M : aM} : am_run (c_Reader_readName s_Tokens_endOf s_Reader_add s_Tokens_startOf s_Text_at s_Nodes_addLetter) k_Reader_readName J K (n + 1) 17 L S M = ai_istore 2 18 (am_run (c_Reader_readName s_Tokens_endOf s_Reader_add s_Tokens_startOf s_Text_at s_Nodes_addLetter) k_Reader_readName J K n) K 17 L S M := by rfl
theorem r_Reader_readName_18 {s_Tokens_endOf : aS} {s_Reader_add : aS} {s_Tokens_startOf : aS} {s_Text_at : aS} {s_Nodes_addLetter : aS} {J : aJ} {K : aR} {n : Nat} {L : aL} {S : List Value} {M : aM} : am_run (c_Reader_readName s_Tokens_endOf s_Reader_add s_Tokens_startOf s_Text_at s_Nodes_addLetter) k_Reader_readName J K (n + 1) 18 L S M = ai_aload 0 19 (am_run (c_Reader_readName s_Tokens_endOf s_Reader_add s_Tokens_startOf s_Text_at s_Nodes_addLetter) k_Reader_readName J K n) K 18 L S M := by rfl
theorem r_Reader_readName_19 {s_Tokens_endOf : aS} {s_Reader_add : aS} {s_Tokens_startOf : aS} {s_Text_at : aS} {s_Nodes_addLetter : aS} {J : aJ} {K : aR} {n : Nat} {L : aL} {S : List Value} {M : aM} : am_run (c_Reader_readName s_Tokens_endOf s_Reader_add s_Tokens_startOf s_Text_at s_Nodes_addLetter) k_Reader_readName J K (n + 1) 19 L S M = ai_getf 1 2 22 (am_run (c_Reader_readName s_Tokens_endOf s_Reader_add s_Tokens_startOf s_Text_at s_Nodes_addLetter) k_Reader_readName J K n) K 19 L S M := by rfl
theorem r_Reader_readName_22 {s_Tokens_endOf : aS} {s_Reader_add : aS} {s_Tokens_startOf : aS} {s_Text_at : aS} {s_Nodes_addLetter : aS} {J : aJ} {K : aR} {n : Nat} {L : aL} {S : List Value} {M : aM} : am_run (c_Reader_readName s_Tokens_endOf s_Reader_add s_Tokens_startOf s_Text_at s_Nodes_addLetter) k_Reader_readName J K (n + 1) 22 L S M = ai_aload 0 23 (am_run (c_Reader_readName s_Tokens_endOf s_Reader_add s_Tokens_startOf s_Text_at s_Nodes_addLetter) k_Reader_readName J K n) K 22 L S M := by rfl
theorem r_Reader_readName_23 {s_Tokens_endOf : aS} {s_Reader_add : aS} {s_Tokens_startOf : aS} {s_Text_at : aS} {s_Nodes_addLetter : aS} {J : aJ} {K : aR} {n : Nat} {L : aL} {S : List Value} {M : aM} : am_run (c_Reader_readName s_Tokens_endOf s_Reader_add s_Tokens_startOf s_Text_at s_Nodes_addLetter) k_Reader_readName J K (n + 1) 23 L S M = ai_getf 1 3 26 (am_run (c_Reader_readName s_Tokens_endOf s_Reader_add s_Tokens_startOf s_Text_at s_Nodes_addLetter) k_Reader_readName J K n) K 23 L S M := by rfl
theorem r_Reader_readName_26 {s_Tokens_endOf : aS} {s_Reader_add : aS} {s_Tokens_startOf : aS} {s_Text_at : aS} {s_Nodes_addLetter : aS} {J : aJ} {K : aR} {n : Nat} {L : aL} {S : List Value} {M : aM} : am_run (c_Reader_readName s_Tokens_endOf s_Reader_add s_Tokens_startOf s_Text_at s_Nodes_addLetter) k_Reader_readName J K (n + 1) 26 L S M = ai_callv2 3 s_Tokens_startOf 29 (am_run (c_Reader_readName s_Tokens_endOf s_Reader_add s_Tokens_startOf s_Text_at s_Nodes_addLetter) k_Reader_readName J K n) K 26 L S M := by rfl
theorem r_Reader_readName_29 {s_Tokens_endOf : aS} {s_Reader_add : aS} {s_Tokens_startOf : aS} {s_Text_at : aS} {s_Nodes_addLetter : aS} {J : aJ} {K : aR} {n : Nat} {L : aL} {S : List Value} {M : aM} : am_run (c_Reader_readName s_Tokens_endOf s_Reader_add s_Tokens_startOf s_Text_at s_Nodes_addLetter) k_Reader_readName J K (n + 1) 29 L S M = ai_istore 3 30 (am_run (c_Reader_readName s_Tokens_endOf s_Reader_add s_Tokens_startOf s_Text_at s_Nodes_addLetter) k_Reader_readName J K n) K 29 L S M := by rfl
theorem r_Reader_readName_30 {s_Tokens_endOf : aS} {s_Reader_add : aS} {s_Tokens_startOf : aS} {s_Text_at : aS} {s_Nodes_addLetter : aS} {J : aJ} {K : aR} {n : Nat} {L : aL} {S : List Value} {M : aM} : am_run (c_Reader_readName s_Tokens_endOf s_Reader_add s_Tokens_startOf s_Text_at s_Nodes_addLetter) k_Reader_readName J K (n + 1) 30 L S M = J 30 L S M := by rfl
theorem r_Reader_readName_31 {s_Tokens_endOf : aS} {s_Reader_add : aS} {s_Tokens_startOf : aS} {s_Text_at : aS} {s_Nodes_addLetter : aS} {J : aJ} {K : aR} {n : Nat} {L : aL} {S : List Value} {M : aM} : am_run (c_Reader_readName s_Tokens_endOf s_Reader_add s_Tokens_startOf s_Text_at s_Nodes_addLetter) k_Reader_readName J K (n + 1) 31 L S M = ai_iload 1 32 (am_run (c_Reader_readName s_Tokens_endOf s_Reader_add s_Tokens_startOf s_Text_at s_Nodes_addLetter) k_Reader_readName J K n) K 31 L S M := by rfl
theorem r_Reader_readName_32 {s_Tokens_endOf : aS} {s_Reader_add : aS} {s_Tokens_startOf : aS} {s_Text_at : aS} {s_Nodes_addLetter : aS} {J : aJ} {K : aR} {n : Nat} {L : aL} {S : List Value} {M : aM} : am_run (c_Reader_readName s_Tokens_endOf s_Reader_add s_Tokens_startOf s_Text_at s_Nodes_addLetter) k_Reader_readName J K (n + 1) 32 L S M = ai_cmpge 57 35 (am_run (c_Reader_readName s_Tokens_endOf s_Reader_add s_Tokens_startOf s_Text_at s_Nodes_addLetter) k_Reader_readName J K n) K 32 L S M := by rfl
theorem r_Reader_readName_35 {s_Tokens_endOf : aS} {s_Reader_add : aS} {s_Tokens_startOf : aS} {s_Text_at : aS} {s_Nodes_addLetter : aS} {J : aJ} {K : aR} {n : Nat} {L : aL} {S : List Value} {M : aM} : am_run (c_Reader_readName s_Tokens_endOf s_Reader_add s_Tokens_startOf s_Text_at s_Nodes_addLetter) k_Reader_readName J K (n + 1) 35 L S M = ai_aload 0 36 (am_run (c_Reader_readName s_Tokens_endOf s_Reader_add s_Tokens_startOf s_Text_at s_Nodes_addLetter) k_Reader_readName J K n) K 35 L S M := by rfl
theorem r_Reader_readName_36 {s_Tokens_endOf : aS} {s_Reader_add : aS} {s_Tokens_startOf : aS} {s_Text_at : aS} {s_Nodes_addLetter : aS} {J : aJ} {K : aR} {n : Nat} {L : aL} {S : List Value} {M : aM} : am_run (c_Reader_readName s_Tokens_endOf s_Reader_add s_Tokens_startOf s_Text_at s_Nodes_addLetter) k_Reader_readName J K (n + 1) 36 L S M = ai_getf 1 1 39 (am_run (c_Reader_readName s_Tokens_endOf s_Reader_add s_Tokens_startOf s_Text_at s_Nodes_addLetter) k_Reader_readName J K n) K 36 L S M := by rfl
theorem r_Reader_readName_39 {s_Tokens_endOf : aS} {s_Reader_add : aS} {s_Tokens_startOf : aS} {s_Text_at : aS} {s_Nodes_addLetter : aS} {J : aJ} {K : aR} {n : Nat} {L : aL} {S : List Value} {M : aM} : am_run (c_Reader_readName s_Tokens_endOf s_Reader_add s_Tokens_startOf s_Text_at s_Nodes_addLetter) k_Reader_readName J K (n + 1) 39 L S M = ai_iload 2 40 (am_run (c_Reader_readName s_Tokens_endOf s_Reader_add s_Tokens_startOf s_Text_at s_Nodes_addLetter) k_Reader_readName J K n) K 39 L S M := by rfl
theorem r_Reader_readName_40 {s_Tokens_endOf : aS} {s_Reader_add : aS} {s_Tokens_startOf : aS} {s_Text_at : aS} {s_Nodes_addLetter : aS} {J : aJ} {K : aR} {n : Nat} {L : aL} {S : List Value} {M : aM} : am_run (c_Reader_readName s_Tokens_endOf s_Reader_add s_Tokens_startOf s_Text_at s_Nodes_addLetter) k_Reader_readName J K (n + 1) 40 L S M = ai_aload 0 41 (am_run (c_Reader_readName s_Tokens_endOf s_Reader_add s_Tokens_startOf s_Text_at s_Nodes_addLetter) k_Reader_readName J K n) K 40 L S M := by rfl
theorem r_Reader_readName_41 {s_Tokens_endOf : aS} {s_Reader_add : aS} {s_Tokens_startOf : aS} {s_Text_at : aS} {s_Nodes_addLetter : aS} {J : aJ} {K : aR} {n : Nat} {L : aL} {S : List Value} {M : aM} : am_run (c_Reader_readName s_Tokens_endOf s_Reader_add s_Tokens_startOf s_Text_at s_Nodes_addLetter) k_Reader_readName J K (n + 1) 41 L S M = ai_getf 1 0 44 (am_run (c_Reader_readName s_Tokens_endOf s_Reader_add s_Tokens_startOf s_Text_at s_Nodes_addLetter) k_Reader_readName J K n) K 41 L S M := by rfl
theorem r_Reader_readName_44 {s_Tokens_endOf : aS} {s_Reader_add : aS} {s_Tokens_startOf : aS} {s_Text_at : aS} {s_Nodes_addLetter : aS} {J : aJ} {K : aR} {n : Nat} {L : aL} {S : List Value} {M : aM} : am_run (c_Reader_readName s_Tokens_endOf s_Reader_add s_Tokens_startOf s_Text_at s_Nodes_addLetter) k_Reader_readName J K (n + 1) 44 L S M = ai_iload 3 45 (am_run (c_Reader_readName s_Tokens_endOf s_Reader_add s_Tokens_startOf s_Text_at s_Nodes_addLetter) k_Reader_readName J K n) K 44 L S M := by rfl
theorem r_Reader_readName_45 {s_Tokens_endOf : aS} {s_Reader_add : aS} {s_Tokens_startOf : aS} {s_Text_at : aS} {s_Nodes_addLetter : aS} {J : aJ} {K : aR} {n : Nat} {L : aL} {S : List Value} {M : aM} : am_run (c_Reader_readName s_Tokens_endOf s_Reader_add s_Tokens_startOf s_Text_at s_Nodes_addLetter) k_Reader_readName J K (n + 1) 45 L S M = ai_callv2 2 s_Text_at 48 (am_run (c_Reader_readName s_Tokens_endOf s_Reader_add s_Tokens_startOf s_Text_at s_Nodes_addLetter) k_Reader_readName J K n) K 45 L S M := by rfl
theorem r_Reader_readName_48 {s_Tokens_endOf : aS} {s_Reader_add : aS} {s_Tokens_startOf : aS} {s_Text_at : aS} {s_Nodes_addLetter : aS} {J : aJ} {K : aR} {n : Nat} {L : aL} {S : List Value} {M : aM} : am_run (c_Reader_readName s_Tokens_endOf s_Reader_add s_Tokens_startOf s_Text_at s_Nodes_addLetter) k_Reader_readName J K (n + 1) 48 L S M = ai_callv3 0 s_Nodes_addLetter 51 (am_run (c_Reader_readName s_Tokens_endOf s_Reader_add s_Tokens_startOf s_Text_at s_Nodes_addLetter) k_Reader_readName J K n) K 48 L S M := by rfl
theorem r_Reader_readName_51 {s_Tokens_endOf : aS} {s_Reader_add : aS} {s_Tokens_startOf : aS} {s_Text_at : aS} {s_Nodes_addLetter : aS} {J : aJ} {K : aR} {n : Nat} {L : aL} {S : List Value} {M : aM} : am_run (c_Reader_readName s_Tokens_endOf s_Reader_add s_Tokens_startOf s_Text_at s_Nodes_addLetter) k_Reader_readName J K (n + 1) 51 L S M = ai_iinc 3 1 54 (am_run (c_Reader_readName s_Tokens_endOf s_Reader_add s_Tokens_startOf s_Text_at s_Nodes_addLetter) k_Reader_readName J K n) K 51 L S M := by rfl
theorem r_Reader_readName_54 {s_Tokens_endOf : aS} {s_Reader_add : aS} {s_Tokens_startOf : aS} {s_Text_at : aS} {s_Nodes_addLetter : aS} {J : aJ} {K : aR} {n : Nat} {L : aL} {S : List Value} {M : aM} : am_run (c_Reader_readName s_Tokens_endOf s_Reader_add s_Tokens_startOf s_Text_at s_Nodes_addLetter) k_Reader_readName J K (n + 1) 54 L S M = ai_goto 30 (am_run (c_Reader_readName s_Tokens_endOf s_Reader_add s_Tokens_startOf s_Text_at s_Nodes_addLetter) k_Reader_readName J K n) K 54 L S M := by rfl
theorem r_Reader_readName_57 {s_Tokens_endOf : aS} {s_Reader_add : aS} {s_Tokens_startOf : aS} {s_Text_at : aS} {s_Nodes_addLetter : aS} {J : aJ} {K : aR} {n : Nat} {L : aL} {S : List Value} {M : aM} : am_run (c_Reader_readName s_Tokens_endOf s_Reader_add s_Tokens_startOf s_Text_at s_Nodes_addLetter) k_Reader_readName J K (n + 1) 57 L S M = ai_iload 2 58 (am_run (c_Reader_readName s_Tokens_endOf s_Reader_add s_Tokens_startOf s_Text_at s_Nodes_addLetter) k_Reader_readName J K n) K 57 L S M := by rfl
theorem r_Reader_readName_58 {s_Tokens_endOf : aS} {s_Reader_add : aS} {s_Tokens_startOf : aS} {s_Text_at : aS} {s_Nodes_addLetter : aS} {J : aJ} {K : aR} {n : Nat} {L : aL} {S : List Value} {M : aM} : am_run (c_Reader_readName s_Tokens_endOf s_Reader_add s_Tokens_startOf s_Text_at s_Nodes_addLetter) k_Reader_readName J K (n + 1) 58 L S M = ai_iret (am_run (c_Reader_readName s_Tokens_endOf s_Reader_add s_Tokens_startOf s_Text_at s_Nodes_addLetter) k_Reader_readName J K n) K 58 L S M := by rfl
def c_Reader_readString (s_Tokens_endOf : aS) (s_Reader_add : aS) (s_Tokens_startOf : aS) (s_Text_at : aS) (s_Nodes_addLetter : aS) : List (Nat × aI) := [
  (0, ai_aload 0 1),
  (1, ai_getf 1 2 4),
  (4, ai_aload 0 5),
  (5, ai_getf 1 3 8),
  (8, ai_callv2 3 s_Tokens_endOf 11),
  (11, ai_const 1 12),
  (12, ai_isub 13),
  (13, ai_istore 1 14),
  (14, ai_aload 0 15),
  (15, ai_const 3 16),
  (16, ai_callv2 1 s_Reader_add 19),
  (19, ai_istore 2 20),
  (20, ai_aload 0 21),
  (21, ai_getf 1 2 24),
  (24, ai_aload 0 25),
  (25, ai_getf 1 3 28),
  (28, ai_callv2 3 s_Tokens_startOf 31),
  (31, ai_const 1 32),
  (32, ai_iadd 33),
  (33, ai_istore 3 34),
  (34, ai_iload 3 35),
  (35, ai_iload 1 36),
  (36, ai_cmpge 77 39),
  (39, ai_aload 0 40),
  (40, ai_getf 1 0 43),
  (43, ai_iload 3 44),
  (44, ai_callv2 2 s_Text_at 47),
  (47, ai_const 92 49),
  (49, ai_cmpne 55 52),
  (52, ai_iinc 3 1 55),
  (55, ai_aload 0 56),
  (56, ai_getf 1 1 59),
  (59, ai_iload 2 60),
  (60, ai_aload 0 61),
  (61, ai_getf 1 0 64),
  (64, ai_iload 3 65),
  (65, ai_callv2 2 s_Text_at 68),
  (68, ai_callv3 0 s_Nodes_addLetter 71),
  (71, ai_iinc 3 1 74),
  (74, ai_goto 34),
  (77, ai_iload 2 78),
  (78, ai_iret)]
set_option maxRecDepth 100000 in
set_option maxHeartbeats 4000000 in
theorem tb_Reader_readString {G : aG} {d : Nat} {s_Tokens_endOf : aS} {d_Tokens_endOf : Nat} (h_Tokens_endOf : am_Sp G Y_Tokens_endOf d_Tokens_endOf s_Tokens_endOf) (l_Tokens_endOf : d_Tokens_endOf < d) {s_Reader_add : aS} {d_Reader_add : Nat} (h_Reader_add : am_Sp G Y_Reader_add d_Reader_add s_Reader_add) (l_Reader_add : d_Reader_add < d) {s_Tokens_startOf : aS} {d_Tokens_startOf : Nat} (h_Tokens_startOf : am_Sp G Y_Tokens_startOf d_Tokens_startOf s_Tokens_startOf) (l_Tokens_startOf : d_Tokens_startOf < d) {s_Text_at : aS} {d_Text_at : Nat} (h_Text_at : am_Sp G Y_Text_at d_Text_at s_Text_at) (l_Text_at : d_Text_at < d) {s_Nodes_addLetter : aS} {d_Nodes_addLetter : Nat} (h_Nodes_addLetter : am_Sp G Y_Nodes_addLetter d_Nodes_addLetter s_Nodes_addLetter) (l_Nodes_addLetter : d_Nodes_addLetter < d) : am_tab G Y_Reader_readString d (c_Reader_readString s_Tokens_endOf s_Reader_add s_Tokens_startOf s_Text_at s_Nodes_addLetter) := by
  intro K p e s m args below meth c C
  exact ⟨as_aload_n C (pc := 0) (q := 0) (by decide +kernel) rfl rfl,
    as_getf C (pc := 1) (T := T_Reader) (N := 5) rfl in_Reader (by decide) rfl w_178 (by decide +kernel) rfl,
    as_aload_n C (pc := 4) (q := 0) (by decide +kernel) rfl rfl,
    as_getf C (pc := 5) (T := T_Reader) (N := 5) rfl in_Reader (by decide) rfl w_179 (by decide +kernel) rfl,
    as_callv2N C (pc := 8) h_Tokens_endOf (T := T_Tokens) (N := 4) rfl w_316 w_75 w_315 w_15 w_313 hy_Tokens_endOf (am_rm_of l_Tokens_endOf (by decide)) (by decide +kernel) rfl,
    as_iconst C (pc := 11) (n := 1) (by decide +kernel) (by decide +kernel) rfl,
    as_isub C (pc := 12) (by decide +kernel) rfl,
    as_istore_n C (pc := 13) (q := 1) (by decide +kernel) rfl (by decide) rfl,
    as_aload_n C (pc := 14) (q := 0) (by decide +kernel) rfl rfl,
    as_iconst C (pc := 15) (n := 3) (by decide +kernel) (by decide +kernel) rfl,
    as_callv2 C (pc := 16) h_Reader_add (T := T_Reader) (N := 5) rfl w_325 w_74 w_324 w_17 w_322 hy_Reader_add (am_rm_of l_Reader_add (by decide)) (by decide +kernel) rfl,
    as_istore_n C (pc := 19) (q := 2) (by decide +kernel) rfl (by decide) rfl,
    as_aload_n C (pc := 20) (q := 0) (by decide +kernel) rfl rfl,
    as_getf C (pc := 21) (T := T_Reader) (N := 5) rfl in_Reader (by decide) rfl w_178 (by decide +kernel) rfl,
    as_aload_n C (pc := 24) (q := 0) (by decide +kernel) rfl rfl,
    as_getf C (pc := 25) (T := T_Reader) (N := 5) rfl in_Reader (by decide) rfl w_179 (by decide +kernel) rfl,
    as_callv2N C (pc := 28) h_Tokens_startOf (T := T_Tokens) (N := 4) rfl w_320 w_75 w_319 w_16 w_317 hy_Tokens_startOf (am_rm_of l_Tokens_startOf (by decide)) (by decide +kernel) rfl,
    as_iconst C (pc := 31) (n := 1) (by decide +kernel) (by decide +kernel) rfl,
    as_iadd C (pc := 32) (by decide +kernel) rfl,
    as_istore_n C (pc := 33) (q := 3) (by decide +kernel) rfl (by decide) rfl,
    as_iload_n C (pc := 34) (q := 3) (by decide +kernel) rfl rfl,
    as_iload_n C (pc := 35) (q := 1) (by decide +kernel) rfl rfl,
    as_cmpge C (pc := 36) (off := 41) (by decide +kernel) (by decide) rfl,
    as_aload_n C (pc := 39) (q := 0) (by decide +kernel) rfl rfl,
    as_getf C (pc := 40) (T := T_Reader) (N := 5) rfl in_Reader (by decide) rfl w_176 (by decide +kernel) rfl,
    as_iload_n C (pc := 43) (q := 3) (by decide +kernel) rfl rfl,
    as_callv2N C (pc := 44) h_Text_at (T := T_Text) (N := 2) rfl w_270 w_71 w_269 w_5 w_321 hy_Text_at (am_rm_of l_Text_at (by decide)) (by decide +kernel) rfl,
    as_bipush C (pc := 47) (n := 92) (by decide +kernel) (by decide +kernel) rfl,
    as_cmpne C (pc := 49) (off := 6) (by decide +kernel) (by decide) rfl,
    as_iinc C (pc := 52) (k := 3) (n := 1) (by decide +kernel) (by decide +kernel) (by decide) rfl,
    as_aload_n C (pc := 55) (q := 0) (by decide +kernel) rfl rfl,
    as_getf C (pc := 56) (T := T_Reader) (N := 5) rfl in_Reader (by decide) rfl w_177 (by decide +kernel) rfl,
    as_iload_n C (pc := 59) (q := 2) (by decide +kernel) rfl rfl,
    as_aload_n C (pc := 60) (q := 0) (by decide +kernel) rfl rfl,
    as_getf C (pc := 61) (T := T_Reader) (N := 5) rfl in_Reader (by decide) rfl w_176 (by decide +kernel) rfl,
    as_iload_n C (pc := 64) (q := 3) (by decide +kernel) rfl rfl,
    as_callv2N C (pc := 65) h_Text_at (T := T_Text) (N := 2) rfl w_270 w_71 w_269 w_5 w_321 hy_Text_at (am_rm_of l_Text_at (by decide)) (by decide +kernel) rfl,
    as_callv3N C (pc := 68) h_Nodes_addLetter (T := T_Nodes) (N := 10) rfl w_349 w_72 w_348 w_23 w_346 hy_Nodes_addLetter (am_rm_of l_Nodes_addLetter (by decide)) (by decide +kernel) rfl,
    as_iinc C (pc := 71) (k := 3) (n := 1) (by decide +kernel) (by decide +kernel) (by decide) rfl,
    as_goto C (pc := 74) (off := (-40)) (by decide +kernel) (by decide),
    as_iload_n C (pc := 77) (q := 2) (by decide +kernel) rfl rfl,
    as_iret C (pc := 78) rfl (by decide +kernel), trivial⟩
abbrev k_Reader_readString : List Nat := [34]
theorem q_Reader_readString_34 {s_Tokens_endOf : aS} {s_Reader_add : aS} {s_Tokens_startOf : aS} {s_Text_at : aS} {s_Nodes_addLetter : aS} : am_at (c_Reader_readString s_Tokens_endOf s_Reader_add s_Tokens_startOf s_Text_at s_Nodes_addLetter) 34 = ai_iload 3 35 := by rfl
theorem r_Reader_readString_0 {s_Tokens_endOf : aS} {s_Reader_add : aS} {s_Tokens_startOf : aS} {s_Text_at : aS} {s_Nodes_addLetter : aS} {J : aJ} {K : aR} {n : Nat} {L : aL} {S : List Value} {M : aM} : am_run (c_Reader_readString s_Tokens_endOf s_Reader_add s_Tokens_startOf s_Text_at s_Nodes_addLetter) k_Reader_readString J K (n + 1) 0 L S M = ai_aload 0 1 (am_run (c_Reader_readString s_Tokens_endOf s_Reader_add s_Tokens_startOf s_Text_at s_Nodes_addLetter) k_Reader_readString J K n) K 0 L S M := by rfl
theorem r_Reader_readString_1 {s_Tokens_endOf : aS} {s_Reader_add : aS} {s_Tokens_startOf : aS} {s_Text_at : aS} {s_Nodes_addLetter : aS} {J : aJ} {K : aR} {n : Nat} {L : aL} {S : List Value} {M : aM} : am_run (c_Reader_readString s_Tokens_endOf s_Reader_add s_Tokens_startOf s_Text_at s_Nodes_addLetter) k_Reader_readString J K (n + 1) 1 L S M = ai_getf 1 2 4 (am_run (c_Reader_readString s_Tokens_endOf s_Reader_add s_Tokens_startOf s_Text_at s_Nodes_addLetter) k_Reader_readString J K n) K 1 L S M := by rfl
theorem r_Reader_readString_4 {s_Tokens_endOf : aS} {s_Reader_add : aS} {s_Tokens_startOf : aS} {s_Text_at : aS} {s_Nodes_addLetter : aS} {J : aJ} {K : aR} {n : Nat} {L : aL} {S : List Value} {M : aM} : am_run (c_Reader_readString s_Tokens_endOf s_Reader_add s_Tokens_startOf s_Text_at s_Nodes_addLetter) k_Reader_readString J K (n + 1) 4 L S M = ai_aload 0 5 (am_run (c_Reader_readString s_Tokens_endOf s_Reader_add s_Tokens_startOf s_Text_at s_Nodes_addLetter) k_Reader_readString J K n) K 4 L S M := by rfl
theorem r_Reader_readString_5 {s_Tokens_endOf : aS} {s_Reader_add : aS} {s_Tokens_startOf : aS} {s_Text_at : aS} {s_Nodes_addLetter : aS} {J : aJ} {K : aR} {n : Nat} {L : aL} {S : List Value} {M : aM} : am_run (c_Reader_readString s_Tokens_endOf s_Reader_add s_Tokens_startOf s_Text_at s_Nodes_addLetter) k_Reader_readString J K (n + 1) 5 L S M = ai_getf 1 3 8 (am_run (c_Reader_readString s_Tokens_endOf s_Reader_add s_Tokens_startOf s_Text_at s_Nodes_addLetter) k_Reader_readString J K n) K 5 L S M := by rfl
theorem r_Reader_readString_8 {s_Tokens_endOf : aS} {s_Reader_add : aS} {s_Tokens_startOf : aS} {s_Text_at : aS} {s_Nodes_addLetter : aS} {J : aJ} {K : aR} {n : Nat} {L : aL} {S : List Value} {M : aM} : am_run (c_Reader_readString s_Tokens_endOf s_Reader_add s_Tokens_startOf s_Text_at s_Nodes_addLetter) k_Reader_readString J K (n + 1) 8 L S M = ai_callv2 3 s_Tokens_endOf 11 (am_run (c_Reader_readString s_Tokens_endOf s_Reader_add s_Tokens_startOf s_Text_at s_Nodes_addLetter) k_Reader_readString J K n) K 8 L S M := by rfl
theorem r_Reader_readString_11 {s_Tokens_endOf : aS} {s_Reader_add : aS} {s_Tokens_startOf : aS} {s_Text_at : aS} {s_Nodes_addLetter : aS} {J : aJ} {K : aR} {n : Nat} {L : aL} {S : List Value} {M : aM} : am_run (c_Reader_readString s_Tokens_endOf s_Reader_add s_Tokens_startOf s_Text_at s_Nodes_addLetter) k_Reader_readString J K (n + 1) 11 L S M = ai_const 1 12 (am_run (c_Reader_readString s_Tokens_endOf s_Reader_add s_Tokens_startOf s_Text_at s_Nodes_addLetter) k_Reader_readString J K n) K 11 L S M := by rfl
theorem r_Reader_readString_12 {s_Tokens_endOf : aS} {s_Reader_add : aS} {s_Tokens_startOf : aS} {s_Text_at : aS} {s_Nodes_addLetter : aS} {J : aJ} {K : aR} {n : Nat} {L : aL} {S : List Value} {M : aM} : am_run (c_Reader_readString s_Tokens_endOf s_Reader_add s_Tokens_startOf s_Text_at s_Nodes_addLetter) k_Reader_readString J K (n + 1) 12 L S M = ai_isub 13 (am_run (c_Reader_readString s_Tokens_endOf s_Reader_add s_Tokens_startOf s_Text_at s_Nodes_addLetter) k_Reader_readString J K n) K 12 L S M := by rfl
theorem r_Reader_readString_13 {s_Tokens_endOf : aS} {s_Reader_add : aS} {s_Tokens_startOf : aS} {s_Text_at : aS} {s_Nodes_addLetter : aS} {J : aJ} {K : aR} {n : Nat} {L : aL} {S : List Value} {M : aM} : am_run (c_Reader_readString s_Tokens_endOf s_Reader_add s_Tokens_startOf s_Text_at s_Nodes_addLetter) k_Reader_readString J K (n + 1) 13 L S M = ai_istore 1 14 (am_run (c_Reader_readString s_Tokens_endOf s_Reader_add s_Tokens_startOf s_Text_at s_Nodes_addLetter) k_Reader_readString J K n) K 13 L S M := by rfl
theorem r_Reader_readString_14 {s_Tokens_endOf : aS} {s_Reader_add : aS} {s_Tokens_startOf : aS} {s_Text_at : aS} {s_Nodes_addLetter : aS} {J : aJ} {K : aR} {n : Nat} {L : aL} {S : List Value} {M : aM} : am_run (c_Reader_readString s_Tokens_endOf s_Reader_add s_Tokens_startOf s_Text_at s_Nodes_addLetter) k_Reader_readString J K (n + 1) 14 L S M = ai_aload 0 15 (am_run (c_Reader_readString s_Tokens_endOf s_Reader_add s_Tokens_startOf s_Text_at s_Nodes_addLetter) k_Reader_readString J K n) K 14 L S M := by rfl
theorem r_Reader_readString_15 {s_Tokens_endOf : aS} {s_Reader_add : aS} {s_Tokens_startOf : aS} {s_Text_at : aS} {s_Nodes_addLetter : aS} {J : aJ} {K : aR} {n : Nat} {L : aL} {S : List Value} {M : aM} : am_run (c_Reader_readString s_Tokens_endOf s_Reader_add s_Tokens_startOf s_Text_at s_Nodes_addLetter) k_Reader_readString J K (n + 1) 15 L S M = ai_const 3 16 (am_run (c_Reader_readString s_Tokens_endOf s_Reader_add s_Tokens_startOf s_Text_at s_Nodes_addLetter) k_Reader_readString J K n) K 15 L S M := by rfl
theorem r_Reader_readString_16 {s_Tokens_endOf : aS} {s_Reader_add : aS} {s_Tokens_startOf : aS} {s_Text_at : aS} {s_Nodes_addLetter : aS} {J : aJ} {K : aR} {n : Nat} {L : aL} {S : List Value} {M : aM} : am_run (c_Reader_readString s_Tokens_endOf s_Reader_add s_Tokens_startOf s_Text_at s_Nodes_addLetter) k_Reader_readString J K (n + 1) 16 L S M = ai_callv2 1 s_Reader_add 19 (am_run (c_Reader_readString s_Tokens_endOf s_Reader_add s_Tokens_startOf s_Text_at s_Nodes_addLetter) k_Reader_readString J K n) K 16 L S M := by rfl
theorem r_Reader_readString_19 {s_Tokens_endOf : aS} {s_Reader_add : aS} {s_Tokens_startOf : aS} {s_Text_at : aS} {s_Nodes_addLetter : aS} {J : aJ} {K : aR} {n : Nat} {L : aL} {S : List Value} {M : aM} : am_run (c_Reader_readString s_Tokens_endOf s_Reader_add s_Tokens_startOf s_Text_at s_Nodes_addLetter) k_Reader_readString J K (n + 1) 19 L S M = ai_istore 2 20 (am_run (c_Reader_readString s_Tokens_endOf s_Reader_add s_Tokens_startOf s_Text_at s_Nodes_addLetter) k_Reader_readString J K n) K 19 L S M := by rfl
theorem r_Reader_readString_20 {s_Tokens_endOf : aS} {s_Reader_add : aS} {s_Tokens_startOf : aS} {s_Text_at : aS} {s_Nodes_addLetter : aS} {J : aJ} {K : aR} {n : Nat} {L : aL} {S : List Value} {M : aM} : am_run (c_Reader_readString s_Tokens_endOf s_Reader_add s_Tokens_startOf s_Text_at s_Nodes_addLetter) k_Reader_readString J K (n + 1) 20 L S M = ai_aload 0 21 (am_run (c_Reader_readString s_Tokens_endOf s_Reader_add s_Tokens_startOf s_Text_at s_Nodes_addLetter) k_Reader_readString J K n) K 20 L S M := by rfl
theorem r_Reader_readString_21 {s_Tokens_endOf : aS} {s_Reader_add : aS} {s_Tokens_startOf : aS} {s_Text_at : aS} {s_Nodes_addLetter : aS} {J : aJ} {K : aR} {n : Nat} {L : aL} {S : List Value} {M : aM} : am_run (c_Reader_readString s_Tokens_endOf s_Reader_add s_Tokens_startOf s_Text_at s_Nodes_addLetter) k_Reader_readString J K (n + 1) 21 L S M = ai_getf 1 2 24 (am_run (c_Reader_readString s_Tokens_endOf s_Reader_add s_Tokens_startOf s_Text_at s_Nodes_addLetter) k_Reader_readString J K n) K 21 L S M := by rfl
theorem r_Reader_readString_24 {s_Tokens_endOf : aS} {s_Reader_add : aS} {s_Tokens_startOf : aS} {s_Text_at : aS} {s_Nodes_addLetter : aS} {J : aJ} {K : aR} {n : Nat} {L : aL} {S : List Value} {M : aM} : am_run (c_Reader_readString s_Tokens_endOf s_Reader_add s_Tokens_startOf s_Text_at s_Nodes_addLetter) k_Reader_readString J K (n + 1) 24 L S M = ai_aload 0 25 (am_run (c_Reader_readString s_Tokens_endOf s_Reader_add s_Tokens_startOf s_Text_at s_Nodes_addLetter) k_Reader_readString J K n) K 24 L S M := by rfl
theorem r_Reader_readString_25 {s_Tokens_endOf : aS} {s_Reader_add : aS} {s_Tokens_startOf : aS} {s_Text_at : aS} {s_Nodes_addLetter : aS} {J : aJ} {K : aR} {n : Nat} {L : aL} {S : List Value} {M : aM} : am_run (c_Reader_readString s_Tokens_endOf s_Reader_add s_Tokens_startOf s_Text_at s_Nodes_addLetter) k_Reader_readString J K (n + 1) 25 L S M = ai_getf 1 3 28 (am_run (c_Reader_readString s_Tokens_endOf s_Reader_add s_Tokens_startOf s_Text_at s_Nodes_addLetter) k_Reader_readString J K n) K 25 L S M := by rfl
theorem r_Reader_readString_28 {s_Tokens_endOf : aS} {s_Reader_add : aS} {s_Tokens_startOf : aS} {s_Text_at : aS} {s_Nodes_addLetter : aS} {J : aJ} {K : aR} {n : Nat} {L : aL} {S : List Value} {M : aM} : am_run (c_Reader_readString s_Tokens_endOf s_Reader_add s_Tokens_startOf s_Text_at s_Nodes_addLetter) k_Reader_readString J K (n + 1) 28 L S M = ai_callv2 3 s_Tokens_startOf 31 (am_run (c_Reader_readString s_Tokens_endOf s_Reader_add s_Tokens_startOf s_Text_at s_Nodes_addLetter) k_Reader_readString J K n) K 28 L S M := by rfl
theorem r_Reader_readString_31 {s_Tokens_endOf : aS} {s_Reader_add : aS} {s_Tokens_startOf : aS} {s_Text_at : aS} {s_Nodes_addLetter : aS} {J : aJ} {K : aR} {n : Nat} {L : aL} {S : List Value} {M : aM} : am_run (c_Reader_readString s_Tokens_endOf s_Reader_add s_Tokens_startOf s_Text_at s_Nodes_addLetter) k_Reader_readString J K (n + 1) 31 L S M = ai_const 1 32 (am_run (c_Reader_readString s_Tokens_endOf s_Reader_add s_Tokens_startOf s_Text_at s_Nodes_addLetter) k_Reader_readString J K n) K 31 L S M := by rfl
theorem r_Reader_readString_32 {s_Tokens_endOf : aS} {s_Reader_add : aS} {s_Tokens_startOf : aS} {s_Text_at : aS} {s_Nodes_addLetter : aS} {J : aJ} {K : aR} {n : Nat} {L : aL} {S : List Value} {M : aM} : am_run (c_Reader_readString s_Tokens_endOf s_Reader_add s_Tokens_startOf s_Text_at s_Nodes_addLetter) k_Reader_readString J K (n + 1) 32 L S M = ai_iadd 33 (am_run (c_Reader_readString s_Tokens_endOf s_Reader_add s_Tokens_startOf s_Text_at s_Nodes_addLetter) k_Reader_readString J K n) K 32 L S M := by rfl
theorem r_Reader_readString_33 {s_Tokens_endOf : aS} {s_Reader_add : aS} {s_Tokens_startOf : aS} {s_Text_at : aS} {s_Nodes_addLetter : aS} {J : aJ} {K : aR} {n : Nat} {L : aL} {S : List Value} {M : aM} : am_run (c_Reader_readString s_Tokens_endOf s_Reader_add s_Tokens_startOf s_Text_at s_Nodes_addLetter) k_Reader_readString J K (n + 1) 33 L S M = ai_istore 3 34 (am_run (c_Reader_readString s_Tokens_endOf s_Reader_add s_Tokens_startOf s_Text_at s_Nodes_addLetter) k_Reader_readString J K n) K 33 L S M := by rfl
theorem r_Reader_readString_34 {s_Tokens_endOf : aS} {s_Reader_add : aS} {s_Tokens_startOf : aS} {s_Text_at : aS} {s_Nodes_addLetter : aS} {J : aJ} {K : aR} {n : Nat} {L : aL} {S : List Value} {M : aM} : am_run (c_Reader_readString s_Tokens_endOf s_Reader_add s_Tokens_startOf s_Text_at s_Nodes_addLetter) k_Reader_readString J K (n + 1) 34 L S M = J 34 L S M := by rfl
theorem r_Reader_readString_35 {s_Tokens_endOf : aS} {s_Reader_add : aS} {s_Tokens_startOf : aS} {s_Text_at : aS} {s_Nodes_addLetter : aS} {J : aJ} {K : aR} {n : Nat} {L : aL} {S : List Value} {M : aM} : am_run (c_Reader_readString s_Tokens_endOf s_Reader_add s_Tokens_startOf s_Text_at s_Nodes_addLetter) k_Reader_readString J K (n + 1) 35 L S M = ai_iload 1 36 (am_run (c_Reader_readString s_Tokens_endOf s_Reader_add s_Tokens_startOf s_Text_at s_Nodes_addLetter) k_Reader_readString J K n) K 35 L S M := by rfl
theorem r_Reader_readString_36 {s_Tokens_endOf : aS} {s_Reader_add : aS} {s_Tokens_startOf : aS} {s_Text_at : aS} {s_Nodes_addLetter : aS} {J : aJ} {K : aR} {n : Nat} {L : aL} {S : List Value} {M : aM} : am_run (c_Reader_readString s_Tokens_endOf s_Reader_add s_Tokens_startOf s_Text_at s_Nodes_addLetter) k_Reader_readString J K (n + 1) 36 L S M = ai_cmpge 77 39 (am_run (c_Reader_readString s_Tokens_endOf s_Reader_add s_Tokens_startOf s_Text_at s_Nodes_addLetter) k_Reader_readString J K n) K 36 L S M := by rfl
theorem r_Reader_readString_39 {s_Tokens_endOf : aS} {s_Reader_add : aS} {s_Tokens_startOf : aS} {s_Text_at : aS} {s_Nodes_addLetter : aS} {J : aJ} {K : aR} {n : Nat} {L : aL} {S : List Value} {M : aM} : am_run (c_Reader_readString s_Tokens_endOf s_Reader_add s_Tokens_startOf s_Text_at s_Nodes_addLetter) k_Reader_readString J K (n + 1) 39 L S M = ai_aload 0 40 (am_run (c_Reader_readString s_Tokens_endOf s_Reader_add s_Tokens_startOf s_Text_at s_Nodes_addLetter) k_Reader_readString J K n) K 39 L S M := by rfl
theorem r_Reader_readString_40 {s_Tokens_endOf : aS} {s_Reader_add : aS} {s_Tokens_startOf : aS} {s_Text_at : aS} {s_Nodes_addLetter : aS} {J : aJ} {K : aR} {n : Nat} {L : aL} {S : List Value} {M : aM} : am_run (c_Reader_readString s_Tokens_endOf s_Reader_add s_Tokens_startOf s_Text_at s_Nodes_addLetter) k_Reader_readString J K (n + 1) 40 L S M = ai_getf 1 0 43 (am_run (c_Reader_readString s_Tokens_endOf s_Reader_add s_Tokens_startOf s_Text_at s_Nodes_addLetter) k_Reader_readString J K n) K 40 L S M := by rfl
theorem r_Reader_readString_43 {s_Tokens_endOf : aS} {s_Reader_add : aS} {s_Tokens_startOf : aS} {s_Text_at : aS} {s_Nodes_addLetter : aS} {J : aJ} {K : aR} {n : Nat} {L : aL} {S : List Value} {M : aM} : am_run (c_Reader_readString s_Tokens_endOf s_Reader_add s_Tokens_startOf s_Text_at s_Nodes_addLetter) k_Reader_readString J K (n + 1) 43 L S M = ai_iload 3 44 (am_run (c_Reader_readString s_Tokens_endOf s_Reader_add s_Tokens_startOf s_Text_at s_Nodes_addLetter) k_Reader_readString J K n) K 43 L S M := by rfl
theorem r_Reader_readString_44 {s_Tokens_endOf : aS} {s_Reader_add : aS} {s_Tokens_startOf : aS} {s_Text_at : aS} {s_Nodes_addLetter : aS} {J : aJ} {K : aR} {n : Nat} {L : aL} {S : List Value} {M : aM} : am_run (c_Reader_readString s_Tokens_endOf s_Reader_add s_Tokens_startOf s_Text_at s_Nodes_addLetter) k_Reader_readString J K (n + 1) 44 L S M = ai_callv2 2 s_Text_at 47 (am_run (c_Reader_readString s_Tokens_endOf s_Reader_add s_Tokens_startOf s_Text_at s_Nodes_addLetter) k_Reader_readString J K n) K 44 L S M := by rfl
theorem r_Reader_readString_47 {s_Tokens_endOf : aS} {s_Reader_add : aS} {s_Tokens_startOf : aS} {s_Text_at : aS} {s_Nodes_addLetter : aS} {J : aJ} {K : aR} {n : Nat} {L : aL} {S : List Value} {M : aM} : am_run (c_Reader_readString s_Tokens_endOf s_Reader_add s_Tokens_startOf s_Text_at s_Nodes_addLetter) k_Reader_readString J K (n + 1) 47 L S M = ai_const 92 49 (am_run (c_Reader_readString s_Tokens_endOf s_Reader_add s_Tokens_startOf s_Text_at s_Nodes_addLetter) k_Reader_readString J K n) K 47 L S M := by rfl
theorem r_Reader_readString_49 {s_Tokens_endOf : aS} {s_Reader_add : aS} {s_Tokens_startOf : aS} {s_Text_at : aS} {s_Nodes_addLetter : aS} {J : aJ} {K : aR} {n : Nat} {L : aL} {S : List Value} {M : aM} : am_run (c_Reader_readString s_Tokens_endOf s_Reader_add s_Tokens_startOf s_Text_at s_Nodes_addLetter) k_Reader_readString J K (n + 1) 49 L S M = ai_cmpne 55 52 (am_run (c_Reader_readString s_Tokens_endOf s_Reader_add s_Tokens_startOf s_Text_at s_Nodes_addLetter) k_Reader_readString J K n) K 49 L S M := by rfl
theorem r_Reader_readString_52 {s_Tokens_endOf : aS} {s_Reader_add : aS} {s_Tokens_startOf : aS} {s_Text_at : aS} {s_Nodes_addLetter : aS} {J : aJ} {K : aR} {n : Nat} {L : aL} {S : List Value} {M : aM} : am_run (c_Reader_readString s_Tokens_endOf s_Reader_add s_Tokens_startOf s_Text_at s_Nodes_addLetter) k_Reader_readString J K (n + 1) 52 L S M = ai_iinc 3 1 55 (am_run (c_Reader_readString s_Tokens_endOf s_Reader_add s_Tokens_startOf s_Text_at s_Nodes_addLetter) k_Reader_readString J K n) K 52 L S M := by rfl
theorem r_Reader_readString_55 {s_Tokens_endOf : aS} {s_Reader_add : aS} {s_Tokens_startOf : aS} {s_Text_at : aS} {s_Nodes_addLetter : aS} {J : aJ} {K : aR} {n : Nat} {L : aL} {S : List Value} {M : aM} : am_run (c_Reader_readString s_Tokens_endOf s_Reader_add s_Tokens_startOf s_Text_at s_Nodes_addLetter) k_Reader_readString J K (n + 1) 55 L S M = ai_aload 0 56 (am_run (c_Reader_readString s_Tokens_endOf s_Reader_add s_Tokens_startOf s_Text_at s_Nodes_addLetter) k_Reader_readString J K n) K 55 L S M := by rfl
theorem r_Reader_readString_56 {s_Tokens_endOf : aS} {s_Reader_add : aS} {s_Tokens_startOf : aS} {s_Text_at : aS} {s_Nodes_addLetter : aS} {J : aJ} {K : aR} {n : Nat} {L : aL} {S : List Value} {M : aM} : am_run (c_Reader_readString s_Tokens_endOf s_Reader_add s_Tokens_startOf s_Text_at s_Nodes_addLetter) k_Reader_readString J K (n + 1) 56 L S M = ai_getf 1 1 59 (am_run (c_Reader_readString s_Tokens_endOf s_Reader_add s_Tokens_startOf s_Text_at s_Nodes_addLetter) k_Reader_readString J K n) K 56 L S M := by rfl
theorem r_Reader_readString_59 {s_Tokens_endOf : aS} {s_Reader_add : aS} {s_Tokens_startOf : aS} {s_Text_at : aS} {s_Nodes_addLetter : aS} {J : aJ} {K : aR} {n : Nat} {L : aL} {S : List Value} {M : aM} : am_run (c_Reader_readString s_Tokens_endOf s_Reader_add s_Tokens_startOf s_Text_at s_Nodes_addLetter) k_Reader_readString J K (n + 1) 59 L S M = ai_iload 2 60 (am_run (c_Reader_readString s_Tokens_endOf s_Reader_add s_Tokens_startOf s_Text_at s_Nodes_addLetter) k_Reader_readString J K n) K 59 L S M := by rfl
theorem r_Reader_readString_60 {s_Tokens_endOf : aS} {s_Reader_add : aS} {s_Tokens_startOf : aS} {s_Text_at : aS} {s_Nodes_addLetter : aS} {J : aJ} {K : aR} {n : Nat} {L : aL} {S : List Value} {M : aM} : am_run (c_Reader_readString s_Tokens_endOf s_Reader_add s_Tokens_startOf s_Text_at s_Nodes_addLetter) k_Reader_readString J K (n + 1) 60 L S M = ai_aload 0 61 (am_run (c_Reader_readString s_Tokens_endOf s_Reader_add s_Tokens_startOf s_Text_at s_Nodes_addLetter) k_Reader_readString J K n) K 60 L S M := by rfl
theorem r_Reader_readString_61 {s_Tokens_endOf : aS} {s_Reader_add : aS} {s_Tokens_startOf : aS} {s_Text_at : aS} {s_Nodes_addLetter : aS} {J : aJ} {K : aR} {n : Nat} {L : aL} {S : List Value} {M : aM} : am_run (c_Reader_readString s_Tokens_endOf s_Reader_add s_Tokens_startOf s_Text_at s_Nodes_addLetter) k_Reader_readString J K (n + 1) 61 L S M = ai_getf 1 0 64 (am_run (c_Reader_readString s_Tokens_endOf s_Reader_add s_Tokens_startOf s_Text_at s_Nodes_addLetter) k_Reader_readString J K n) K 61 L S M := by rfl
theorem r_Reader_readString_64 {s_Tokens_endOf : aS} {s_Reader_add : aS} {s_Tokens_startOf : aS} {s_Text_at : aS} {s_Nodes_addLetter : aS} {J : aJ} {K : aR} {n : Nat} {L : aL} {S : List Value} {M : aM} : am_run (c_Reader_readString s_Tokens_endOf s_Reader_add s_Tokens_startOf s_Text_at s_Nodes_addLetter) k_Reader_readString J K (n + 1) 64 L S M = ai_iload 3 65 (am_run (c_Reader_readString s_Tokens_endOf s_Reader_add s_Tokens_startOf s_Text_at s_Nodes_addLetter) k_Reader_readString J K n) K 64 L S M := by rfl
theorem r_Reader_readString_65 {s_Tokens_endOf : aS} {s_Reader_add : aS} {s_Tokens_startOf : aS} {s_Text_at : aS} {s_Nodes_addLetter : aS} {J : aJ} {K : aR} {n : Nat} {L : aL} {S : List Value} {M : aM} : am_run (c_Reader_readString s_Tokens_endOf s_Reader_add s_Tokens_startOf s_Text_at s_Nodes_addLetter) k_Reader_readString J K (n + 1) 65 L S M = ai_callv2 2 s_Text_at 68 (am_run (c_Reader_readString s_Tokens_endOf s_Reader_add s_Tokens_startOf s_Text_at s_Nodes_addLetter) k_Reader_readString J K n) K 65 L S M := by rfl
theorem r_Reader_readString_68 {s_Tokens_endOf : aS} {s_Reader_add : aS} {s_Tokens_startOf : aS} {s_Text_at : aS} {s_Nodes_addLetter : aS} {J : aJ} {K : aR} {n : Nat} {L : aL} {S : List Value} {M : aM} : am_run (c_Reader_readString s_Tokens_endOf s_Reader_add s_Tokens_startOf s_Text_at s_Nodes_addLetter) k_Reader_readString J K (n + 1) 68 L S M = ai_callv3 0 s_Nodes_addLetter 71 (am_run (c_Reader_readString s_Tokens_endOf s_Reader_add s_Tokens_startOf s_Text_at s_Nodes_addLetter) k_Reader_readString J K n) K 68 L S M := by rfl
theorem r_Reader_readString_71 {s_Tokens_endOf : aS} {s_Reader_add : aS} {s_Tokens_startOf : aS} {s_Text_at : aS} {s_Nodes_addLetter : aS} {J : aJ} {K : aR} {n : Nat} {L : aL} {S : List Value} {M : aM} : am_run (c_Reader_readString s_Tokens_endOf s_Reader_add s_Tokens_startOf s_Text_at s_Nodes_addLetter) k_Reader_readString J K (n + 1) 71 L S M = ai_iinc 3 1 74 (am_run (c_Reader_readString s_Tokens_endOf s_Reader_add s_Tokens_startOf s_Text_at s_Nodes_addLetter) k_Reader_readString J K n) K 71 L S M := by rfl
theorem r_Reader_readString_74 {s_Tokens_endOf : aS} {s_Reader_add : aS} {s_Tokens_startOf : aS} {s_Text_at : aS} {s_Nodes_addLetter : aS} {J : aJ} {K : aR} {n : Nat} {L : aL} {S : List Value} {M : aM} : am_run (c_Reader_readString s_Tokens_endOf s_Reader_add s_Tokens_startOf s_Text_at s_Nodes_addLetter) k_Reader_readString J K (n + 1) 74 L S M = ai_goto 34 (am_run (c_Reader_readString s_Tokens_endOf s_Reader_add s_Tokens_startOf s_Text_at s_Nodes_addLetter) k_Reader_readString J K n) K 74 L S M := by rfl
theorem r_Reader_readString_77 {s_Tokens_endOf : aS} {s_Reader_add : aS} {s_Tokens_startOf : aS} {s_Text_at : aS} {s_Nodes_addLetter : aS} {J : aJ} {K : aR} {n : Nat} {L : aL} {S : List Value} {M : aM} : am_run (c_Reader_readString s_Tokens_endOf s_Reader_add s_Tokens_startOf s_Text_at s_Nodes_addLetter) k_Reader_readString J K (n + 1) 77 L S M = ai_iload 2 78 (am_run (c_Reader_readString s_Tokens_endOf s_Reader_add s_Tokens_startOf s_Text_at s_Nodes_addLetter) k_Reader_readString J K n) K 77 L S M := by rfl
theorem r_Reader_readString_78 {s_Tokens_endOf : aS} {s_Reader_add : aS} {s_Tokens_startOf : aS} {s_Text_at : aS} {s_Nodes_addLetter : aS} {J : aJ} {K : aR} {n : Nat} {L : aL} {S : List Value} {M : aM} : am_run (c_Reader_readString s_Tokens_endOf s_Reader_add s_Tokens_startOf s_Text_at s_Nodes_addLetter) k_Reader_readString J K (n + 1) 78 L S M = ai_iret (am_run (c_Reader_readString s_Tokens_endOf s_Reader_add s_Tokens_startOf s_Text_at s_Nodes_addLetter) k_Reader_readString J K n) K 78 L S M := by rfl
def c_Reader_readQuoted (s_Reader_fault : aS) (s_Reader_add : aS) (s_Nodes_nameQuote : aS) (s_Nodes_setHead : aS) (s_Nodes_setTail : aS) (s_Reader_readDatum : aS) : List (Nat × aI) := [
  (0, ai_iload 1 1),
  (1, ai_const 15 3),
  (3, ai_cmplt 11 6),
  (6, ai_aload 0 7),
  (7, ai_callv1 1 s_Reader_fault 10),
  (10, ai_iret),
  (11, ai_aload 0 12),
  (12, ai_const 4 13),
  (13, ai_callv2 1 s_Reader_add 16),
  (16, ai_istore 2 17),
  (17, ai_aload 0 18),
  (18, ai_const 2 19),
  (19, ai_callv2 1 s_Reader_add 22),
  (22, ai_istore 3 23),
  (23, ai_aload 0 24),
  (24, ai_const 4 25),
  (25, ai_callv2 1 s_Reader_add 28),
  (28, ai_istore 4 30),
  (30, ai_iload 4 32),
  (32, ai_const (-1) 33),
  (33, ai_cmpne 38 36),
  (36, ai_const (-1) 37),
  (37, ai_iret),
  (38, ai_aload 0 39),
  (39, ai_getf 1 1 42),
  (42, ai_iload 3 43),
  (43, ai_callv2 0 s_Nodes_nameQuote 46),
  (46, ai_aload 0 47),
  (47, ai_getf 1 1 50),
  (50, ai_iload 2 51),
  (51, ai_iload 3 52),
  (52, ai_callv3 0 s_Nodes_setHead 55),
  (55, ai_aload 0 56),
  (56, ai_getf 1 1 59),
  (59, ai_iload 2 60),
  (60, ai_iload 4 62),
  (62, ai_callv3 0 s_Nodes_setTail 65),
  (65, ai_aload 0 66),
  (66, ai_dup 67),
  (67, ai_getf 1 3 70),
  (70, ai_const 1 71),
  (71, ai_iadd 72),
  (72, ai_putf 1 3 75),
  (75, ai_aload 0 76),
  (76, ai_iload 1 77),
  (77, ai_const 1 78),
  (78, ai_iadd 79),
  (79, ai_callv2 1 s_Reader_readDatum 82),
  (82, ai_istore 5 84),
  (84, ai_iload 5 86),
  (86, ai_const (-1) 87),
  (87, ai_cmpne 92 90),
  (90, ai_const (-1) 91),
  (91, ai_iret),
  (92, ai_aload 0 93),
  (93, ai_getf 1 1 96),
  (96, ai_iload 4 98),
  (98, ai_iload 5 100),
  (100, ai_callv3 0 s_Nodes_setHead 103),
  (103, ai_aload 0 104),
  (104, ai_const 5 105),
  (105, ai_callv2 1 s_Reader_add 108),
  (108, ai_istore 6 110),
  (110, ai_aload 0 111),
  (111, ai_getf 1 1 114),
  (114, ai_iload 4 116),
  (116, ai_iload 6 118),
  (118, ai_callv3 0 s_Nodes_setTail 121),
  (121, ai_iload 6 123),
  (123, ai_const (-1) 124),
  (124, ai_cmpne 131 127),
  (127, ai_const (-1) 128),
  (128, ai_goto 132),
  (131, ai_iload 2 132),
  (132, ai_iret)]
set_option maxRecDepth 100000 in
set_option maxHeartbeats 4000000 in
theorem tb_Reader_readQuoted {G : aG} {d : Nat} {s_Reader_fault : aS} {d_Reader_fault : Nat} (h_Reader_fault : am_Sp G Y_Reader_fault d_Reader_fault s_Reader_fault) (l_Reader_fault : d_Reader_fault < d) {s_Reader_add : aS} {d_Reader_add : Nat} (h_Reader_add : am_Sp G Y_Reader_add d_Reader_add s_Reader_add) (l_Reader_add : d_Reader_add < d) {s_Nodes_nameQuote : aS} {d_Nodes_nameQuote : Nat} (h_Nodes_nameQuote : am_Sp G Y_Nodes_nameQuote d_Nodes_nameQuote s_Nodes_nameQuote) (l_Nodes_nameQuote : d_Nodes_nameQuote < d) {s_Nodes_setHead : aS} {d_Nodes_setHead : Nat} (h_Nodes_setHead : am_Sp G Y_Nodes_setHead d_Nodes_setHead s_Nodes_setHead) (l_Nodes_setHead : d_Nodes_setHead < d) {s_Nodes_setTail : aS} {d_Nodes_setTail : Nat} (h_Nodes_setTail : am_Sp G Y_Nodes_setTail d_Nodes_setTail s_Nodes_setTail) (l_Nodes_setTail : d_Nodes_setTail < d) {s_Reader_readDatum : aS} {d_Reader_readDatum : Nat} (h_Reader_readDatum : am_Sp G Y_Reader_readDatum d_Reader_readDatum s_Reader_readDatum) (l_Reader_readDatum : d_Reader_readDatum < d) : am_tab G Y_Reader_readQuoted d (c_Reader_readQuoted s_Reader_fault s_Reader_add s_Nodes_nameQuote s_Nodes_setHead s_Nodes_setTail s_Reader_readDatum) := by
  intro K p e s m args below meth c C
  exact ⟨as_iload_n C (pc := 0) (q := 1) (by decide +kernel) rfl rfl,
    as_bipush C (pc := 1) (n := 15) (by decide +kernel) (by decide +kernel) rfl,
    as_cmplt C (pc := 3) (off := 8) (by decide +kernel) (by decide) rfl,
    as_aload_n C (pc := 6) (q := 0) (by decide +kernel) rfl rfl,
    as_callv1 C (pc := 7) h_Reader_fault (T := T_Reader) (N := 5) rfl w_333 w_74 w_332 w_19 w_330 hy_Reader_fault (am_rm_of l_Reader_fault (by decide)) (by decide +kernel) rfl,
    as_iret C (pc := 10) rfl (by decide +kernel),
    as_aload_n C (pc := 11) (q := 0) (by decide +kernel) rfl rfl,
    as_iconst C (pc := 12) (n := 4) (by decide +kernel) (by decide +kernel) rfl,
    as_callv2 C (pc := 13) h_Reader_add (T := T_Reader) (N := 5) rfl w_325 w_74 w_324 w_17 w_322 hy_Reader_add (am_rm_of l_Reader_add (by decide)) (by decide +kernel) rfl,
    as_istore_n C (pc := 16) (q := 2) (by decide +kernel) rfl (by decide) rfl,
    as_aload_n C (pc := 17) (q := 0) (by decide +kernel) rfl rfl,
    as_iconst C (pc := 18) (n := 2) (by decide +kernel) (by decide +kernel) rfl,
    as_callv2 C (pc := 19) h_Reader_add (T := T_Reader) (N := 5) rfl w_325 w_74 w_324 w_17 w_322 hy_Reader_add (am_rm_of l_Reader_add (by decide)) (by decide +kernel) rfl,
    as_istore_n C (pc := 22) (q := 3) (by decide +kernel) rfl (by decide) rfl,
    as_aload_n C (pc := 23) (q := 0) (by decide +kernel) rfl rfl,
    as_iconst C (pc := 24) (n := 4) (by decide +kernel) (by decide +kernel) rfl,
    as_callv2 C (pc := 25) h_Reader_add (T := T_Reader) (N := 5) rfl w_325 w_74 w_324 w_17 w_322 hy_Reader_add (am_rm_of l_Reader_add (by decide)) (by decide +kernel) rfl,
    as_istore C (pc := 28) (k := 4) (by decide +kernel) (by decide) rfl,
    as_iload C (pc := 30) (k := 4) (by decide +kernel) rfl,
    as_iconst C (pc := 32) (n := (-1)) (by decide +kernel) (by decide +kernel) rfl,
    as_cmpne C (pc := 33) (off := 5) (by decide +kernel) (by decide) rfl,
    as_iconst C (pc := 36) (n := (-1)) (by decide +kernel) (by decide +kernel) rfl,
    as_iret C (pc := 37) rfl (by decide +kernel),
    as_aload_n C (pc := 38) (q := 0) (by decide +kernel) rfl rfl,
    as_getf C (pc := 39) (T := T_Reader) (N := 5) rfl in_Reader (by decide) rfl w_177 (by decide +kernel) rfl,
    as_iload_n C (pc := 42) (q := 3) (by decide +kernel) rfl rfl,
    as_callv2N C (pc := 43) h_Nodes_nameQuote (T := T_Nodes) (N := 10) rfl w_361 w_72 w_360 w_26 w_358 hy_Nodes_nameQuote (am_rm_of l_Nodes_nameQuote (by decide)) (by decide +kernel) rfl,
    as_aload_n C (pc := 46) (q := 0) (by decide +kernel) rfl rfl,
    as_getf C (pc := 47) (T := T_Reader) (N := 5) rfl in_Reader (by decide) rfl w_177 (by decide +kernel) rfl,
    as_iload_n C (pc := 50) (q := 2) (by decide +kernel) rfl rfl,
    as_iload_n C (pc := 51) (q := 3) (by decide +kernel) rfl rfl,
    as_callv3N C (pc := 52) h_Nodes_setHead (T := T_Nodes) (N := 10) rfl w_365 w_72 w_364 w_27 w_362 hy_Nodes_setHead (am_rm_of l_Nodes_setHead (by decide)) (by decide +kernel) rfl,
    as_aload_n C (pc := 55) (q := 0) (by decide +kernel) rfl rfl,
    as_getf C (pc := 56) (T := T_Reader) (N := 5) rfl in_Reader (by decide) rfl w_177 (by decide +kernel) rfl,
    as_iload_n C (pc := 59) (q := 2) (by decide +kernel) rfl rfl,
    as_iload C (pc := 60) (k := 4) (by decide +kernel) rfl,
    as_callv3N C (pc := 62) h_Nodes_setTail (T := T_Nodes) (N := 10) rfl w_369 w_72 w_368 w_28 w_366 hy_Nodes_setTail (am_rm_of l_Nodes_setTail (by decide)) (by decide +kernel) rfl,
    as_aload_n C (pc := 65) (q := 0) (by decide +kernel) rfl rfl,
    as_dup C (pc := 66) (by decide +kernel) rfl,
    as_getf C (pc := 67) (T := T_Reader) (N := 5) rfl in_Reader (by decide) rfl w_179 (by decide +kernel) rfl,
    as_iconst C (pc := 70) (n := 1) (by decide +kernel) (by decide +kernel) rfl,
    as_iadd C (pc := 71) (by decide +kernel) rfl,
    as_putf C (pc := 72) t_Reader (T := T_Reader) (N := 5) rfl in_Reader tok_Reader nm_Reader (by decide) rfl rfl (by decide +kernel) w_179 (by decide +kernel) rfl,
    as_aload_n C (pc := 75) (q := 0) (by decide +kernel) rfl rfl,
    as_iload_n C (pc := 76) (q := 1) (by decide +kernel) rfl rfl,
    as_iconst C (pc := 77) (n := 1) (by decide +kernel) (by decide +kernel) rfl,
    as_iadd C (pc := 78) (by decide +kernel) rfl,
    as_callv2 C (pc := 79) h_Reader_readDatum (T := T_Reader) (N := 5) rfl w_308 w_74 w_307 w_13 w_305 hy_Reader_readDatum (am_rm_of l_Reader_readDatum (by decide)) (by decide +kernel) rfl,
    as_istore C (pc := 82) (k := 5) (by decide +kernel) (by decide) rfl,
    as_iload C (pc := 84) (k := 5) (by decide +kernel) rfl,
    as_iconst C (pc := 86) (n := (-1)) (by decide +kernel) (by decide +kernel) rfl,
    as_cmpne C (pc := 87) (off := 5) (by decide +kernel) (by decide) rfl,
    as_iconst C (pc := 90) (n := (-1)) (by decide +kernel) (by decide +kernel) rfl,
    as_iret C (pc := 91) rfl (by decide +kernel),
    as_aload_n C (pc := 92) (q := 0) (by decide +kernel) rfl rfl,
    as_getf C (pc := 93) (T := T_Reader) (N := 5) rfl in_Reader (by decide) rfl w_177 (by decide +kernel) rfl,
    as_iload C (pc := 96) (k := 4) (by decide +kernel) rfl,
    as_iload C (pc := 98) (k := 5) (by decide +kernel) rfl,
    as_callv3N C (pc := 100) h_Nodes_setHead (T := T_Nodes) (N := 10) rfl w_365 w_72 w_364 w_27 w_362 hy_Nodes_setHead (am_rm_of l_Nodes_setHead (by decide)) (by decide +kernel) rfl,
    as_aload_n C (pc := 103) (q := 0) (by decide +kernel) rfl rfl,
    as_iconst C (pc := 104) (n := 5) (by decide +kernel) (by decide +kernel) rfl,
    as_callv2 C (pc := 105) h_Reader_add (T := T_Reader) (N := 5) rfl w_325 w_74 w_324 w_17 w_322 hy_Reader_add (am_rm_of l_Reader_add (by decide)) (by decide +kernel) rfl,
    as_istore C (pc := 108) (k := 6) (by decide +kernel) (by decide) rfl,
    as_aload_n C (pc := 110) (q := 0) (by decide +kernel) rfl rfl,
    as_getf C (pc := 111) (T := T_Reader) (N := 5) rfl in_Reader (by decide) rfl w_177 (by decide +kernel) rfl,
    as_iload C (pc := 114) (k := 4) (by decide +kernel) rfl,
    as_iload C (pc := 116) (k := 6) (by decide +kernel) rfl,
    as_callv3N C (pc := 118) h_Nodes_setTail (T := T_Nodes) (N := 10) rfl w_369 w_72 w_368 w_28 w_366 hy_Nodes_setTail (am_rm_of l_Nodes_setTail (by decide)) (by decide +kernel) rfl,
    as_iload C (pc := 121) (k := 6) (by decide +kernel) rfl,
    as_iconst C (pc := 123) (n := (-1)) (by decide +kernel) (by decide +kernel) rfl,
    as_cmpne C (pc := 124) (off := 7) (by decide +kernel) (by decide) rfl,
    as_iconst C (pc := 127) (n := (-1)) (by decide +kernel) (by decide +kernel) rfl,
    as_goto C (pc := 128) (off := 4) (by decide +kernel) (by decide),
    as_iload_n C (pc := 131) (q := 2) (by decide +kernel) rfl rfl,
    as_iret C (pc := 132) rfl (by decide +kernel), trivial⟩
abbrev k_Reader_readQuoted : List Nat := [17, 23, 30, 38, 92]
set_option maxRecDepth 20000 in
theorem q_Reader_readQuoted_17 {s_Reader_fault : aS} {s_Reader_add : aS} {s_Nodes_nameQuote : aS} {s_Nodes_setHead : aS} {s_Nodes_setTail : aS} {s_Reader_readDatum : aS} : am_at (c_Reader_readQuoted s_Reader_fault s_Reader_add s_Nodes_nameQuote s_Nodes_setHead s_Nodes_setTail s_Reader_readDatum) 17 = ai_aload 0 18 := by rfl
set_option maxRecDepth 20000 in
theorem q_Reader_readQuoted_23 {s_Reader_fault : aS} {s_Reader_add : aS} {s_Nodes_nameQuote : aS} {s_Nodes_setHead : aS} {s_Nodes_setTail : aS} {s_Reader_readDatum : aS} : am_at (c_Reader_readQuoted s_Reader_fault s_Reader_add s_Nodes_nameQuote s_Nodes_setHead s_Nodes_setTail s_Reader_readDatum) 23 = ai_aload 0 24 := by rfl
set_option maxRecDepth 20000 in
theorem q_Reader_readQuoted_30 {s_Reader_fault : aS} {s_Reader_add : aS} {s_Nodes_nameQuote : aS} {s_Nodes_setHead : aS} {s_Nodes_setTail : aS} {s_Reader_readDatum : aS} : am_at (c_Reader_readQuoted s_Reader_fault s_Reader_add s_Nodes_nameQuote s_Nodes_setHead s_Nodes_setTail s_Reader_readDatum) 30 = ai_iload 4 32 := by rfl
set_option maxRecDepth 20000 in
theorem q_Reader_readQuoted_38 {s_Reader_fault : aS} {s_Reader_add : aS} {s_Nodes_nameQuote : aS} {s_Nodes_setHead : aS} {s_Nodes_setTail : aS} {s_Reader_readDatum : aS} : am_at (c_Reader_readQuoted s_Reader_fault s_Reader_add s_Nodes_nameQuote s_Nodes_setHead s_Nodes_setTail s_Reader_readDatum) 38 = ai_aload 0 39 := by rfl
set_option maxRecDepth 20000 in
theorem q_Reader_readQuoted_92 {s_Reader_fault : aS} {s_Reader_add : aS} {s_Nodes_nameQuote : aS} {s_Nodes_setHead : aS} {s_Nodes_setTail : aS} {s_Reader_readDatum : aS} : am_at (c_Reader_readQuoted s_Reader_fault s_Reader_add s_Nodes_nameQuote s_Nodes_setHead s_Nodes_setTail s_Reader_readDatum) 92 = ai_aload 0 93 := by rfl
set_option maxRecDepth 20000 in
theorem r_Reader_readQuoted_0 {s_Reader_fault : aS} {s_Reader_add : aS} {s_Nodes_nameQuote : aS} {s_Nodes_setHead : aS} {s_Nodes_setTail : aS} {s_Reader_readDatum : aS} {J : aJ} {K : aR} {n : Nat} {L : aL} {S : List Value} {M : aM} : am_run (c_Reader_readQuoted s_Reader_fault s_Reader_add s_Nodes_nameQuote s_Nodes_setHead s_Nodes_setTail s_Reader_readDatum) k_Reader_readQuoted J K (n + 1) 0 L S M = ai_iload 1 1 (am_run (c_Reader_readQuoted s_Reader_fault s_Reader_add s_Nodes_nameQuote s_Nodes_setHead s_Nodes_setTail s_Reader_readDatum) k_Reader_readQuoted J K n) K 0 L S M := by rfl
set_option maxRecDepth 20000 in
theorem r_Reader_readQuoted_1 {s_Reader_fault : aS} {s_Reader_add : aS} {s_Nodes_nameQuote : aS} {s_Nodes_setHead : aS} {s_Nodes_setTail : aS} {s_Reader_readDatum : aS} {J : aJ} {K : aR} {n : Nat} {L : aL} {S : List Value} {M : aM} : am_run (c_Reader_readQuoted s_Reader_fault s_Reader_add s_Nodes_nameQuote s_Nodes_setHead s_Nodes_setTail s_Reader_readDatum) k_Reader_readQuoted J K (n + 1) 1 L S M = ai_const 15 3 (am_run (c_Reader_readQuoted s_Reader_fault s_Reader_add s_Nodes_nameQuote s_Nodes_setHead s_Nodes_setTail s_Reader_readDatum) k_Reader_readQuoted J K n) K 1 L S M := by rfl
set_option maxRecDepth 20000 in
theorem r_Reader_readQuoted_3 {s_Reader_fault : aS} {s_Reader_add : aS} {s_Nodes_nameQuote : aS} {s_Nodes_setHead : aS} {s_Nodes_setTail : aS} {s_Reader_readDatum : aS} {J : aJ} {K : aR} {n : Nat} {L : aL} {S : List Value} {M : aM} : am_run (c_Reader_readQuoted s_Reader_fault s_Reader_add s_Nodes_nameQuote s_Nodes_setHead s_Nodes_setTail s_Reader_readDatum) k_Reader_readQuoted J K (n + 1) 3 L S M = ai_cmplt 11 6 (am_run (c_Reader_readQuoted s_Reader_fault s_Reader_add s_Nodes_nameQuote s_Nodes_setHead s_Nodes_setTail s_Reader_readDatum) k_Reader_readQuoted J K n) K 3 L S M := by rfl
set_option maxRecDepth 20000 in
theorem r_Reader_readQuoted_6 {s_Reader_fault : aS} {s_Reader_add : aS} {s_Nodes_nameQuote : aS} {s_Nodes_setHead : aS} {s_Nodes_setTail : aS} {s_Reader_readDatum : aS} {J : aJ} {K : aR} {n : Nat} {L : aL} {S : List Value} {M : aM} : am_run (c_Reader_readQuoted s_Reader_fault s_Reader_add s_Nodes_nameQuote s_Nodes_setHead s_Nodes_setTail s_Reader_readDatum) k_Reader_readQuoted J K (n + 1) 6 L S M = ai_aload 0 7 (am_run (c_Reader_readQuoted s_Reader_fault s_Reader_add s_Nodes_nameQuote s_Nodes_setHead s_Nodes_setTail s_Reader_readDatum) k_Reader_readQuoted J K n) K 6 L S M := by rfl
set_option maxRecDepth 20000 in
theorem r_Reader_readQuoted_7 {s_Reader_fault : aS} {s_Reader_add : aS} {s_Nodes_nameQuote : aS} {s_Nodes_setHead : aS} {s_Nodes_setTail : aS} {s_Reader_readDatum : aS} {J : aJ} {K : aR} {n : Nat} {L : aL} {S : List Value} {M : aM} : am_run (c_Reader_readQuoted s_Reader_fault s_Reader_add s_Nodes_nameQuote s_Nodes_setHead s_Nodes_setTail s_Reader_readDatum) k_Reader_readQuoted J K (n + 1) 7 L S M = ai_callv1 1 s_Reader_fault 10 (am_run (c_Reader_readQuoted s_Reader_fault s_Reader_add s_Nodes_nameQuote s_Nodes_setHead s_Nodes_setTail s_Reader_readDatum) k_Reader_readQuoted J K n) K 7 L S M := by rfl
set_option maxRecDepth 20000 in
theorem r_Reader_readQuoted_10 {s_Reader_fault : aS} {s_Reader_add : aS} {s_Nodes_nameQuote : aS} {s_Nodes_setHead : aS} {s_Nodes_setTail : aS} {s_Reader_readDatum : aS} {J : aJ} {K : aR} {n : Nat} {L : aL} {S : List Value} {M : aM} : am_run (c_Reader_readQuoted s_Reader_fault s_Reader_add s_Nodes_nameQuote s_Nodes_setHead s_Nodes_setTail s_Reader_readDatum) k_Reader_readQuoted J K (n + 1) 10 L S M = ai_iret (am_run (c_Reader_readQuoted s_Reader_fault s_Reader_add s_Nodes_nameQuote s_Nodes_setHead s_Nodes_setTail s_Reader_readDatum) k_Reader_readQuoted J K n) K 10 L S M := by rfl
set_option maxRecDepth 20000 in
theorem r_Reader_readQuoted_11 {s_Reader_fault : aS} {s_Reader_add : aS} {s_Nodes_nameQuote : aS} {s_Nodes_setHead : aS} {s_Nodes_setTail : aS} {s_Reader_readDatum : aS} {J : aJ} {K : aR} {n : Nat} {L : aL} {S : List Value} {M : aM} : am_run (c_Reader_readQuoted s_Reader_fault s_Reader_add s_Nodes_nameQuote s_Nodes_setHead s_Nodes_setTail s_Reader_readDatum) k_Reader_readQuoted J K (n + 1) 11 L S M = ai_aload 0 12 (am_run (c_Reader_readQuoted s_Reader_fault s_Reader_add s_Nodes_nameQuote s_Nodes_setHead s_Nodes_setTail s_Reader_readDatum) k_Reader_readQuoted J K n) K 11 L S M := by rfl
set_option maxRecDepth 20000 in
theorem r_Reader_readQuoted_12 {s_Reader_fault : aS} {s_Reader_add : aS} {s_Nodes_nameQuote : aS} {s_Nodes_setHead : aS} {s_Nodes_setTail : aS} {s_Reader_readDatum : aS} {J : aJ} {K : aR} {n : Nat} {L : aL} {S : List Value} {M : aM} : am_run (c_Reader_readQuoted s_Reader_fault s_Reader_add s_Nodes_nameQuote s_Nodes_setHead s_Nodes_setTail s_Reader_readDatum) k_Reader_readQuoted J K (n + 1) 12 L S M = ai_const 4 13 (am_run (c_Reader_readQuoted s_Reader_fault s_Reader_add s_Nodes_nameQuote s_Nodes_setHead s_Nodes_setTail s_Reader_readDatum) k_Reader_readQuoted J K n) K 12 L S M := by rfl
set_option maxRecDepth 20000 in
theorem r_Reader_readQuoted_13 {s_Reader_fault : aS} {s_Reader_add : aS} {s_Nodes_nameQuote : aS} {s_Nodes_setHead : aS} {s_Nodes_setTail : aS} {s_Reader_readDatum : aS} {J : aJ} {K : aR} {n : Nat} {L : aL} {S : List Value} {M : aM} : am_run (c_Reader_readQuoted s_Reader_fault s_Reader_add s_Nodes_nameQuote s_Nodes_setHead s_Nodes_setTail s_Reader_readDatum) k_Reader_readQuoted J K (n + 1) 13 L S M = ai_callv2 1 s_Reader_add 16 (am_run (c_Reader_readQuoted s_Reader_fault s_Reader_add s_Nodes_nameQuote s_Nodes_setHead s_Nodes_setTail s_Reader_readDatum) k_Reader_readQuoted J K n) K 13 L S M := by rfl
set_option maxRecDepth 20000 in
theorem r_Reader_readQuoted_16 {s_Reader_fault : aS} {s_Reader_add : aS} {s_Nodes_nameQuote : aS} {s_Nodes_setHead : aS} {s_Nodes_setTail : aS} {s_Reader_readDatum : aS} {J : aJ} {K : aR} {n : Nat} {L : aL} {S : List Value} {M : aM} : am_run (c_Reader_readQuoted s_Reader_fault s_Reader_add s_Nodes_nameQuote s_Nodes_setHead s_Nodes_setTail s_Reader_readDatum) k_Reader_readQuoted J K (n + 1) 16 L S M = ai_istore 2 17 (am_run (c_Reader_readQuoted s_Reader_fault s_Reader_add s_Nodes_nameQuote s_Nodes_setHead s_Nodes_setTail s_Reader_readDatum) k_Reader_readQuoted J K n) K 16 L S M := by rfl
set_option maxRecDepth 20000 in
theorem r_Reader_readQuoted_17 {s_Reader_fault : aS} {s_Reader_add : aS} {s_Nodes_nameQuote : aS} {s_Nodes_setHead : aS} {s_Nodes_setTail : aS} {s_Reader_readDatum : aS} {J : aJ} {K : aR} {n : Nat} {L : aL} {S : List Value} {M : aM} : am_run (c_Reader_readQuoted s_Reader_fault s_Reader_add s_Nodes_nameQuote s_Nodes_setHead s_Nodes_setTail s_Reader_readDatum) k_Reader_readQuoted J K (n + 1) 17 L S M = J 17 L S M := by rfl
set_option maxRecDepth 20000 in
theorem r_Reader_readQuoted_18 {s_Reader_fault : aS} {s_Reader_add : aS} {s_Nodes_nameQuote : aS} {s_Nodes_setHead : aS} {s_Nodes_setTail : aS} {s_Reader_readDatum : aS} {J : aJ} {K : aR} {n : Nat} {L : aL} {S : List Value} {M : aM} : am_run (c_Reader_readQuoted s_Reader_fault s_Reader_add s_Nodes_nameQuote s_Nodes_setHead s_Nodes_setTail s_Reader_readDatum) k_Reader_readQuoted J K (n + 1) 18 L S M = ai_const 2 19 (am_run (c_Reader_readQuoted s_Reader_fault s_Reader_add s_Nodes_nameQuote s_Nodes_setHead s_Nodes_setTail s_Reader_readDatum) k_Reader_readQuoted J K n) K 18 L S M := by rfl
set_option maxRecDepth 20000 in
theorem r_Reader_readQuoted_19 {s_Reader_fault : aS} {s_Reader_add : aS} {s_Nodes_nameQuote : aS} {s_Nodes_setHead : aS} {s_Nodes_setTail : aS} {s_Reader_readDatum : aS} {J : aJ} {K : aR} {n : Nat} {L : aL} {S : List Value} {M : aM} : am_run (c_Reader_readQuoted s_Reader_fault s_Reader_add s_Nodes_nameQuote s_Nodes_setHead s_Nodes_setTail s_Reader_readDatum) k_Reader_readQuoted J K (n + 1) 19 L S M = ai_callv2 1 s_Reader_add 22 (am_run (c_Reader_readQuoted s_Reader_fault s_Reader_add s_Nodes_nameQuote s_Nodes_setHead s_Nodes_setTail s_Reader_readDatum) k_Reader_readQuoted J K n) K 19 L S M := by rfl
set_option maxRecDepth 20000 in
theorem r_Reader_readQuoted_22 {s_Reader_fault : aS} {s_Reader_add : aS} {s_Nodes_nameQuote : aS} {s_Nodes_setHead : aS} {s_Nodes_setTail : aS} {s_Reader_readDatum : aS} {J : aJ} {K : aR} {n : Nat} {L : aL} {S : List Value} {M : aM} : am_run (c_Reader_readQuoted s_Reader_fault s_Reader_add s_Nodes_nameQuote s_Nodes_setHead s_Nodes_setTail s_Reader_readDatum) k_Reader_readQuoted J K (n + 1) 22 L S M = ai_istore 3 23 (am_run (c_Reader_readQuoted s_Reader_fault s_Reader_add s_Nodes_nameQuote s_Nodes_setHead s_Nodes_setTail s_Reader_readDatum) k_Reader_readQuoted J K n) K 22 L S M := by rfl
set_option maxRecDepth 20000 in
theorem r_Reader_readQuoted_23 {s_Reader_fault : aS} {s_Reader_add : aS} {s_Nodes_nameQuote : aS} {s_Nodes_setHead : aS} {s_Nodes_setTail : aS} {s_Reader_readDatum : aS} {J : aJ} {K : aR} {n : Nat} {L : aL} {S : List Value} {M : aM} : am_run (c_Reader_readQuoted s_Reader_fault s_Reader_add s_Nodes_nameQuote s_Nodes_setHead s_Nodes_setTail s_Reader_readDatum) k_Reader_readQuoted J K (n + 1) 23 L S M = J 23 L S M := by rfl
set_option maxRecDepth 20000 in
theorem r_Reader_readQuoted_24 {s_Reader_fault : aS} {s_Reader_add : aS} {s_Nodes_nameQuote : aS} {s_Nodes_setHead : aS} {s_Nodes_setTail : aS} {s_Reader_readDatum : aS} {J : aJ} {K : aR} {n : Nat} {L : aL} {S : List Value} {M : aM} : am_run (c_Reader_readQuoted s_Reader_fault s_Reader_add s_Nodes_nameQuote s_Nodes_setHead s_Nodes_setTail s_Reader_readDatum) k_Reader_readQuoted J K (n + 1) 24 L S M = ai_const 4 25 (am_run (c_Reader_readQuoted s_Reader_fault s_Reader_add s_Nodes_nameQuote s_Nodes_setHead s_Nodes_setTail s_Reader_readDatum) k_Reader_readQuoted J K n) K 24 L S M := by rfl
set_option maxRecDepth 20000 in
theorem r_Reader_readQuoted_25 {s_Reader_fault : aS} {s_Reader_add : aS} {s_Nodes_nameQuote : aS} {s_Nodes_setHead : aS} {s_Nodes_setTail : aS} {s_Reader_readDatum : aS} {J : aJ} {K : aR} {n : Nat} {L : aL} {S : List Value} {M : aM} : am_run (c_Reader_readQuoted s_Reader_fault s_Reader_add s_Nodes_nameQuote s_Nodes_setHead s_Nodes_setTail s_Reader_readDatum) k_Reader_readQuoted J K (n + 1) 25 L S M = ai_callv2 1 s_Reader_add 28 (am_run (c_Reader_readQuoted s_Reader_fault s_Reader_add s_Nodes_nameQuote s_Nodes_setHead s_Nodes_setTail s_Reader_readDatum) k_Reader_readQuoted J K n) K 25 L S M := by rfl
set_option maxRecDepth 20000 in
theorem r_Reader_readQuoted_28 {s_Reader_fault : aS} {s_Reader_add : aS} {s_Nodes_nameQuote : aS} {s_Nodes_setHead : aS} {s_Nodes_setTail : aS} {s_Reader_readDatum : aS} {J : aJ} {K : aR} {n : Nat} {L : aL} {S : List Value} {M : aM} : am_run (c_Reader_readQuoted s_Reader_fault s_Reader_add s_Nodes_nameQuote s_Nodes_setHead s_Nodes_setTail s_Reader_readDatum) k_Reader_readQuoted J K (n + 1) 28 L S M = ai_istore 4 30 (am_run (c_Reader_readQuoted s_Reader_fault s_Reader_add s_Nodes_nameQuote s_Nodes_setHead s_Nodes_setTail s_Reader_readDatum) k_Reader_readQuoted J K n) K 28 L S M := by rfl
set_option maxRecDepth 20000 in
theorem r_Reader_readQuoted_30 {s_Reader_fault : aS} {s_Reader_add : aS} {s_Nodes_nameQuote : aS} {s_Nodes_setHead : aS} {s_Nodes_setTail : aS} {s_Reader_readDatum : aS} {J : aJ} {K : aR} {n : Nat} {L : aL} {S : List Value} {M : aM} : am_run (c_Reader_readQuoted s_Reader_fault s_Reader_add s_Nodes_nameQuote s_Nodes_setHead s_Nodes_setTail s_Reader_readDatum) k_Reader_readQuoted J K (n + 1) 30 L S M = J 30 L S M := by rfl
set_option maxRecDepth 20000 in
theorem r_Reader_readQuoted_32 {s_Reader_fault : aS} {s_Reader_add : aS} {s_Nodes_nameQuote : aS} {s_Nodes_setHead : aS} {s_Nodes_setTail : aS} {s_Reader_readDatum : aS} {J : aJ} {K : aR} {n : Nat} {L : aL} {S : List Value} {M : aM} : am_run (c_Reader_readQuoted s_Reader_fault s_Reader_add s_Nodes_nameQuote s_Nodes_setHead s_Nodes_setTail s_Reader_readDatum) k_Reader_readQuoted J K (n + 1) 32 L S M = ai_const (-1) 33 (am_run (c_Reader_readQuoted s_Reader_fault s_Reader_add s_Nodes_nameQuote s_Nodes_setHead s_Nodes_setTail s_Reader_readDatum) k_Reader_readQuoted J K n) K 32 L S M := by rfl
set_option maxRecDepth 20000 in
theorem r_Reader_readQuoted_33 {s_Reader_fault : aS} {s_Reader_add : aS} {s_Nodes_nameQuote : aS} {s_Nodes_setHead : aS} {s_Nodes_setTail : aS} {s_Reader_readDatum : aS} {J : aJ} {K : aR} {n : Nat} {L : aL} {S : List Value} {M : aM} : am_run (c_Reader_readQuoted s_Reader_fault s_Reader_add s_Nodes_nameQuote s_Nodes_setHead s_Nodes_setTail s_Reader_readDatum) k_Reader_readQuoted J K (n + 1) 33 L S M = ai_cmpne 38 36 (am_run (c_Reader_readQuoted s_Reader_fault s_Reader_add s_Nodes_nameQuote s_Nodes_setHead s_Nodes_setTail s_Reader_readDatum) k_Reader_readQuoted J K n) K 33 L S M := by rfl
set_option maxRecDepth 20000 in
theorem r_Reader_readQuoted_36 {s_Reader_fault : aS} {s_Reader_add : aS} {s_Nodes_nameQuote : aS} {s_Nodes_setHead : aS} {s_Nodes_setTail : aS} {s_Reader_readDatum : aS} {J : aJ} {K : aR} {n : Nat} {L : aL} {S : List Value} {M : aM} : am_run (c_Reader_readQuoted s_Reader_fault s_Reader_add s_Nodes_nameQuote s_Nodes_setHead s_Nodes_setTail s_Reader_readDatum) k_Reader_readQuoted J K (n + 1) 36 L S M = ai_const (-1) 37 (am_run (c_Reader_readQuoted s_Reader_fault s_Reader_add s_Nodes_nameQuote s_Nodes_setHead s_Nodes_setTail s_Reader_readDatum) k_Reader_readQuoted J K n) K 36 L S M := by rfl
set_option maxRecDepth 20000 in
theorem r_Reader_readQuoted_37 {s_Reader_fault : aS} {s_Reader_add : aS} {s_Nodes_nameQuote : aS} {s_Nodes_setHead : aS} {s_Nodes_setTail : aS} {s_Reader_readDatum : aS} {J : aJ} {K : aR} {n : Nat} {L : aL} {S : List Value} {M : aM} : am_run (c_Reader_readQuoted s_Reader_fault s_Reader_add s_Nodes_nameQuote s_Nodes_setHead s_Nodes_setTail s_Reader_readDatum) k_Reader_readQuoted J K (n + 1) 37 L S M = ai_iret (am_run (c_Reader_readQuoted s_Reader_fault s_Reader_add s_Nodes_nameQuote s_Nodes_setHead s_Nodes_setTail s_Reader_readDatum) k_Reader_readQuoted J K n) K 37 L S M := by rfl
set_option maxRecDepth 20000 in
theorem r_Reader_readQuoted_38 {s_Reader_fault : aS} {s_Reader_add : aS} {s_Nodes_nameQuote : aS} {s_Nodes_setHead : aS} {s_Nodes_setTail : aS} {s_Reader_readDatum : aS} {J : aJ} {K : aR} {n : Nat} {L : aL} {S : List Value} {M : aM} : am_run (c_Reader_readQuoted s_Reader_fault s_Reader_add s_Nodes_nameQuote s_Nodes_setHead s_Nodes_setTail s_Reader_readDatum) k_Reader_readQuoted J K (n + 1) 38 L S M = J 38 L S M := by rfl
set_option maxRecDepth 20000 in
theorem r_Reader_readQuoted_39 {s_Reader_fault : aS} {s_Reader_add : aS} {s_Nodes_nameQuote : aS} {s_Nodes_setHead : aS} {s_Nodes_setTail : aS} {s_Reader_readDatum : aS} {J : aJ} {K : aR} {n : Nat} {L : aL} {S : List Value} {M : aM} : am_run (c_Reader_readQuoted s_Reader_fault s_Reader_add s_Nodes_nameQuote s_Nodes_setHead s_Nodes_setTail s_Reader_readDatum) k_Reader_readQuoted J K (n + 1) 39 L S M = ai_getf 1 1 42 (am_run (c_Reader_readQuoted s_Reader_fault s_Reader_add s_Nodes_nameQuote s_Nodes_setHead s_Nodes_setTail s_Reader_readDatum) k_Reader_readQuoted J K n) K 39 L S M := by rfl
set_option maxRecDepth 20000 in
theorem r_Reader_readQuoted_42 {s_Reader_fault : aS} {s_Reader_add : aS} {s_Nodes_nameQuote : aS} {s_Nodes_setHead : aS} {s_Nodes_setTail : aS} {s_Reader_readDatum : aS} {J : aJ} {K : aR} {n : Nat} {L : aL} {S : List Value} {M : aM} : am_run (c_Reader_readQuoted s_Reader_fault s_Reader_add s_Nodes_nameQuote s_Nodes_setHead s_Nodes_setTail s_Reader_readDatum) k_Reader_readQuoted J K (n + 1) 42 L S M = ai_iload 3 43 (am_run (c_Reader_readQuoted s_Reader_fault s_Reader_add s_Nodes_nameQuote s_Nodes_setHead s_Nodes_setTail s_Reader_readDatum) k_Reader_readQuoted J K n) K 42 L S M := by rfl
set_option maxRecDepth 20000 in
theorem r_Reader_readQuoted_43 {s_Reader_fault : aS} {s_Reader_add : aS} {s_Nodes_nameQuote : aS} {s_Nodes_setHead : aS} {s_Nodes_setTail : aS} {s_Reader_readDatum : aS} {J : aJ} {K : aR} {n : Nat} {L : aL} {S : List Value} {M : aM} : am_run (c_Reader_readQuoted s_Reader_fault s_Reader_add s_Nodes_nameQuote s_Nodes_setHead s_Nodes_setTail s_Reader_readDatum) k_Reader_readQuoted J K (n + 1) 43 L S M = ai_callv2 0 s_Nodes_nameQuote 46 (am_run (c_Reader_readQuoted s_Reader_fault s_Reader_add s_Nodes_nameQuote s_Nodes_setHead s_Nodes_setTail s_Reader_readDatum) k_Reader_readQuoted J K n) K 43 L S M := by rfl
set_option maxRecDepth 20000 in
theorem r_Reader_readQuoted_46 {s_Reader_fault : aS} {s_Reader_add : aS} {s_Nodes_nameQuote : aS} {s_Nodes_setHead : aS} {s_Nodes_setTail : aS} {s_Reader_readDatum : aS} {J : aJ} {K : aR} {n : Nat} {L : aL} {S : List Value} {M : aM} : am_run (c_Reader_readQuoted s_Reader_fault s_Reader_add s_Nodes_nameQuote s_Nodes_setHead s_Nodes_setTail s_Reader_readDatum) k_Reader_readQuoted J K (n + 1) 46 L S M = ai_aload 0 47 (am_run (c_Reader_readQuoted s_Reader_fault s_Reader_add s_Nodes_nameQuote s_Nodes_setHead s_Nodes_setTail s_Reader_readDatum) k_Reader_readQuoted J K n) K 46 L S M := by rfl
set_option maxRecDepth 20000 in
theorem r_Reader_readQuoted_47 {s_Reader_fault : aS} {s_Reader_add : aS} {s_Nodes_nameQuote : aS} {s_Nodes_setHead : aS} {s_Nodes_setTail : aS} {s_Reader_readDatum : aS} {J : aJ} {K : aR} {n : Nat} {L : aL} {S : List Value} {M : aM} : am_run (c_Reader_readQuoted s_Reader_fault s_Reader_add s_Nodes_nameQuote s_Nodes_setHead s_Nodes_setTail s_Reader_readDatum) k_Reader_readQuoted J K (n + 1) 47 L S M = ai_getf 1 1 50 (am_run (c_Reader_readQuoted s_Reader_fault s_Reader_add s_Nodes_nameQuote s_Nodes_setHead s_Nodes_setTail s_Reader_readDatum) k_Reader_readQuoted J K n) K 47 L S M := by rfl
set_option maxRecDepth 20000 in
theorem r_Reader_readQuoted_50 {s_Reader_fault : aS} {s_Reader_add : aS} {s_Nodes_nameQuote : aS} {s_Nodes_setHead : aS} {s_Nodes_setTail : aS} {s_Reader_readDatum : aS} {J : aJ} {K : aR} {n : Nat} {L : aL} {S : List Value} {M : aM} : am_run (c_Reader_readQuoted s_Reader_fault s_Reader_add s_Nodes_nameQuote s_Nodes_setHead s_Nodes_setTail s_Reader_readDatum) k_Reader_readQuoted J K (n + 1) 50 L S M = ai_iload 2 51 (am_run (c_Reader_readQuoted s_Reader_fault s_Reader_add s_Nodes_nameQuote s_Nodes_setHead s_Nodes_setTail s_Reader_readDatum) k_Reader_readQuoted J K n) K 50 L S M := by rfl
set_option maxRecDepth 20000 in
theorem r_Reader_readQuoted_51 {s_Reader_fault : aS} {s_Reader_add : aS} {s_Nodes_nameQuote : aS} {s_Nodes_setHead : aS} {s_Nodes_setTail : aS} {s_Reader_readDatum : aS} {J : aJ} {K : aR} {n : Nat} {L : aL} {S : List Value} {M : aM} : am_run (c_Reader_readQuoted s_Reader_fault s_Reader_add s_Nodes_nameQuote s_Nodes_setHead s_Nodes_setTail s_Reader_readDatum) k_Reader_readQuoted J K (n + 1) 51 L S M = ai_iload 3 52 (am_run (c_Reader_readQuoted s_Reader_fault s_Reader_add s_Nodes_nameQuote s_Nodes_setHead s_Nodes_setTail s_Reader_readDatum) k_Reader_readQuoted J K n) K 51 L S M := by rfl
set_option maxRecDepth 20000 in
theorem r_Reader_readQuoted_52 {s_Reader_fault : aS} {s_Reader_add : aS} {s_Nodes_nameQuote : aS} {s_Nodes_setHead : aS} {s_Nodes_setTail : aS} {s_Reader_readDatum : aS} {J : aJ} {K : aR} {n : Nat} {L : aL} {S : List Value} {M : aM} : am_run (c_Reader_readQuoted s_Reader_fault s_Reader_add s_Nodes_nameQuote s_Nodes_setHead s_Nodes_setTail s_Reader_readDatum) k_Reader_readQuoted J K (n + 1) 52 L S M = ai_callv3 0 s_Nodes_setHead 55 (am_run (c_Reader_readQuoted s_Reader_fault s_Reader_add s_Nodes_nameQuote s_Nodes_setHead s_Nodes_setTail s_Reader_readDatum) k_Reader_readQuoted J K n) K 52 L S M := by rfl
set_option maxRecDepth 20000 in
theorem r_Reader_readQuoted_55 {s_Reader_fault : aS} {s_Reader_add : aS} {s_Nodes_nameQuote : aS} {s_Nodes_setHead : aS} {s_Nodes_setTail : aS} {s_Reader_readDatum : aS} {J : aJ} {K : aR} {n : Nat} {L : aL} {S : List Value} {M : aM} : am_run (c_Reader_readQuoted s_Reader_fault s_Reader_add s_Nodes_nameQuote s_Nodes_setHead s_Nodes_setTail s_Reader_readDatum) k_Reader_readQuoted J K (n + 1) 55 L S M = ai_aload 0 56 (am_run (c_Reader_readQuoted s_Reader_fault s_Reader_add s_Nodes_nameQuote s_Nodes_setHead s_Nodes_setTail s_Reader_readDatum) k_Reader_readQuoted J K n) K 55 L S M := by rfl
set_option maxRecDepth 20000 in
theorem r_Reader_readQuoted_56 {s_Reader_fault : aS} {s_Reader_add : aS} {s_Nodes_nameQuote : aS} {s_Nodes_setHead : aS} {s_Nodes_setTail : aS} {s_Reader_readDatum : aS} {J : aJ} {K : aR} {n : Nat} {L : aL} {S : List Value} {M : aM} : am_run (c_Reader_readQuoted s_Reader_fault s_Reader_add s_Nodes_nameQuote s_Nodes_setHead s_Nodes_setTail s_Reader_readDatum) k_Reader_readQuoted J K (n + 1) 56 L S M = ai_getf 1 1 59 (am_run (c_Reader_readQuoted s_Reader_fault s_Reader_add s_Nodes_nameQuote s_Nodes_setHead s_Nodes_setTail s_Reader_readDatum) k_Reader_readQuoted J K n) K 56 L S M := by rfl
set_option maxRecDepth 20000 in
theorem r_Reader_readQuoted_59 {s_Reader_fault : aS} {s_Reader_add : aS} {s_Nodes_nameQuote : aS} {s_Nodes_setHead : aS} {s_Nodes_setTail : aS} {s_Reader_readDatum : aS} {J : aJ} {K : aR} {n : Nat} {L : aL} {S : List Value} {M : aM} : am_run (c_Reader_readQuoted s_Reader_fault s_Reader_add s_Nodes_nameQuote s_Nodes_setHead s_Nodes_setTail s_Reader_readDatum) k_Reader_readQuoted J K (n + 1) 59 L S M = ai_iload 2 60 (am_run (c_Reader_readQuoted s_Reader_fault s_Reader_add s_Nodes_nameQuote s_Nodes_setHead s_Nodes_setTail s_Reader_readDatum) k_Reader_readQuoted J K n) K 59 L S M := by rfl
set_option maxRecDepth 20000 in
theorem r_Reader_readQuoted_60 {s_Reader_fault : aS} {s_Reader_add : aS} {s_Nodes_nameQuote : aS} {s_Nodes_setHead : aS} {s_Nodes_setTail : aS} {s_Reader_readDatum : aS} {J : aJ} {K : aR} {n : Nat} {L : aL} {S : List Value} {M : aM} : am_run (c_Reader_readQuoted s_Reader_fault s_Reader_add s_Nodes_nameQuote s_Nodes_setHead s_Nodes_setTail s_Reader_readDatum) k_Reader_readQuoted J K (n + 1) 60 L S M = ai_iload 4 62 (am_run (c_Reader_readQuoted s_Reader_fault s_Reader_add s_Nodes_nameQuote s_Nodes_setHead s_Nodes_setTail s_Reader_readDatum) k_Reader_readQuoted J K n) K 60 L S M := by rfl
set_option maxRecDepth 20000 in
theorem r_Reader_readQuoted_62 {s_Reader_fault : aS} {s_Reader_add : aS} {s_Nodes_nameQuote : aS} {s_Nodes_setHead : aS} {s_Nodes_setTail : aS} {s_Reader_readDatum : aS} {J : aJ} {K : aR} {n : Nat} {L : aL} {S : List Value} {M : aM} : am_run (c_Reader_readQuoted s_Reader_fault s_Reader_add s_Nodes_nameQuote s_Nodes_setHead s_Nodes_setTail s_Reader_readDatum) k_Reader_readQuoted J K (n + 1) 62 L S M = ai_callv3 0 s_Nodes_setTail 65 (am_run (c_Reader_readQuoted s_Reader_fault s_Reader_add s_Nodes_nameQuote s_Nodes_setHead s_Nodes_setTail s_Reader_readDatum) k_Reader_readQuoted J K n) K 62 L S M := by rfl
set_option maxRecDepth 20000 in
theorem r_Reader_readQuoted_65 {s_Reader_fault : aS} {s_Reader_add : aS} {s_Nodes_nameQuote : aS} {s_Nodes_setHead : aS} {s_Nodes_setTail : aS} {s_Reader_readDatum : aS} {J : aJ} {K : aR} {n : Nat} {L : aL} {S : List Value} {M : aM} : am_run (c_Reader_readQuoted s_Reader_fault s_Reader_add s_Nodes_nameQuote s_Nodes_setHead s_Nodes_setTail s_Reader_readDatum) k_Reader_readQuoted J K (n + 1) 65 L S M = ai_aload 0 66 (am_run (c_Reader_readQuoted s_Reader_fault s_Reader_add s_Nodes_nameQuote s_Nodes_setHead s_Nodes_setTail s_Reader_readDatum) k_Reader_readQuoted J K n) K 65 L S M := by rfl
set_option maxRecDepth 20000 in
theorem r_Reader_readQuoted_66 {s_Reader_fault : aS} {s_Reader_add : aS} {s_Nodes_nameQuote : aS} {s_Nodes_setHead : aS} {s_Nodes_setTail : aS} {s_Reader_readDatum : aS} {J : aJ} {K : aR} {n : Nat} {L : aL} {S : List Value} {M : aM} : am_run (c_Reader_readQuoted s_Reader_fault s_Reader_add s_Nodes_nameQuote s_Nodes_setHead s_Nodes_setTail s_Reader_readDatum) k_Reader_readQuoted J K (n + 1) 66 L S M = ai_dup 67 (am_run (c_Reader_readQuoted s_Reader_fault s_Reader_add s_Nodes_nameQuote s_Nodes_setHead s_Nodes_setTail s_Reader_readDatum) k_Reader_readQuoted J K n) K 66 L S M := by rfl
set_option maxRecDepth 20000 in
theorem r_Reader_readQuoted_67 {s_Reader_fault : aS} {s_Reader_add : aS} {s_Nodes_nameQuote : aS} {s_Nodes_setHead : aS} {s_Nodes_setTail : aS} {s_Reader_readDatum : aS} {J : aJ} {K : aR} {n : Nat} {L : aL} {S : List Value} {M : aM} : am_run (c_Reader_readQuoted s_Reader_fault s_Reader_add s_Nodes_nameQuote s_Nodes_setHead s_Nodes_setTail s_Reader_readDatum) k_Reader_readQuoted J K (n + 1) 67 L S M = ai_getf 1 3 70 (am_run (c_Reader_readQuoted s_Reader_fault s_Reader_add s_Nodes_nameQuote s_Nodes_setHead s_Nodes_setTail s_Reader_readDatum) k_Reader_readQuoted J K n) K 67 L S M := by rfl
set_option maxRecDepth 20000 in
theorem r_Reader_readQuoted_70 {s_Reader_fault : aS} {s_Reader_add : aS} {s_Nodes_nameQuote : aS} {s_Nodes_setHead : aS} {s_Nodes_setTail : aS} {s_Reader_readDatum : aS} {J : aJ} {K : aR} {n : Nat} {L : aL} {S : List Value} {M : aM} : am_run (c_Reader_readQuoted s_Reader_fault s_Reader_add s_Nodes_nameQuote s_Nodes_setHead s_Nodes_setTail s_Reader_readDatum) k_Reader_readQuoted J K (n + 1) 70 L S M = ai_const 1 71 (am_run (c_Reader_readQuoted s_Reader_fault s_Reader_add s_Nodes_nameQuote s_Nodes_setHead s_Nodes_setTail s_Reader_readDatum) k_Reader_readQuoted J K n) K 70 L S M := by rfl
set_option maxRecDepth 20000 in
theorem r_Reader_readQuoted_71 {s_Reader_fault : aS} {s_Reader_add : aS} {s_Nodes_nameQuote : aS} {s_Nodes_setHead : aS} {s_Nodes_setTail : aS} {s_Reader_readDatum : aS} {J : aJ} {K : aR} {n : Nat} {L : aL} {S : List Value} {M : aM} : am_run (c_Reader_readQuoted s_Reader_fault s_Reader_add s_Nodes_nameQuote s_Nodes_setHead s_Nodes_setTail s_Reader_readDatum) k_Reader_readQuoted J K (n + 1) 71 L S M = ai_iadd 72 (am_run (c_Reader_readQuoted s_Reader_fault s_Reader_add s_Nodes_nameQuote s_Nodes_setHead s_Nodes_setTail s_Reader_readDatum) k_Reader_readQuoted J K n) K 71 L S M := by rfl
set_option maxRecDepth 20000 in
theorem r_Reader_readQuoted_72 {s_Reader_fault : aS} {s_Reader_add : aS} {s_Nodes_nameQuote : aS} {s_Nodes_setHead : aS} {s_Nodes_setTail : aS} {s_Reader_readDatum : aS} {J : aJ} {K : aR} {n : Nat} {L : aL} {S : List Value} {M : aM} : am_run (c_Reader_readQuoted s_Reader_fault s_Reader_add s_Nodes_nameQuote s_Nodes_setHead s_Nodes_setTail s_Reader_readDatum) k_Reader_readQuoted J K (n + 1) 72 L S M = ai_putf 1 3 75 (am_run (c_Reader_readQuoted s_Reader_fault s_Reader_add s_Nodes_nameQuote s_Nodes_setHead s_Nodes_setTail s_Reader_readDatum) k_Reader_readQuoted J K n) K 72 L S M := by rfl
set_option maxRecDepth 20000 in
theorem r_Reader_readQuoted_75 {s_Reader_fault : aS} {s_Reader_add : aS} {s_Nodes_nameQuote : aS} {s_Nodes_setHead : aS} {s_Nodes_setTail : aS} {s_Reader_readDatum : aS} {J : aJ} {K : aR} {n : Nat} {L : aL} {S : List Value} {M : aM} : am_run (c_Reader_readQuoted s_Reader_fault s_Reader_add s_Nodes_nameQuote s_Nodes_setHead s_Nodes_setTail s_Reader_readDatum) k_Reader_readQuoted J K (n + 1) 75 L S M = ai_aload 0 76 (am_run (c_Reader_readQuoted s_Reader_fault s_Reader_add s_Nodes_nameQuote s_Nodes_setHead s_Nodes_setTail s_Reader_readDatum) k_Reader_readQuoted J K n) K 75 L S M := by rfl
set_option maxRecDepth 20000 in
theorem r_Reader_readQuoted_76 {s_Reader_fault : aS} {s_Reader_add : aS} {s_Nodes_nameQuote : aS} {s_Nodes_setHead : aS} {s_Nodes_setTail : aS} {s_Reader_readDatum : aS} {J : aJ} {K : aR} {n : Nat} {L : aL} {S : List Value} {M : aM} : am_run (c_Reader_readQuoted s_Reader_fault s_Reader_add s_Nodes_nameQuote s_Nodes_setHead s_Nodes_setTail s_Reader_readDatum) k_Reader_readQuoted J K (n + 1) 76 L S M = ai_iload 1 77 (am_run (c_Reader_readQuoted s_Reader_fault s_Reader_add s_Nodes_nameQuote s_Nodes_setHead s_Nodes_setTail s_Reader_readDatum) k_Reader_readQuoted J K n) K 76 L S M := by rfl
set_option maxRecDepth 20000 in
theorem r_Reader_readQuoted_77 {s_Reader_fault : aS} {s_Reader_add : aS} {s_Nodes_nameQuote : aS} {s_Nodes_setHead : aS} {s_Nodes_setTail : aS} {s_Reader_readDatum : aS} {J : aJ} {K : aR} {n : Nat} {L : aL} {S : List Value} {M : aM} : am_run (c_Reader_readQuoted s_Reader_fault s_Reader_add s_Nodes_nameQuote s_Nodes_setHead s_Nodes_setTail s_Reader_readDatum) k_Reader_readQuoted J K (n + 1) 77 L S M = ai_const 1 78 (am_run (c_Reader_readQuoted s_Reader_fault s_Reader_add s_Nodes_nameQuote s_Nodes_setHead s_Nodes_setTail s_Reader_readDatum) k_Reader_readQuoted J K n) K 77 L S M := by rfl
set_option maxRecDepth 20000 in
theorem r_Reader_readQuoted_78 {s_Reader_fault : aS} {s_Reader_add : aS} {s_Nodes_nameQuote : aS} {s_Nodes_setHead : aS} {s_Nodes_setTail : aS} {s_Reader_readDatum : aS} {J : aJ} {K : aR} {n : Nat} {L : aL} {S : List Value} {M : aM} : am_run (c_Reader_readQuoted s_Reader_fault s_Reader_add s_Nodes_nameQuote s_Nodes_setHead s_Nodes_setTail s_Reader_readDatum) k_Reader_readQuoted J K (n + 1) 78 L S M = ai_iadd 79 (am_run (c_Reader_readQuoted s_Reader_fault s_Reader_add s_Nodes_nameQuote s_Nodes_setHead s_Nodes_setTail s_Reader_readDatum) k_Reader_readQuoted J K n) K 78 L S M := by rfl
set_option maxRecDepth 20000 in
theorem r_Reader_readQuoted_79 {s_Reader_fault : aS} {s_Reader_add : aS} {s_Nodes_nameQuote : aS} {s_Nodes_setHead : aS} {s_Nodes_setTail : aS} {s_Reader_readDatum : aS} {J : aJ} {K : aR} {n : Nat} {L : aL} {S : List Value} {M : aM} : am_run (c_Reader_readQuoted s_Reader_fault s_Reader_add s_Nodes_nameQuote s_Nodes_setHead s_Nodes_setTail s_Reader_readDatum) k_Reader_readQuoted J K (n + 1) 79 L S M = ai_callv2 1 s_Reader_readDatum 82 (am_run (c_Reader_readQuoted s_Reader_fault s_Reader_add s_Nodes_nameQuote s_Nodes_setHead s_Nodes_setTail s_Reader_readDatum) k_Reader_readQuoted J K n) K 79 L S M := by rfl
set_option maxRecDepth 20000 in
theorem r_Reader_readQuoted_82 {s_Reader_fault : aS} {s_Reader_add : aS} {s_Nodes_nameQuote : aS} {s_Nodes_setHead : aS} {s_Nodes_setTail : aS} {s_Reader_readDatum : aS} {J : aJ} {K : aR} {n : Nat} {L : aL} {S : List Value} {M : aM} : am_run (c_Reader_readQuoted s_Reader_fault s_Reader_add s_Nodes_nameQuote s_Nodes_setHead s_Nodes_setTail s_Reader_readDatum) k_Reader_readQuoted J K (n + 1) 82 L S M = ai_istore 5 84 (am_run (c_Reader_readQuoted s_Reader_fault s_Reader_add s_Nodes_nameQuote s_Nodes_setHead s_Nodes_setTail s_Reader_readDatum) k_Reader_readQuoted J K n) K 82 L S M := by rfl
set_option maxRecDepth 20000 in
theorem r_Reader_readQuoted_84 {s_Reader_fault : aS} {s_Reader_add : aS} {s_Nodes_nameQuote : aS} {s_Nodes_setHead : aS} {s_Nodes_setTail : aS} {s_Reader_readDatum : aS} {J : aJ} {K : aR} {n : Nat} {L : aL} {S : List Value} {M : aM} : am_run (c_Reader_readQuoted s_Reader_fault s_Reader_add s_Nodes_nameQuote s_Nodes_setHead s_Nodes_setTail s_Reader_readDatum) k_Reader_readQuoted J K (n + 1) 84 L S M = ai_iload 5 86 (am_run (c_Reader_readQuoted s_Reader_fault s_Reader_add s_Nodes_nameQuote s_Nodes_setHead s_Nodes_setTail s_Reader_readDatum) k_Reader_readQuoted J K n) K 84 L S M := by rfl
set_option maxRecDepth 20000 in
theorem r_Reader_readQuoted_86 {s_Reader_fault : aS} {s_Reader_add : aS} {s_Nodes_nameQuote : aS} {s_Nodes_setHead : aS} {s_Nodes_setTail : aS} {s_Reader_readDatum : aS} {J : aJ} {K : aR} {n : Nat} {L : aL} {S : List Value} {M : aM} : am_run (c_Reader_readQuoted s_Reader_fault s_Reader_add s_Nodes_nameQuote s_Nodes_setHead s_Nodes_setTail s_Reader_readDatum) k_Reader_readQuoted J K (n + 1) 86 L S M = ai_const (-1) 87 (am_run (c_Reader_readQuoted s_Reader_fault s_Reader_add s_Nodes_nameQuote s_Nodes_setHead s_Nodes_setTail s_Reader_readDatum) k_Reader_readQuoted J K n) K 86 L S M := by rfl
set_option maxRecDepth 20000 in
theorem r_Reader_readQuoted_87 {s_Reader_fault : aS} {s_Reader_add : aS} {s_Nodes_nameQuote : aS} {s_Nodes_setHead : aS} {s_Nodes_setTail : aS} {s_Reader_readDatum : aS} {J : aJ} {K : aR} {n : Nat} {L : aL} {S : List Value} {M : aM} : am_run (c_Reader_readQuoted s_Reader_fault s_Reader_add s_Nodes_nameQuote s_Nodes_setHead s_Nodes_setTail s_Reader_readDatum) k_Reader_readQuoted J K (n + 1) 87 L S M = ai_cmpne 92 90 (am_run (c_Reader_readQuoted s_Reader_fault s_Reader_add s_Nodes_nameQuote s_Nodes_setHead s_Nodes_setTail s_Reader_readDatum) k_Reader_readQuoted J K n) K 87 L S M := by rfl
set_option maxRecDepth 20000 in
theorem r_Reader_readQuoted_90 {s_Reader_fault : aS} {s_Reader_add : aS} {s_Nodes_nameQuote : aS} {s_Nodes_setHead : aS} {s_Nodes_setTail : aS} {s_Reader_readDatum : aS} {J : aJ} {K : aR} {n : Nat} {L : aL} {S : List Value} {M : aM} : am_run (c_Reader_readQuoted s_Reader_fault s_Reader_add s_Nodes_nameQuote s_Nodes_setHead s_Nodes_setTail s_Reader_readDatum) k_Reader_readQuoted J K (n + 1) 90 L S M = ai_const (-1) 91 (am_run (c_Reader_readQuoted s_Reader_fault s_Reader_add s_Nodes_nameQuote s_Nodes_setHead s_Nodes_setTail s_Reader_readDatum) k_Reader_readQuoted J K n) K 90 L S M := by rfl
set_option maxRecDepth 20000 in
theorem r_Reader_readQuoted_91 {s_Reader_fault : aS} {s_Reader_add : aS} {s_Nodes_nameQuote : aS} {s_Nodes_setHead : aS} {s_Nodes_setTail : aS} {s_Reader_readDatum : aS} {J : aJ} {K : aR} {n : Nat} {L : aL} {S : List Value} {M : aM} : am_run (c_Reader_readQuoted s_Reader_fault s_Reader_add s_Nodes_nameQuote s_Nodes_setHead s_Nodes_setTail s_Reader_readDatum) k_Reader_readQuoted J K (n + 1) 91 L S M = ai_iret (am_run (c_Reader_readQuoted s_Reader_fault s_Reader_add s_Nodes_nameQuote s_Nodes_setHead s_Nodes_setTail s_Reader_readDatum) k_Reader_readQuoted J K n) K 91 L S M := by rfl
set_option maxRecDepth 20000 in
theorem r_Reader_readQuoted_92 {s_Reader_fault : aS} {s_Reader_add : aS} {s_Nodes_nameQuote : aS} {s_Nodes_setHead : aS} {s_Nodes_setTail : aS} {s_Reader_readDatum : aS} {J : aJ} {K : aR} {n : Nat} {L : aL} {S : List Value} {M : aM} : am_run (c_Reader_readQuoted s_Reader_fault s_Reader_add s_Nodes_nameQuote s_Nodes_setHead s_Nodes_setTail s_Reader_readDatum) k_Reader_readQuoted J K (n + 1) 92 L S M = J 92 L S M := by rfl
set_option maxRecDepth 20000 in
theorem r_Reader_readQuoted_93 {s_Reader_fault : aS} {s_Reader_add : aS} {s_Nodes_nameQuote : aS} {s_Nodes_setHead : aS} {s_Nodes_setTail : aS} {s_Reader_readDatum : aS} {J : aJ} {K : aR} {n : Nat} {L : aL} {S : List Value} {M : aM} : am_run (c_Reader_readQuoted s_Reader_fault s_Reader_add s_Nodes_nameQuote s_Nodes_setHead s_Nodes_setTail s_Reader_readDatum) k_Reader_readQuoted J K (n + 1) 93 L S M = ai_getf 1 1 96 (am_run (c_Reader_readQuoted s_Reader_fault s_Reader_add s_Nodes_nameQuote s_Nodes_setHead s_Nodes_setTail s_Reader_readDatum) k_Reader_readQuoted J K n) K 93 L S M := by rfl
set_option maxRecDepth 20000 in
theorem r_Reader_readQuoted_96 {s_Reader_fault : aS} {s_Reader_add : aS} {s_Nodes_nameQuote : aS} {s_Nodes_setHead : aS} {s_Nodes_setTail : aS} {s_Reader_readDatum : aS} {J : aJ} {K : aR} {n : Nat} {L : aL} {S : List Value} {M : aM} : am_run (c_Reader_readQuoted s_Reader_fault s_Reader_add s_Nodes_nameQuote s_Nodes_setHead s_Nodes_setTail s_Reader_readDatum) k_Reader_readQuoted J K (n + 1) 96 L S M = ai_iload 4 98 (am_run (c_Reader_readQuoted s_Reader_fault s_Reader_add s_Nodes_nameQuote s_Nodes_setHead s_Nodes_setTail s_Reader_readDatum) k_Reader_readQuoted J K n) K 96 L S M := by rfl
set_option maxRecDepth 20000 in
theorem r_Reader_readQuoted_98 {s_Reader_fault : aS} {s_Reader_add : aS} {s_Nodes_nameQuote : aS} {s_Nodes_setHead : aS} {s_Nodes_setTail : aS} {s_Reader_readDatum : aS} {J : aJ} {K : aR} {n : Nat} {L : aL} {S : List Value} {M : aM} : am_run (c_Reader_readQuoted s_Reader_fault s_Reader_add s_Nodes_nameQuote s_Nodes_setHead s_Nodes_setTail s_Reader_readDatum) k_Reader_readQuoted J K (n + 1) 98 L S M = ai_iload 5 100 (am_run (c_Reader_readQuoted s_Reader_fault s_Reader_add s_Nodes_nameQuote s_Nodes_setHead s_Nodes_setTail s_Reader_readDatum) k_Reader_readQuoted J K n) K 98 L S M := by rfl
set_option maxRecDepth 20000 in
theorem r_Reader_readQuoted_100 {s_Reader_fault : aS} {s_Reader_add : aS} {s_Nodes_nameQuote : aS} {s_Nodes_setHead : aS} {s_Nodes_setTail : aS} {s_Reader_readDatum : aS} {J : aJ} {K : aR} {n : Nat} {L : aL} {S : List Value} {M : aM} : am_run (c_Reader_readQuoted s_Reader_fault s_Reader_add s_Nodes_nameQuote s_Nodes_setHead s_Nodes_setTail s_Reader_readDatum) k_Reader_readQuoted J K (n + 1) 100 L S M = ai_callv3 0 s_Nodes_setHead 103 (am_run (c_Reader_readQuoted s_Reader_fault s_Reader_add s_Nodes_nameQuote s_Nodes_setHead s_Nodes_setTail s_Reader_readDatum) k_Reader_readQuoted J K n) K 100 L S M := by rfl
set_option maxRecDepth 20000 in
theorem r_Reader_readQuoted_103 {s_Reader_fault : aS} {s_Reader_add : aS} {s_Nodes_nameQuote : aS} {s_Nodes_setHead : aS} {s_Nodes_setTail : aS} {s_Reader_readDatum : aS} {J : aJ} {K : aR} {n : Nat} {L : aL} {S : List Value} {M : aM} : am_run (c_Reader_readQuoted s_Reader_fault s_Reader_add s_Nodes_nameQuote s_Nodes_setHead s_Nodes_setTail s_Reader_readDatum) k_Reader_readQuoted J K (n + 1) 103 L S M = ai_aload 0 104 (am_run (c_Reader_readQuoted s_Reader_fault s_Reader_add s_Nodes_nameQuote s_Nodes_setHead s_Nodes_setTail s_Reader_readDatum) k_Reader_readQuoted J K n) K 103 L S M := by rfl
set_option maxRecDepth 20000 in
theorem r_Reader_readQuoted_104 {s_Reader_fault : aS} {s_Reader_add : aS} {s_Nodes_nameQuote : aS} {s_Nodes_setHead : aS} {s_Nodes_setTail : aS} {s_Reader_readDatum : aS} {J : aJ} {K : aR} {n : Nat} {L : aL} {S : List Value} {M : aM} : am_run (c_Reader_readQuoted s_Reader_fault s_Reader_add s_Nodes_nameQuote s_Nodes_setHead s_Nodes_setTail s_Reader_readDatum) k_Reader_readQuoted J K (n + 1) 104 L S M = ai_const 5 105 (am_run (c_Reader_readQuoted s_Reader_fault s_Reader_add s_Nodes_nameQuote s_Nodes_setHead s_Nodes_setTail s_Reader_readDatum) k_Reader_readQuoted J K n) K 104 L S M := by rfl
set_option maxRecDepth 20000 in
theorem r_Reader_readQuoted_105 {s_Reader_fault : aS} {s_Reader_add : aS} {s_Nodes_nameQuote : aS} {s_Nodes_setHead : aS} {s_Nodes_setTail : aS} {s_Reader_readDatum : aS} {J : aJ} {K : aR} {n : Nat} {L : aL} {S : List Value} {M : aM} : am_run (c_Reader_readQuoted s_Reader_fault s_Reader_add s_Nodes_nameQuote s_Nodes_setHead s_Nodes_setTail s_Reader_readDatum) k_Reader_readQuoted J K (n + 1) 105 L S M = ai_callv2 1 s_Reader_add 108 (am_run (c_Reader_readQuoted s_Reader_fault s_Reader_add s_Nodes_nameQuote s_Nodes_setHead s_Nodes_setTail s_Reader_readDatum) k_Reader_readQuoted J K n) K 105 L S M := by rfl
set_option maxRecDepth 20000 in
theorem r_Reader_readQuoted_108 {s_Reader_fault : aS} {s_Reader_add : aS} {s_Nodes_nameQuote : aS} {s_Nodes_setHead : aS} {s_Nodes_setTail : aS} {s_Reader_readDatum : aS} {J : aJ} {K : aR} {n : Nat} {L : aL} {S : List Value} {M : aM} : am_run (c_Reader_readQuoted s_Reader_fault s_Reader_add s_Nodes_nameQuote s_Nodes_setHead s_Nodes_setTail s_Reader_readDatum) k_Reader_readQuoted J K (n + 1) 108 L S M = ai_istore 6 110 (am_run (c_Reader_readQuoted s_Reader_fault s_Reader_add s_Nodes_nameQuote s_Nodes_setHead s_Nodes_setTail s_Reader_readDatum) k_Reader_readQuoted J K n) K 108 L S M := by rfl
set_option maxRecDepth 20000 in
theorem r_Reader_readQuoted_110 {s_Reader_fault : aS} {s_Reader_add : aS} {s_Nodes_nameQuote : aS} {s_Nodes_setHead : aS} {s_Nodes_setTail : aS} {s_Reader_readDatum : aS} {J : aJ} {K : aR} {n : Nat} {L : aL} {S : List Value} {M : aM} : am_run (c_Reader_readQuoted s_Reader_fault s_Reader_add s_Nodes_nameQuote s_Nodes_setHead s_Nodes_setTail s_Reader_readDatum) k_Reader_readQuoted J K (n + 1) 110 L S M = ai_aload 0 111 (am_run (c_Reader_readQuoted s_Reader_fault s_Reader_add s_Nodes_nameQuote s_Nodes_setHead s_Nodes_setTail s_Reader_readDatum) k_Reader_readQuoted J K n) K 110 L S M := by rfl
set_option maxRecDepth 20000 in
theorem r_Reader_readQuoted_111 {s_Reader_fault : aS} {s_Reader_add : aS} {s_Nodes_nameQuote : aS} {s_Nodes_setHead : aS} {s_Nodes_setTail : aS} {s_Reader_readDatum : aS} {J : aJ} {K : aR} {n : Nat} {L : aL} {S : List Value} {M : aM} : am_run (c_Reader_readQuoted s_Reader_fault s_Reader_add s_Nodes_nameQuote s_Nodes_setHead s_Nodes_setTail s_Reader_readDatum) k_Reader_readQuoted J K (n + 1) 111 L S M = ai_getf 1 1 114 (am_run (c_Reader_readQuoted s_Reader_fault s_Reader_add s_Nodes_nameQuote s_Nodes_setHead s_Nodes_setTail s_Reader_readDatum) k_Reader_readQuoted J K n) K 111 L S M := by rfl
set_option maxRecDepth 20000 in
theorem r_Reader_readQuoted_114 {s_Reader_fault : aS} {s_Reader_add : aS} {s_Nodes_nameQuote : aS} {s_Nodes_setHead : aS} {s_Nodes_setTail : aS} {s_Reader_readDatum : aS} {J : aJ} {K : aR} {n : Nat} {L : aL} {S : List Value} {M : aM} : am_run (c_Reader_readQuoted s_Reader_fault s_Reader_add s_Nodes_nameQuote s_Nodes_setHead s_Nodes_setTail s_Reader_readDatum) k_Reader_readQuoted J K (n + 1) 114 L S M = ai_iload 4 116 (am_run (c_Reader_readQuoted s_Reader_fault s_Reader_add s_Nodes_nameQuote s_Nodes_setHead s_Nodes_setTail s_Reader_readDatum) k_Reader_readQuoted J K n) K 114 L S M := by rfl
set_option maxRecDepth 20000 in
theorem r_Reader_readQuoted_116 {s_Reader_fault : aS} {s_Reader_add : aS} {s_Nodes_nameQuote : aS} {s_Nodes_setHead : aS} {s_Nodes_setTail : aS} {s_Reader_readDatum : aS} {J : aJ} {K : aR} {n : Nat} {L : aL} {S : List Value} {M : aM} : am_run (c_Reader_readQuoted s_Reader_fault s_Reader_add s_Nodes_nameQuote s_Nodes_setHead s_Nodes_setTail s_Reader_readDatum) k_Reader_readQuoted J K (n + 1) 116 L S M = ai_iload 6 118 (am_run (c_Reader_readQuoted s_Reader_fault s_Reader_add s_Nodes_nameQuote s_Nodes_setHead s_Nodes_setTail s_Reader_readDatum) k_Reader_readQuoted J K n) K 116 L S M := by rfl
set_option maxRecDepth 20000 in
theorem r_Reader_readQuoted_118 {s_Reader_fault : aS} {s_Reader_add : aS} {s_Nodes_nameQuote : aS} {s_Nodes_setHead : aS} {s_Nodes_setTail : aS} {s_Reader_readDatum : aS} {J : aJ} {K : aR} {n : Nat} {L : aL} {S : List Value} {M : aM} : am_run (c_Reader_readQuoted s_Reader_fault s_Reader_add s_Nodes_nameQuote s_Nodes_setHead s_Nodes_setTail s_Reader_readDatum) k_Reader_readQuoted J K (n + 1) 118 L S M = ai_callv3 0 s_Nodes_setTail 121 (am_run (c_Reader_readQuoted s_Reader_fault s_Reader_add s_Nodes_nameQuote s_Nodes_setHead s_Nodes_setTail s_Reader_readDatum) k_Reader_readQuoted J K n) K 118 L S M := by rfl
set_option maxRecDepth 20000 in
theorem r_Reader_readQuoted_121 {s_Reader_fault : aS} {s_Reader_add : aS} {s_Nodes_nameQuote : aS} {s_Nodes_setHead : aS} {s_Nodes_setTail : aS} {s_Reader_readDatum : aS} {J : aJ} {K : aR} {n : Nat} {L : aL} {S : List Value} {M : aM} : am_run (c_Reader_readQuoted s_Reader_fault s_Reader_add s_Nodes_nameQuote s_Nodes_setHead s_Nodes_setTail s_Reader_readDatum) k_Reader_readQuoted J K (n + 1) 121 L S M = ai_iload 6 123 (am_run (c_Reader_readQuoted s_Reader_fault s_Reader_add s_Nodes_nameQuote s_Nodes_setHead s_Nodes_setTail s_Reader_readDatum) k_Reader_readQuoted J K n) K 121 L S M := by rfl
set_option maxRecDepth 20000 in
theorem r_Reader_readQuoted_123 {s_Reader_fault : aS} {s_Reader_add : aS} {s_Nodes_nameQuote : aS} {s_Nodes_setHead : aS} {s_Nodes_setTail : aS} {s_Reader_readDatum : aS} {J : aJ} {K : aR} {n : Nat} {L : aL} {S : List Value} {M : aM} : am_run (c_Reader_readQuoted s_Reader_fault s_Reader_add s_Nodes_nameQuote s_Nodes_setHead s_Nodes_setTail s_Reader_readDatum) k_Reader_readQuoted J K (n + 1) 123 L S M = ai_const (-1) 124 (am_run (c_Reader_readQuoted s_Reader_fault s_Reader_add s_Nodes_nameQuote s_Nodes_setHead s_Nodes_setTail s_Reader_readDatum) k_Reader_readQuoted J K n) K 123 L S M := by rfl
set_option maxRecDepth 20000 in
theorem r_Reader_readQuoted_124 {s_Reader_fault : aS} {s_Reader_add : aS} {s_Nodes_nameQuote : aS} {s_Nodes_setHead : aS} {s_Nodes_setTail : aS} {s_Reader_readDatum : aS} {J : aJ} {K : aR} {n : Nat} {L : aL} {S : List Value} {M : aM} : am_run (c_Reader_readQuoted s_Reader_fault s_Reader_add s_Nodes_nameQuote s_Nodes_setHead s_Nodes_setTail s_Reader_readDatum) k_Reader_readQuoted J K (n + 1) 124 L S M = ai_cmpne 131 127 (am_run (c_Reader_readQuoted s_Reader_fault s_Reader_add s_Nodes_nameQuote s_Nodes_setHead s_Nodes_setTail s_Reader_readDatum) k_Reader_readQuoted J K n) K 124 L S M := by rfl
set_option maxRecDepth 20000 in
theorem r_Reader_readQuoted_127 {s_Reader_fault : aS} {s_Reader_add : aS} {s_Nodes_nameQuote : aS} {s_Nodes_setHead : aS} {s_Nodes_setTail : aS} {s_Reader_readDatum : aS} {J : aJ} {K : aR} {n : Nat} {L : aL} {S : List Value} {M : aM} : am_run (c_Reader_readQuoted s_Reader_fault s_Reader_add s_Nodes_nameQuote s_Nodes_setHead s_Nodes_setTail s_Reader_readDatum) k_Reader_readQuoted J K (n + 1) 127 L S M = ai_const (-1) 128 (am_run (c_Reader_readQuoted s_Reader_fault s_Reader_add s_Nodes_nameQuote s_Nodes_setHead s_Nodes_setTail s_Reader_readDatum) k_Reader_readQuoted J K n) K 127 L S M := by rfl
set_option maxRecDepth 20000 in
theorem r_Reader_readQuoted_128 {s_Reader_fault : aS} {s_Reader_add : aS} {s_Nodes_nameQuote : aS} {s_Nodes_setHead : aS} {s_Nodes_setTail : aS} {s_Reader_readDatum : aS} {J : aJ} {K : aR} {n : Nat} {L : aL} {S : List Value} {M : aM} : am_run (c_Reader_readQuoted s_Reader_fault s_Reader_add s_Nodes_nameQuote s_Nodes_setHead s_Nodes_setTail s_Reader_readDatum) k_Reader_readQuoted J K (n + 1) 128 L S M = ai_goto 132 (am_run (c_Reader_readQuoted s_Reader_fault s_Reader_add s_Nodes_nameQuote s_Nodes_setHead s_Nodes_setTail s_Reader_readDatum) k_Reader_readQuoted J K n) K 128 L S M := by rfl
set_option maxRecDepth 20000 in
theorem r_Reader_readQuoted_131 {s_Reader_fault : aS} {s_Reader_add : aS} {s_Nodes_nameQuote : aS} {s_Nodes_setHead : aS} {s_Nodes_setTail : aS} {s_Reader_readDatum : aS} {J : aJ} {K : aR} {n : Nat} {L : aL} {S : List Value} {M : aM} : am_run (c_Reader_readQuoted s_Reader_fault s_Reader_add s_Nodes_nameQuote s_Nodes_setHead s_Nodes_setTail s_Reader_readDatum) k_Reader_readQuoted J K (n + 1) 131 L S M = ai_iload 2 132 (am_run (c_Reader_readQuoted s_Reader_fault s_Reader_add s_Nodes_nameQuote s_Nodes_setHead s_Nodes_setTail s_Reader_readDatum) k_Reader_readQuoted J K n) K 131 L S M := by rfl
set_option maxRecDepth 20000 in
theorem r_Reader_readQuoted_132 {s_Reader_fault : aS} {s_Reader_add : aS} {s_Nodes_nameQuote : aS} {s_Nodes_setHead : aS} {s_Nodes_setTail : aS} {s_Reader_readDatum : aS} {J : aJ} {K : aR} {n : Nat} {L : aL} {S : List Value} {M : aM} : am_run (c_Reader_readQuoted s_Reader_fault s_Reader_add s_Nodes_nameQuote s_Nodes_setHead s_Nodes_setTail s_Reader_readDatum) k_Reader_readQuoted J K (n + 1) 132 L S M = ai_iret (am_run (c_Reader_readQuoted s_Reader_fault s_Reader_add s_Nodes_nameQuote s_Nodes_setHead s_Nodes_setTail s_Reader_readDatum) k_Reader_readQuoted J K n) K 132 L S M := by rfl
def c_Reader_readList (s_Reader_fault : aS) (s_Tokens_sortOf : aS) (s_Reader_add : aS) (s_Reader_readDatum : aS) (s_Nodes_setHead : aS) (s_Reader_readDotted : aS) (s_Nodes_setTail : aS) : List (Nat × aI) := [
  (0, ai_iload 1 1),
  (1, ai_const 15 3),
  (3, ai_cmplt 11 6),
  (6, ai_aload 0 7),
  (7, ai_callv1 1 s_Reader_fault 10),
  (10, ai_iret),
  (11, ai_aload 0 12),
  (12, ai_getf 1 2 15),
  (15, ai_aload 0 16),
  (16, ai_getf 1 3 19),
  (19, ai_const 1 20),
  (20, ai_iadd 21),
  (21, ai_callv2 3 s_Tokens_sortOf 24),
  (24, ai_const 7 26),
  (26, ai_cmpne 45 29),
  (29, ai_aload 0 30),
  (30, ai_dup 31),
  (31, ai_getf 1 3 34),
  (34, ai_const 1 35),
  (35, ai_iadd 36),
  (36, ai_putf 1 3 39),
  (39, ai_aload 0 40),
  (40, ai_const 5 41),
  (41, ai_callv2 1 s_Reader_add 44),
  (44, ai_iret),
  (45, ai_aload 0 46),
  (46, ai_const 4 47),
  (47, ai_callv2 1 s_Reader_add 50),
  (50, ai_istore 2 51),
  (51, ai_iload 2 52),
  (52, ai_istore 3 53),
  (53, ai_aload 0 54),
  (54, ai_dup 55),
  (55, ai_getf 1 3 58),
  (58, ai_const 1 59),
  (59, ai_iadd 60),
  (60, ai_putf 1 3 63),
  (63, ai_const 0 64),
  (64, ai_istore 4 66),
  (66, ai_iload 4 68),
  (68, ai_const 200 71),
  (71, ai_cmpge 213 74),
  (74, ai_iload 3 75),
  (75, ai_const (-1) 76),
  (76, ai_cmpeq 213 79),
  (79, ai_aload 0 80),
  (80, ai_iload 1 81),
  (81, ai_const 1 82),
  (82, ai_iadd 83),
  (83, ai_callv2 1 s_Reader_readDatum 86),
  (86, ai_istore 5 88),
  (88, ai_iload 5 90),
  (90, ai_const (-1) 91),
  (91, ai_cmpne 96 94),
  (94, ai_const (-1) 95),
  (95, ai_iret),
  (96, ai_aload 0 97),
  (97, ai_getf 1 1 100),
  (100, ai_iload 3 101),
  (101, ai_iload 5 103),
  (103, ai_callv3 0 s_Nodes_setHead 106),
  (106, ai_aload 0 107),
  (107, ai_dup 108),
  (108, ai_getf 1 3 111),
  (111, ai_const 1 112),
  (112, ai_iadd 113),
  (113, ai_putf 1 3 116),
  (116, ai_aload 0 117),
  (117, ai_getf 1 2 120),
  (120, ai_aload 0 121),
  (121, ai_getf 1 3 124),
  (124, ai_callv2 3 s_Tokens_sortOf 127),
  (127, ai_istore 6 129),
  (129, ai_iload 6 131),
  (131, ai_const 7 133),
  (133, ai_cmpeq 143 136),
  (136, ai_iload 6 138),
  (138, ai_const 9 140),
  (140, ai_cmpne 187 143),
  (143, ai_iload 6 145),
  (145, ai_const 7 147),
  (147, ai_cmpne 158 150),
  (150, ai_aload 0 151),
  (151, ai_const 5 152),
  (152, ai_callv2 1 s_Reader_add 155),
  (155, ai_goto 163),
  (158, ai_aload 0 159),
  (159, ai_iload 1 160),
  (160, ai_callv2 1 s_Reader_readDotted 163),
  (163, ai_istore 7 165),
  (165, ai_aload 0 166),
  (166, ai_getf 1 1 169),
  (169, ai_iload 3 170),
  (170, ai_iload 7 172),
  (172, ai_callv3 0 s_Nodes_setTail 175),
  (175, ai_iload 7 177),
  (177, ai_const (-1) 178),
  (178, ai_cmpne 185 181),
  (181, ai_const (-1) 182),
  (182, ai_goto 186),
  (185, ai_iload 2 186),
  (186, ai_iret),
  (187, ai_aload 0 188),
  (188, ai_const 4 189),
  (189, ai_callv2 1 s_Reader_add 192),
  (192, ai_istore 7 194),
  (194, ai_aload 0 195),
  (195, ai_getf 1 1 198),
  (198, ai_iload 3 199),
  (199, ai_iload 7 201),
  (201, ai_callv3 0 s_Nodes_setTail 204),
  (204, ai_iload 7 206),
  (206, ai_istore 3 207),
  (207, ai_iinc 4 1 210),
  (210, ai_goto 66),
  (213, ai_const (-1) 214),
  (214, ai_iret)]
set_option maxRecDepth 100000 in
set_option maxHeartbeats 4000000 in
theorem tb_Reader_readList {G : aG} {d : Nat} {s_Reader_fault : aS} {d_Reader_fault : Nat} (h_Reader_fault : am_Sp G Y_Reader_fault d_Reader_fault s_Reader_fault) (l_Reader_fault : d_Reader_fault < d) {s_Tokens_sortOf : aS} {d_Tokens_sortOf : Nat} (h_Tokens_sortOf : am_Sp G Y_Tokens_sortOf d_Tokens_sortOf s_Tokens_sortOf) (l_Tokens_sortOf : d_Tokens_sortOf < d) {s_Reader_add : aS} {d_Reader_add : Nat} (h_Reader_add : am_Sp G Y_Reader_add d_Reader_add s_Reader_add) (l_Reader_add : d_Reader_add < d) {s_Reader_readDatum : aS} {d_Reader_readDatum : Nat} (h_Reader_readDatum : am_Sp G Y_Reader_readDatum d_Reader_readDatum s_Reader_readDatum) (l_Reader_readDatum : d_Reader_readDatum < d) {s_Nodes_setHead : aS} {d_Nodes_setHead : Nat} (h_Nodes_setHead : am_Sp G Y_Nodes_setHead d_Nodes_setHead s_Nodes_setHead) (l_Nodes_setHead : d_Nodes_setHead < d) {s_Reader_readDotted : aS} {d_Reader_readDotted : Nat} (h_Reader_readDotted : am_Sp G Y_Reader_readDotted d_Reader_readDotted s_Reader_readDotted) (l_Reader_readDotted : d_Reader_readDotted < d) {s_Nodes_setTail : aS} {d_Nodes_setTail : Nat} (h_Nodes_setTail : am_Sp G Y_Nodes_setTail d_Nodes_setTail s_Nodes_setTail) (l_Nodes_setTail : d_Nodes_setTail < d) : am_tab G Y_Reader_readList d (c_Reader_readList s_Reader_fault s_Tokens_sortOf s_Reader_add s_Reader_readDatum s_Nodes_setHead s_Reader_readDotted s_Nodes_setTail) := by
  intro K p e s m args below meth c C
  exact ⟨as_iload_n C (pc := 0) (q := 1) (by decide +kernel) rfl rfl,
    as_bipush C (pc := 1) (n := 15) (by decide +kernel) (by decide +kernel) rfl,
    as_cmplt C (pc := 3) (off := 8) (by decide +kernel) (by decide) rfl,
    as_aload_n C (pc := 6) (q := 0) (by decide +kernel) rfl rfl,
    as_callv1 C (pc := 7) h_Reader_fault (T := T_Reader) (N := 5) rfl w_333 w_74 w_332 w_19 w_330 hy_Reader_fault (am_rm_of l_Reader_fault (by decide)) (by decide +kernel) rfl,
    as_iret C (pc := 10) rfl (by decide +kernel),
    as_aload_n C (pc := 11) (q := 0) (by decide +kernel) rfl rfl,
    as_getf C (pc := 12) (T := T_Reader) (N := 5) rfl in_Reader (by decide) rfl w_178 (by decide +kernel) rfl,
    as_aload_n C (pc := 15) (q := 0) (by decide +kernel) rfl rfl,
    as_getf C (pc := 16) (T := T_Reader) (N := 5) rfl in_Reader (by decide) rfl w_179 (by decide +kernel) rfl,
    as_iconst C (pc := 19) (n := 1) (by decide +kernel) (by decide +kernel) rfl,
    as_iadd C (pc := 20) (by decide +kernel) rfl,
    as_callv2N C (pc := 21) h_Tokens_sortOf (T := T_Tokens) (N := 4) rfl w_304 w_75 w_303 w_12 w_301 hy_Tokens_sortOf (am_rm_of l_Tokens_sortOf (by decide)) (by decide +kernel) rfl,
    as_bipush C (pc := 24) (n := 7) (by decide +kernel) (by decide +kernel) rfl,
    as_cmpne C (pc := 26) (off := 19) (by decide +kernel) (by decide) rfl,
    as_aload_n C (pc := 29) (q := 0) (by decide +kernel) rfl rfl,
    as_dup C (pc := 30) (by decide +kernel) rfl,
    as_getf C (pc := 31) (T := T_Reader) (N := 5) rfl in_Reader (by decide) rfl w_179 (by decide +kernel) rfl,
    as_iconst C (pc := 34) (n := 1) (by decide +kernel) (by decide +kernel) rfl,
    as_iadd C (pc := 35) (by decide +kernel) rfl,
    as_putf C (pc := 36) t_Reader (T := T_Reader) (N := 5) rfl in_Reader tok_Reader nm_Reader (by decide) rfl rfl (by decide +kernel) w_179 (by decide +kernel) rfl,
    as_aload_n C (pc := 39) (q := 0) (by decide +kernel) rfl rfl,
    as_iconst C (pc := 40) (n := 5) (by decide +kernel) (by decide +kernel) rfl,
    as_callv2 C (pc := 41) h_Reader_add (T := T_Reader) (N := 5) rfl w_325 w_74 w_324 w_17 w_322 hy_Reader_add (am_rm_of l_Reader_add (by decide)) (by decide +kernel) rfl,
    as_iret C (pc := 44) rfl (by decide +kernel),
    as_aload_n C (pc := 45) (q := 0) (by decide +kernel) rfl rfl,
    as_iconst C (pc := 46) (n := 4) (by decide +kernel) (by decide +kernel) rfl,
    as_callv2 C (pc := 47) h_Reader_add (T := T_Reader) (N := 5) rfl w_325 w_74 w_324 w_17 w_322 hy_Reader_add (am_rm_of l_Reader_add (by decide)) (by decide +kernel) rfl,
    as_istore_n C (pc := 50) (q := 2) (by decide +kernel) rfl (by decide) rfl,
    as_iload_n C (pc := 51) (q := 2) (by decide +kernel) rfl rfl,
    as_istore_n C (pc := 52) (q := 3) (by decide +kernel) rfl (by decide) rfl,
    as_aload_n C (pc := 53) (q := 0) (by decide +kernel) rfl rfl,
    as_dup C (pc := 54) (by decide +kernel) rfl,
    as_getf C (pc := 55) (T := T_Reader) (N := 5) rfl in_Reader (by decide) rfl w_179 (by decide +kernel) rfl,
    as_iconst C (pc := 58) (n := 1) (by decide +kernel) (by decide +kernel) rfl,
    as_iadd C (pc := 59) (by decide +kernel) rfl,
    as_putf C (pc := 60) t_Reader (T := T_Reader) (N := 5) rfl in_Reader tok_Reader nm_Reader (by decide) rfl rfl (by decide +kernel) w_179 (by decide +kernel) rfl,
    as_iconst C (pc := 63) (n := 0) (by decide +kernel) (by decide +kernel) rfl,
    as_istore C (pc := 64) (k := 4) (by decide +kernel) (by decide) rfl,
    as_iload C (pc := 66) (k := 4) (by decide +kernel) rfl,
    as_sipush C (pc := 68) (n := 200) (by decide +kernel) (by decide +kernel) rfl,
    as_cmpge C (pc := 71) (off := 142) (by decide +kernel) (by decide) rfl,
    as_iload_n C (pc := 74) (q := 3) (by decide +kernel) rfl rfl,
    as_iconst C (pc := 75) (n := (-1)) (by decide +kernel) (by decide +kernel) rfl,
    as_cmpeq C (pc := 76) (off := 137) (by decide +kernel) (by decide) rfl,
    as_aload_n C (pc := 79) (q := 0) (by decide +kernel) rfl rfl,
    as_iload_n C (pc := 80) (q := 1) (by decide +kernel) rfl rfl,
    as_iconst C (pc := 81) (n := 1) (by decide +kernel) (by decide +kernel) rfl,
    as_iadd C (pc := 82) (by decide +kernel) rfl,
    as_callv2 C (pc := 83) h_Reader_readDatum (T := T_Reader) (N := 5) rfl w_308 w_74 w_307 w_13 w_305 hy_Reader_readDatum (am_rm_of l_Reader_readDatum (by decide)) (by decide +kernel) rfl,
    as_istore C (pc := 86) (k := 5) (by decide +kernel) (by decide) rfl,
    as_iload C (pc := 88) (k := 5) (by decide +kernel) rfl,
    as_iconst C (pc := 90) (n := (-1)) (by decide +kernel) (by decide +kernel) rfl,
    as_cmpne C (pc := 91) (off := 5) (by decide +kernel) (by decide) rfl,
    as_iconst C (pc := 94) (n := (-1)) (by decide +kernel) (by decide +kernel) rfl,
    as_iret C (pc := 95) rfl (by decide +kernel),
    as_aload_n C (pc := 96) (q := 0) (by decide +kernel) rfl rfl,
    as_getf C (pc := 97) (T := T_Reader) (N := 5) rfl in_Reader (by decide) rfl w_177 (by decide +kernel) rfl,
    as_iload_n C (pc := 100) (q := 3) (by decide +kernel) rfl rfl,
    as_iload C (pc := 101) (k := 5) (by decide +kernel) rfl,
    as_callv3N C (pc := 103) h_Nodes_setHead (T := T_Nodes) (N := 10) rfl w_365 w_72 w_364 w_27 w_362 hy_Nodes_setHead (am_rm_of l_Nodes_setHead (by decide)) (by decide +kernel) rfl,
    as_aload_n C (pc := 106) (q := 0) (by decide +kernel) rfl rfl,
    as_dup C (pc := 107) (by decide +kernel) rfl,
    as_getf C (pc := 108) (T := T_Reader) (N := 5) rfl in_Reader (by decide) rfl w_179 (by decide +kernel) rfl,
    as_iconst C (pc := 111) (n := 1) (by decide +kernel) (by decide +kernel) rfl,
    as_iadd C (pc := 112) (by decide +kernel) rfl,
    as_putf C (pc := 113) t_Reader (T := T_Reader) (N := 5) rfl in_Reader tok_Reader nm_Reader (by decide) rfl rfl (by decide +kernel) w_179 (by decide +kernel) rfl,
    as_aload_n C (pc := 116) (q := 0) (by decide +kernel) rfl rfl,
    as_getf C (pc := 117) (T := T_Reader) (N := 5) rfl in_Reader (by decide) rfl w_178 (by decide +kernel) rfl,
    as_aload_n C (pc := 120) (q := 0) (by decide +kernel) rfl rfl,
    as_getf C (pc := 121) (T := T_Reader) (N := 5) rfl in_Reader (by decide) rfl w_179 (by decide +kernel) rfl,
    as_callv2N C (pc := 124) h_Tokens_sortOf (T := T_Tokens) (N := 4) rfl w_304 w_75 w_303 w_12 w_301 hy_Tokens_sortOf (am_rm_of l_Tokens_sortOf (by decide)) (by decide +kernel) rfl,
    as_istore C (pc := 127) (k := 6) (by decide +kernel) (by decide) rfl,
    as_iload C (pc := 129) (k := 6) (by decide +kernel) rfl,
    as_bipush C (pc := 131) (n := 7) (by decide +kernel) (by decide +kernel) rfl,
    as_cmpeq C (pc := 133) (off := 10) (by decide +kernel) (by decide) rfl,
    as_iload C (pc := 136) (k := 6) (by decide +kernel) rfl,
    as_bipush C (pc := 138) (n := 9) (by decide +kernel) (by decide +kernel) rfl,
    as_cmpne C (pc := 140) (off := 47) (by decide +kernel) (by decide) rfl,
    as_iload C (pc := 143) (k := 6) (by decide +kernel) rfl,
    as_bipush C (pc := 145) (n := 7) (by decide +kernel) (by decide +kernel) rfl,
    as_cmpne C (pc := 147) (off := 11) (by decide +kernel) (by decide) rfl,
    as_aload_n C (pc := 150) (q := 0) (by decide +kernel) rfl rfl,
    as_iconst C (pc := 151) (n := 5) (by decide +kernel) (by decide +kernel) rfl,
    as_callv2 C (pc := 152) h_Reader_add (T := T_Reader) (N := 5) rfl w_325 w_74 w_324 w_17 w_322 hy_Reader_add (am_rm_of l_Reader_add (by decide)) (by decide +kernel) rfl,
    as_goto C (pc := 155) (off := 8) (by decide +kernel) (by decide),
    as_aload_n C (pc := 158) (q := 0) (by decide +kernel) rfl rfl,
    as_iload_n C (pc := 159) (q := 1) (by decide +kernel) rfl rfl,
    as_callv2 C (pc := 160) h_Reader_readDotted (T := T_Reader) (N := 5) rfl w_377 w_74 w_376 w_30 w_374 hy_Reader_readDotted (am_rm_of l_Reader_readDotted (by decide)) (by decide +kernel) rfl,
    as_istore C (pc := 163) (k := 7) (by decide +kernel) (by decide) rfl,
    as_aload_n C (pc := 165) (q := 0) (by decide +kernel) rfl rfl,
    as_getf C (pc := 166) (T := T_Reader) (N := 5) rfl in_Reader (by decide) rfl w_177 (by decide +kernel) rfl,
    as_iload_n C (pc := 169) (q := 3) (by decide +kernel) rfl rfl,
    as_iload C (pc := 170) (k := 7) (by decide +kernel) rfl,
    as_callv3N C (pc := 172) h_Nodes_setTail (T := T_Nodes) (N := 10) rfl w_369 w_72 w_368 w_28 w_366 hy_Nodes_setTail (am_rm_of l_Nodes_setTail (by decide)) (by decide +kernel) rfl,
    as_iload C (pc := 175) (k := 7) (by decide +kernel) rfl,
    as_iconst C (pc := 177) (n := (-1)) (by decide +kernel) (by decide +kernel) rfl,
    as_cmpne C (pc := 178) (off := 7) (by decide +kernel) (by decide) rfl,
    as_iconst C (pc := 181) (n := (-1)) (by decide +kernel) (by decide +kernel) rfl,
    as_goto C (pc := 182) (off := 4) (by decide +kernel) (by decide),
    as_iload_n C (pc := 185) (q := 2) (by decide +kernel) rfl rfl,
    as_iret C (pc := 186) rfl (by decide +kernel),
    as_aload_n C (pc := 187) (q := 0) (by decide +kernel) rfl rfl,
    as_iconst C (pc := 188) (n := 4) (by decide +kernel) (by decide +kernel) rfl,
    as_callv2 C (pc := 189) h_Reader_add (T := T_Reader) (N := 5) rfl w_325 w_74 w_324 w_17 w_322 hy_Reader_add (am_rm_of l_Reader_add (by decide)) (by decide +kernel) rfl,
    as_istore C (pc := 192) (k := 7) (by decide +kernel) (by decide) rfl,
    as_aload_n C (pc := 194) (q := 0) (by decide +kernel) rfl rfl,
    as_getf C (pc := 195) (T := T_Reader) (N := 5) rfl in_Reader (by decide) rfl w_177 (by decide +kernel) rfl,
    as_iload_n C (pc := 198) (q := 3) (by decide +kernel) rfl rfl,
    as_iload C (pc := 199) (k := 7) (by decide +kernel) rfl,
    as_callv3N C (pc := 201) h_Nodes_setTail (T := T_Nodes) (N := 10) rfl w_369 w_72 w_368 w_28 w_366 hy_Nodes_setTail (am_rm_of l_Nodes_setTail (by decide)) (by decide +kernel) rfl,
    as_iload C (pc := 204) (k := 7) (by decide +kernel) rfl,
    as_istore_n C (pc := 206) (q := 3) (by decide +kernel) rfl (by decide) rfl,
    as_iinc C (pc := 207) (k := 4) (n := 1) (by decide +kernel) (by decide +kernel) (by decide) rfl,
    as_goto C (pc := 210) (off := (-144)) (by decide +kernel) (by decide),
    as_iconst C (pc := 213) (n := (-1)) (by decide +kernel) (by decide +kernel) rfl,
    as_iret C (pc := 214) rfl (by decide +kernel), trivial⟩
abbrev k_Reader_readList : List Nat := [66]
set_option maxRecDepth 20000 in
theorem q_Reader_readList_66 {s_Reader_fault : aS} {s_Tokens_sortOf : aS} {s_Reader_add : aS} {s_Reader_readDatum : aS} {s_Nodes_setHead : aS} {s_Reader_readDotted : aS} {s_Nodes_setTail : aS} : am_at (c_Reader_readList s_Reader_fault s_Tokens_sortOf s_Reader_add s_Reader_readDatum s_Nodes_setHead s_Reader_readDotted s_Nodes_setTail) 66 = ai_iload 4 68 := by rfl
set_option maxRecDepth 20000 in
theorem r_Reader_readList_0 {s_Reader_fault : aS} {s_Tokens_sortOf : aS} {s_Reader_add : aS} {s_Reader_readDatum : aS} {s_Nodes_setHead : aS} {s_Reader_readDotted : aS} {s_Nodes_setTail : aS} {J : aJ} {K : aR} {n : Nat} {L : aL} {S : List Value} {M : aM} : am_run (c_Reader_readList s_Reader_fault s_Tokens_sortOf s_Reader_add s_Reader_readDatum s_Nodes_setHead s_Reader_readDotted s_Nodes_setTail) k_Reader_readList J K (n + 1) 0 L S M = ai_iload 1 1 (am_run (c_Reader_readList s_Reader_fault s_Tokens_sortOf s_Reader_add s_Reader_readDatum s_Nodes_setHead s_Reader_readDotted s_Nodes_setTail) k_Reader_readList J K n) K 0 L S M := by rfl
set_option maxRecDepth 20000 in
theorem r_Reader_readList_1 {s_Reader_fault : aS} {s_Tokens_sortOf : aS} {s_Reader_add : aS} {s_Reader_readDatum : aS} {s_Nodes_setHead : aS} {s_Reader_readDotted : aS} {s_Nodes_setTail : aS} {J : aJ} {K : aR} {n : Nat} {L : aL} {S : List Value} {M : aM} : am_run (c_Reader_readList s_Reader_fault s_Tokens_sortOf s_Reader_add s_Reader_readDatum s_Nodes_setHead s_Reader_readDotted s_Nodes_setTail) k_Reader_readList J K (n + 1) 1 L S M = ai_const 15 3 (am_run (c_Reader_readList s_Reader_fault s_Tokens_sortOf s_Reader_add s_Reader_readDatum s_Nodes_setHead s_Reader_readDotted s_Nodes_setTail) k_Reader_readList J K n) K 1 L S M := by rfl
set_option maxRecDepth 20000 in
theorem r_Reader_readList_3 {s_Reader_fault : aS} {s_Tokens_sortOf : aS} {s_Reader_add : aS} {s_Reader_readDatum : aS} {s_Nodes_setHead : aS} {s_Reader_readDotted : aS} {s_Nodes_setTail : aS} {J : aJ} {K : aR} {n : Nat} {L : aL} {S : List Value} {M : aM} : am_run (c_Reader_readList s_Reader_fault s_Tokens_sortOf s_Reader_add s_Reader_readDatum s_Nodes_setHead s_Reader_readDotted s_Nodes_setTail) k_Reader_readList J K (n + 1) 3 L S M = ai_cmplt 11 6 (am_run (c_Reader_readList s_Reader_fault s_Tokens_sortOf s_Reader_add s_Reader_readDatum s_Nodes_setHead s_Reader_readDotted s_Nodes_setTail) k_Reader_readList J K n) K 3 L S M := by rfl
set_option maxRecDepth 20000 in
theorem r_Reader_readList_6 {s_Reader_fault : aS} {s_Tokens_sortOf : aS} {s_Reader_add : aS} {s_Reader_readDatum : aS} {s_Nodes_setHead : aS} {s_Reader_readDotted : aS} {s_Nodes_setTail : aS} {J : aJ} {K : aR} {n : Nat} {L : aL} {S : List Value} {M : aM} : am_run (c_Reader_readList s_Reader_fault s_Tokens_sortOf s_Reader_add s_Reader_readDatum s_Nodes_setHead s_Reader_readDotted s_Nodes_setTail) k_Reader_readList J K (n + 1) 6 L S M = ai_aload 0 7 (am_run (c_Reader_readList s_Reader_fault s_Tokens_sortOf s_Reader_add s_Reader_readDatum s_Nodes_setHead s_Reader_readDotted s_Nodes_setTail) k_Reader_readList J K n) K 6 L S M := by rfl
set_option maxRecDepth 20000 in
theorem r_Reader_readList_7 {s_Reader_fault : aS} {s_Tokens_sortOf : aS} {s_Reader_add : aS} {s_Reader_readDatum : aS} {s_Nodes_setHead : aS} {s_Reader_readDotted : aS} {s_Nodes_setTail : aS} {J : aJ} {K : aR} {n : Nat} {L : aL} {S : List Value} {M : aM} : am_run (c_Reader_readList s_Reader_fault s_Tokens_sortOf s_Reader_add s_Reader_readDatum s_Nodes_setHead s_Reader_readDotted s_Nodes_setTail) k_Reader_readList J K (n + 1) 7 L S M = ai_callv1 1 s_Reader_fault 10 (am_run (c_Reader_readList s_Reader_fault s_Tokens_sortOf s_Reader_add s_Reader_readDatum s_Nodes_setHead s_Reader_readDotted s_Nodes_setTail) k_Reader_readList J K n) K 7 L S M := by rfl
set_option maxRecDepth 20000 in
theorem r_Reader_readList_10 {s_Reader_fault : aS} {s_Tokens_sortOf : aS} {s_Reader_add : aS} {s_Reader_readDatum : aS} {s_Nodes_setHead : aS} {s_Reader_readDotted : aS} {s_Nodes_setTail : aS} {J : aJ} {K : aR} {n : Nat} {L : aL} {S : List Value} {M : aM} : am_run (c_Reader_readList s_Reader_fault s_Tokens_sortOf s_Reader_add s_Reader_readDatum s_Nodes_setHead s_Reader_readDotted s_Nodes_setTail) k_Reader_readList J K (n + 1) 10 L S M = ai_iret (am_run (c_Reader_readList s_Reader_fault s_Tokens_sortOf s_Reader_add s_Reader_readDatum s_Nodes_setHead s_Reader_readDotted s_Nodes_setTail) k_Reader_readList J K n) K 10 L S M := by rfl
set_option maxRecDepth 20000 in
theorem r_Reader_readList_11 {s_Reader_fault : aS} {s_Tokens_sortOf : aS} {s_Reader_add : aS} {s_Reader_readDatum : aS} {s_Nodes_setHead : aS} {s_Reader_readDotted : aS} {s_Nodes_setTail : aS} {J : aJ} {K : aR} {n : Nat} {L : aL} {S : List Value} {M : aM} : am_run (c_Reader_readList s_Reader_fault s_Tokens_sortOf s_Reader_add s_Reader_readDatum s_Nodes_setHead s_Reader_readDotted s_Nodes_setTail) k_Reader_readList J K (n + 1) 11 L S M = ai_aload 0 12 (am_run (c_Reader_readList s_Reader_fault s_Tokens_sortOf s_Reader_add s_Reader_readDatum s_Nodes_setHead s_Reader_readDotted s_Nodes_setTail) k_Reader_readList J K n) K 11 L S M := by rfl
set_option maxRecDepth 20000 in
theorem r_Reader_readList_12 {s_Reader_fault : aS} {s_Tokens_sortOf : aS} {s_Reader_add : aS} {s_Reader_readDatum : aS} {s_Nodes_setHead : aS} {s_Reader_readDotted : aS} {s_Nodes_setTail : aS} {J : aJ} {K : aR} {n : Nat} {L : aL} {S : List Value} {M : aM} : am_run (c_Reader_readList s_Reader_fault s_Tokens_sortOf s_Reader_add s_Reader_readDatum s_Nodes_setHead s_Reader_readDotted s_Nodes_setTail) k_Reader_readList J K (n + 1) 12 L S M = ai_getf 1 2 15 (am_run (c_Reader_readList s_Reader_fault s_Tokens_sortOf s_Reader_add s_Reader_readDatum s_Nodes_setHead s_Reader_readDotted s_Nodes_setTail) k_Reader_readList J K n) K 12 L S M := by rfl
set_option maxRecDepth 20000 in
theorem r_Reader_readList_15 {s_Reader_fault : aS} {s_Tokens_sortOf : aS} {s_Reader_add : aS} {s_Reader_readDatum : aS} {s_Nodes_setHead : aS} {s_Reader_readDotted : aS} {s_Nodes_setTail : aS} {J : aJ} {K : aR} {n : Nat} {L : aL} {S : List Value} {M : aM} : am_run (c_Reader_readList s_Reader_fault s_Tokens_sortOf s_Reader_add s_Reader_readDatum s_Nodes_setHead s_Reader_readDotted s_Nodes_setTail) k_Reader_readList J K (n + 1) 15 L S M = ai_aload 0 16 (am_run (c_Reader_readList s_Reader_fault s_Tokens_sortOf s_Reader_add s_Reader_readDatum s_Nodes_setHead s_Reader_readDotted s_Nodes_setTail) k_Reader_readList J K n) K 15 L S M := by rfl
set_option maxRecDepth 20000 in
theorem r_Reader_readList_16 {s_Reader_fault : aS} {s_Tokens_sortOf : aS} {s_Reader_add : aS} {s_Reader_readDatum : aS} {s_Nodes_setHead : aS} {s_Reader_readDotted : aS} {s_Nodes_setTail : aS} {J : aJ} {K : aR} {n : Nat} {L : aL} {S : List Value} {M : aM} : am_run (c_Reader_readList s_Reader_fault s_Tokens_sortOf s_Reader_add s_Reader_readDatum s_Nodes_setHead s_Reader_readDotted s_Nodes_setTail) k_Reader_readList J K (n + 1) 16 L S M = ai_getf 1 3 19 (am_run (c_Reader_readList s_Reader_fault s_Tokens_sortOf s_Reader_add s_Reader_readDatum s_Nodes_setHead s_Reader_readDotted s_Nodes_setTail) k_Reader_readList J K n) K 16 L S M := by rfl
set_option maxRecDepth 20000 in
theorem r_Reader_readList_19 {s_Reader_fault : aS} {s_Tokens_sortOf : aS} {s_Reader_add : aS} {s_Reader_readDatum : aS} {s_Nodes_setHead : aS} {s_Reader_readDotted : aS} {s_Nodes_setTail : aS} {J : aJ} {K : aR} {n : Nat} {L : aL} {S : List Value} {M : aM} : am_run (c_Reader_readList s_Reader_fault s_Tokens_sortOf s_Reader_add s_Reader_readDatum s_Nodes_setHead s_Reader_readDotted s_Nodes_setTail) k_Reader_readList J K (n + 1) 19 L S M = ai_const 1 20 (am_run (c_Reader_readList s_Reader_fault s_Tokens_sortOf s_Reader_add s_Reader_readDatum s_Nodes_setHead s_Reader_readDotted s_Nodes_setTail) k_Reader_readList J K n) K 19 L S M := by rfl
set_option maxRecDepth 20000 in
theorem r_Reader_readList_20 {s_Reader_fault : aS} {s_Tokens_sortOf : aS} {s_Reader_add : aS} {s_Reader_readDatum : aS} {s_Nodes_setHead : aS} {s_Reader_readDotted : aS} {s_Nodes_setTail : aS} {J : aJ} {K : aR} {n : Nat} {L : aL} {S : List Value} {M : aM} : am_run (c_Reader_readList s_Reader_fault s_Tokens_sortOf s_Reader_add s_Reader_readDatum s_Nodes_setHead s_Reader_readDotted s_Nodes_setTail) k_Reader_readList J K (n + 1) 20 L S M = ai_iadd 21 (am_run (c_Reader_readList s_Reader_fault s_Tokens_sortOf s_Reader_add s_Reader_readDatum s_Nodes_setHead s_Reader_readDotted s_Nodes_setTail) k_Reader_readList J K n) K 20 L S M := by rfl
set_option maxRecDepth 20000 in
theorem r_Reader_readList_21 {s_Reader_fault : aS} {s_Tokens_sortOf : aS} {s_Reader_add : aS} {s_Reader_readDatum : aS} {s_Nodes_setHead : aS} {s_Reader_readDotted : aS} {s_Nodes_setTail : aS} {J : aJ} {K : aR} {n : Nat} {L : aL} {S : List Value} {M : aM} : am_run (c_Reader_readList s_Reader_fault s_Tokens_sortOf s_Reader_add s_Reader_readDatum s_Nodes_setHead s_Reader_readDotted s_Nodes_setTail) k_Reader_readList J K (n + 1) 21 L S M = ai_callv2 3 s_Tokens_sortOf 24 (am_run (c_Reader_readList s_Reader_fault s_Tokens_sortOf s_Reader_add s_Reader_readDatum s_Nodes_setHead s_Reader_readDotted s_Nodes_setTail) k_Reader_readList J K n) K 21 L S M := by rfl
set_option maxRecDepth 20000 in
theorem r_Reader_readList_24 {s_Reader_fault : aS} {s_Tokens_sortOf : aS} {s_Reader_add : aS} {s_Reader_readDatum : aS} {s_Nodes_setHead : aS} {s_Reader_readDotted : aS} {s_Nodes_setTail : aS} {J : aJ} {K : aR} {n : Nat} {L : aL} {S : List Value} {M : aM} : am_run (c_Reader_readList s_Reader_fault s_Tokens_sortOf s_Reader_add s_Reader_readDatum s_Nodes_setHead s_Reader_readDotted s_Nodes_setTail) k_Reader_readList J K (n + 1) 24 L S M = ai_const 7 26 (am_run (c_Reader_readList s_Reader_fault s_Tokens_sortOf s_Reader_add s_Reader_readDatum s_Nodes_setHead s_Reader_readDotted s_Nodes_setTail) k_Reader_readList J K n) K 24 L S M := by rfl
set_option maxRecDepth 20000 in
theorem r_Reader_readList_26 {s_Reader_fault : aS} {s_Tokens_sortOf : aS} {s_Reader_add : aS} {s_Reader_readDatum : aS} {s_Nodes_setHead : aS} {s_Reader_readDotted : aS} {s_Nodes_setTail : aS} {J : aJ} {K : aR} {n : Nat} {L : aL} {S : List Value} {M : aM} : am_run (c_Reader_readList s_Reader_fault s_Tokens_sortOf s_Reader_add s_Reader_readDatum s_Nodes_setHead s_Reader_readDotted s_Nodes_setTail) k_Reader_readList J K (n + 1) 26 L S M = ai_cmpne 45 29 (am_run (c_Reader_readList s_Reader_fault s_Tokens_sortOf s_Reader_add s_Reader_readDatum s_Nodes_setHead s_Reader_readDotted s_Nodes_setTail) k_Reader_readList J K n) K 26 L S M := by rfl
set_option maxRecDepth 20000 in
theorem r_Reader_readList_29 {s_Reader_fault : aS} {s_Tokens_sortOf : aS} {s_Reader_add : aS} {s_Reader_readDatum : aS} {s_Nodes_setHead : aS} {s_Reader_readDotted : aS} {s_Nodes_setTail : aS} {J : aJ} {K : aR} {n : Nat} {L : aL} {S : List Value} {M : aM} : am_run (c_Reader_readList s_Reader_fault s_Tokens_sortOf s_Reader_add s_Reader_readDatum s_Nodes_setHead s_Reader_readDotted s_Nodes_setTail) k_Reader_readList J K (n + 1) 29 L S M = ai_aload 0 30 (am_run (c_Reader_readList s_Reader_fault s_Tokens_sortOf s_Reader_add s_Reader_readDatum s_Nodes_setHead s_Reader_readDotted s_Nodes_setTail) k_Reader_readList J K n) K 29 L S M := by rfl
set_option maxRecDepth 20000 in
theorem r_Reader_readList_30 {s_Reader_fault : aS} {s_Tokens_sortOf : aS} {s_Reader_add : aS} {s_Reader_readDatum : aS} {s_Nodes_setHead : aS} {s_Reader_readDotted : aS} {s_Nodes_setTail : aS} {J : aJ} {K : aR} {n : Nat} {L : aL} {S : List Value} {M : aM} : am_run (c_Reader_readList s_Reader_fault s_Tokens_sortOf s_Reader_add s_Reader_readDatum s_Nodes_setHead s_Reader_readDotted s_Nodes_setTail) k_Reader_readList J K (n + 1) 30 L S M = ai_dup 31 (am_run (c_Reader_readList s_Reader_fault s_Tokens_sortOf s_Reader_add s_Reader_readDatum s_Nodes_setHead s_Reader_readDotted s_Nodes_setTail) k_Reader_readList J K n) K 30 L S M := by rfl
set_option maxRecDepth 20000 in
theorem r_Reader_readList_31 {s_Reader_fault : aS} {s_Tokens_sortOf : aS} {s_Reader_add : aS} {s_Reader_readDatum : aS} {s_Nodes_setHead : aS} {s_Reader_readDotted : aS} {s_Nodes_setTail : aS} {J : aJ} {K : aR} {n : Nat} {L : aL} {S : List Value} {M : aM} : am_run (c_Reader_readList s_Reader_fault s_Tokens_sortOf s_Reader_add s_Reader_readDatum s_Nodes_setHead s_Reader_readDotted s_Nodes_setTail) k_Reader_readList J K (n + 1) 31 L S M = ai_getf 1 3 34 (am_run (c_Reader_readList s_Reader_fault s_Tokens_sortOf s_Reader_add s_Reader_readDatum s_Nodes_setHead s_Reader_readDotted s_Nodes_setTail) k_Reader_readList J K n) K 31 L S M := by rfl
set_option maxRecDepth 20000 in
theorem r_Reader_readList_34 {s_Reader_fault : aS} {s_Tokens_sortOf : aS} {s_Reader_add : aS} {s_Reader_readDatum : aS} {s_Nodes_setHead : aS} {s_Reader_readDotted : aS} {s_Nodes_setTail : aS} {J : aJ} {K : aR} {n : Nat} {L : aL} {S : List Value} {M : aM} : am_run (c_Reader_readList s_Reader_fault s_Tokens_sortOf s_Reader_add s_Reader_readDatum s_Nodes_setHead s_Reader_readDotted s_Nodes_setTail) k_Reader_readList J K (n + 1) 34 L S M = ai_const 1 35 (am_run (c_Reader_readList s_Reader_fault s_Tokens_sortOf s_Reader_add s_Reader_readDatum s_Nodes_setHead s_Reader_readDotted s_Nodes_setTail) k_Reader_readList J K n) K 34 L S M := by rfl
set_option maxRecDepth 20000 in
theorem r_Reader_readList_35 {s_Reader_fault : aS} {s_Tokens_sortOf : aS} {s_Reader_add : aS} {s_Reader_readDatum : aS} {s_Nodes_setHead : aS} {s_Reader_readDotted : aS} {s_Nodes_setTail : aS} {J : aJ} {K : aR} {n : Nat} {L : aL} {S : List Value} {M : aM} : am_run (c_Reader_readList s_Reader_fault s_Tokens_sortOf s_Reader_add s_Reader_readDatum s_Nodes_setHead s_Reader_readDotted s_Nodes_setTail) k_Reader_readList J K (n + 1) 35 L S M = ai_iadd 36 (am_run (c_Reader_readList s_Reader_fault s_Tokens_sortOf s_Reader_add s_Reader_readDatum s_Nodes_setHead s_Reader_readDotted s_Nodes_setTail) k_Reader_readList J K n) K 35 L S M := by rfl
set_option maxRecDepth 20000 in
theorem r_Reader_readList_36 {s_Reader_fault : aS} {s_Tokens_sortOf : aS} {s_Reader_add : aS} {s_Reader_readDatum : aS} {s_Nodes_setHead : aS} {s_Reader_readDotted : aS} {s_Nodes_setTail : aS} {J : aJ} {K : aR} {n : Nat} {L : aL} {S : List Value} {M : aM} : am_run (c_Reader_readList s_Reader_fault s_Tokens_sortOf s_Reader_add s_Reader_readDatum s_Nodes_setHead s_Reader_readDotted s_Nodes_setTail) k_Reader_readList J K (n + 1) 36 L S M = ai_putf 1 3 39 (am_run (c_Reader_readList s_Reader_fault s_Tokens_sortOf s_Reader_add s_Reader_readDatum s_Nodes_setHead s_Reader_readDotted s_Nodes_setTail) k_Reader_readList J K n) K 36 L S M := by rfl
set_option maxRecDepth 20000 in
theorem r_Reader_readList_39 {s_Reader_fault : aS} {s_Tokens_sortOf : aS} {s_Reader_add : aS} {s_Reader_readDatum : aS} {s_Nodes_setHead : aS} {s_Reader_readDotted : aS} {s_Nodes_setTail : aS} {J : aJ} {K : aR} {n : Nat} {L : aL} {S : List Value} {M : aM} : am_run (c_Reader_readList s_Reader_fault s_Tokens_sortOf s_Reader_add s_Reader_readDatum s_Nodes_setHead s_Reader_readDotted s_Nodes_setTail) k_Reader_readList J K (n + 1) 39 L S M = ai_aload 0 40 (am_run (c_Reader_readList s_Reader_fault s_Tokens_sortOf s_Reader_add s_Reader_readDatum s_Nodes_setHead s_Reader_readDotted s_Nodes_setTail) k_Reader_readList J K n) K 39 L S M := by rfl
set_option maxRecDepth 20000 in
theorem r_Reader_readList_40 {s_Reader_fault : aS} {s_Tokens_sortOf : aS} {s_Reader_add : aS} {s_Reader_readDatum : aS} {s_Nodes_setHead : aS} {s_Reader_readDotted : aS} {s_Nodes_setTail : aS} {J : aJ} {K : aR} {n : Nat} {L : aL} {S : List Value} {M : aM} : am_run (c_Reader_readList s_Reader_fault s_Tokens_sortOf s_Reader_add s_Reader_readDatum s_Nodes_setHead s_Reader_readDotted s_Nodes_setTail) k_Reader_readList J K (n + 1) 40 L S M = ai_const 5 41 (am_run (c_Reader_readList s_Reader_fault s_Tokens_sortOf s_Reader_add s_Reader_readDatum s_Nodes_setHead s_Reader_readDotted s_Nodes_setTail) k_Reader_readList J K n) K 40 L S M := by rfl
set_option maxRecDepth 20000 in
theorem r_Reader_readList_41 {s_Reader_fault : aS} {s_Tokens_sortOf : aS} {s_Reader_add : aS} {s_Reader_readDatum : aS} {s_Nodes_setHead : aS} {s_Reader_readDotted : aS} {s_Nodes_setTail : aS} {J : aJ} {K : aR} {n : Nat} {L : aL} {S : List Value} {M : aM} : am_run (c_Reader_readList s_Reader_fault s_Tokens_sortOf s_Reader_add s_Reader_readDatum s_Nodes_setHead s_Reader_readDotted s_Nodes_setTail) k_Reader_readList J K (n + 1) 41 L S M = ai_callv2 1 s_Reader_add 44 (am_run (c_Reader_readList s_Reader_fault s_Tokens_sortOf s_Reader_add s_Reader_readDatum s_Nodes_setHead s_Reader_readDotted s_Nodes_setTail) k_Reader_readList J K n) K 41 L S M := by rfl
set_option maxRecDepth 20000 in
theorem r_Reader_readList_44 {s_Reader_fault : aS} {s_Tokens_sortOf : aS} {s_Reader_add : aS} {s_Reader_readDatum : aS} {s_Nodes_setHead : aS} {s_Reader_readDotted : aS} {s_Nodes_setTail : aS} {J : aJ} {K : aR} {n : Nat} {L : aL} {S : List Value} {M : aM} : am_run (c_Reader_readList s_Reader_fault s_Tokens_sortOf s_Reader_add s_Reader_readDatum s_Nodes_setHead s_Reader_readDotted s_Nodes_setTail) k_Reader_readList J K (n + 1) 44 L S M = ai_iret (am_run (c_Reader_readList s_Reader_fault s_Tokens_sortOf s_Reader_add s_Reader_readDatum s_Nodes_setHead s_Reader_readDotted s_Nodes_setTail) k_Reader_readList J K n) K 44 L S M := by rfl
set_option maxRecDepth 20000 in
theorem r_Reader_readList_45 {s_Reader_fault : aS} {s_Tokens_sortOf : aS} {s_Reader_add : aS} {s_Reader_readDatum : aS} {s_Nodes_setHead : aS} {s_Reader_readDotted : aS} {s_Nodes_setTail : aS} {J : aJ} {K : aR} {n : Nat} {L : aL} {S : List Value} {M : aM} : am_run (c_Reader_readList s_Reader_fault s_Tokens_sortOf s_Reader_add s_Reader_readDatum s_Nodes_setHead s_Reader_readDotted s_Nodes_setTail) k_Reader_readList J K (n + 1) 45 L S M = ai_aload 0 46 (am_run (c_Reader_readList s_Reader_fault s_Tokens_sortOf s_Reader_add s_Reader_readDatum s_Nodes_setHead s_Reader_readDotted s_Nodes_setTail) k_Reader_readList J K n) K 45 L S M := by rfl
set_option maxRecDepth 20000 in
theorem r_Reader_readList_46 {s_Reader_fault : aS} {s_Tokens_sortOf : aS} {s_Reader_add : aS} {s_Reader_readDatum : aS} {s_Nodes_setHead : aS} {s_Reader_readDotted : aS} {s_Nodes_setTail : aS} {J : aJ} {K : aR} {n : Nat} {L : aL} {S : List Value} {M : aM} : am_run (c_Reader_readList s_Reader_fault s_Tokens_sortOf s_Reader_add s_Reader_readDatum s_Nodes_setHead s_Reader_readDotted s_Nodes_setTail) k_Reader_readList J K (n + 1) 46 L S M = ai_const 4 47 (am_run (c_Reader_readList s_Reader_fault s_Tokens_sortOf s_Reader_add s_Reader_readDatum s_Nodes_setHead s_Reader_readDotted s_Nodes_setTail) k_Reader_readList J K n) K 46 L S M := by rfl
set_option maxRecDepth 20000 in
theorem r_Reader_readList_47 {s_Reader_fault : aS} {s_Tokens_sortOf : aS} {s_Reader_add : aS} {s_Reader_readDatum : aS} {s_Nodes_setHead : aS} {s_Reader_readDotted : aS} {s_Nodes_setTail : aS} {J : aJ} {K : aR} {n : Nat} {L : aL} {S : List Value} {M : aM} : am_run (c_Reader_readList s_Reader_fault s_Tokens_sortOf s_Reader_add s_Reader_readDatum s_Nodes_setHead s_Reader_readDotted s_Nodes_setTail) k_Reader_readList J K (n + 1) 47 L S M = ai_callv2 1 s_Reader_add 50 (am_run (c_Reader_readList s_Reader_fault s_Tokens_sortOf s_Reader_add s_Reader_readDatum s_Nodes_setHead s_Reader_readDotted s_Nodes_setTail) k_Reader_readList J K n) K 47 L S M := by rfl
set_option maxRecDepth 20000 in
theorem r_Reader_readList_50 {s_Reader_fault : aS} {s_Tokens_sortOf : aS} {s_Reader_add : aS} {s_Reader_readDatum : aS} {s_Nodes_setHead : aS} {s_Reader_readDotted : aS} {s_Nodes_setTail : aS} {J : aJ} {K : aR} {n : Nat} {L : aL} {S : List Value} {M : aM} : am_run (c_Reader_readList s_Reader_fault s_Tokens_sortOf s_Reader_add s_Reader_readDatum s_Nodes_setHead s_Reader_readDotted s_Nodes_setTail) k_Reader_readList J K (n + 1) 50 L S M = ai_istore 2 51 (am_run (c_Reader_readList s_Reader_fault s_Tokens_sortOf s_Reader_add s_Reader_readDatum s_Nodes_setHead s_Reader_readDotted s_Nodes_setTail) k_Reader_readList J K n) K 50 L S M := by rfl
set_option maxRecDepth 20000 in
theorem r_Reader_readList_51 {s_Reader_fault : aS} {s_Tokens_sortOf : aS} {s_Reader_add : aS} {s_Reader_readDatum : aS} {s_Nodes_setHead : aS} {s_Reader_readDotted : aS} {s_Nodes_setTail : aS} {J : aJ} {K : aR} {n : Nat} {L : aL} {S : List Value} {M : aM} : am_run (c_Reader_readList s_Reader_fault s_Tokens_sortOf s_Reader_add s_Reader_readDatum s_Nodes_setHead s_Reader_readDotted s_Nodes_setTail) k_Reader_readList J K (n + 1) 51 L S M = ai_iload 2 52 (am_run (c_Reader_readList s_Reader_fault s_Tokens_sortOf s_Reader_add s_Reader_readDatum s_Nodes_setHead s_Reader_readDotted s_Nodes_setTail) k_Reader_readList J K n) K 51 L S M := by rfl
set_option maxRecDepth 20000 in
theorem r_Reader_readList_52 {s_Reader_fault : aS} {s_Tokens_sortOf : aS} {s_Reader_add : aS} {s_Reader_readDatum : aS} {s_Nodes_setHead : aS} {s_Reader_readDotted : aS} {s_Nodes_setTail : aS} {J : aJ} {K : aR} {n : Nat} {L : aL} {S : List Value} {M : aM} : am_run (c_Reader_readList s_Reader_fault s_Tokens_sortOf s_Reader_add s_Reader_readDatum s_Nodes_setHead s_Reader_readDotted s_Nodes_setTail) k_Reader_readList J K (n + 1) 52 L S M = ai_istore 3 53 (am_run (c_Reader_readList s_Reader_fault s_Tokens_sortOf s_Reader_add s_Reader_readDatum s_Nodes_setHead s_Reader_readDotted s_Nodes_setTail) k_Reader_readList J K n) K 52 L S M := by rfl
set_option maxRecDepth 20000 in
theorem r_Reader_readList_53 {s_Reader_fault : aS} {s_Tokens_sortOf : aS} {s_Reader_add : aS} {s_Reader_readDatum : aS} {s_Nodes_setHead : aS} {s_Reader_readDotted : aS} {s_Nodes_setTail : aS} {J : aJ} {K : aR} {n : Nat} {L : aL} {S : List Value} {M : aM} : am_run (c_Reader_readList s_Reader_fault s_Tokens_sortOf s_Reader_add s_Reader_readDatum s_Nodes_setHead s_Reader_readDotted s_Nodes_setTail) k_Reader_readList J K (n + 1) 53 L S M = ai_aload 0 54 (am_run (c_Reader_readList s_Reader_fault s_Tokens_sortOf s_Reader_add s_Reader_readDatum s_Nodes_setHead s_Reader_readDotted s_Nodes_setTail) k_Reader_readList J K n) K 53 L S M := by rfl
set_option maxRecDepth 20000 in
theorem r_Reader_readList_54 {s_Reader_fault : aS} {s_Tokens_sortOf : aS} {s_Reader_add : aS} {s_Reader_readDatum : aS} {s_Nodes_setHead : aS} {s_Reader_readDotted : aS} {s_Nodes_setTail : aS} {J : aJ} {K : aR} {n : Nat} {L : aL} {S : List Value} {M : aM} : am_run (c_Reader_readList s_Reader_fault s_Tokens_sortOf s_Reader_add s_Reader_readDatum s_Nodes_setHead s_Reader_readDotted s_Nodes_setTail) k_Reader_readList J K (n + 1) 54 L S M = ai_dup 55 (am_run (c_Reader_readList s_Reader_fault s_Tokens_sortOf s_Reader_add s_Reader_readDatum s_Nodes_setHead s_Reader_readDotted s_Nodes_setTail) k_Reader_readList J K n) K 54 L S M := by rfl
set_option maxRecDepth 20000 in
theorem r_Reader_readList_55 {s_Reader_fault : aS} {s_Tokens_sortOf : aS} {s_Reader_add : aS} {s_Reader_readDatum : aS} {s_Nodes_setHead : aS} {s_Reader_readDotted : aS} {s_Nodes_setTail : aS} {J : aJ} {K : aR} {n : Nat} {L : aL} {S : List Value} {M : aM} : am_run (c_Reader_readList s_Reader_fault s_Tokens_sortOf s_Reader_add s_Reader_readDatum s_Nodes_setHead s_Reader_readDotted s_Nodes_setTail) k_Reader_readList J K (n + 1) 55 L S M = ai_getf 1 3 58 (am_run (c_Reader_readList s_Reader_fault s_Tokens_sortOf s_Reader_add s_Reader_readDatum s_Nodes_setHead s_Reader_readDotted s_Nodes_setTail) k_Reader_readList J K n) K 55 L S M := by rfl
set_option maxRecDepth 20000 in
theorem r_Reader_readList_58 {s_Reader_fault : aS} {s_Tokens_sortOf : aS} {s_Reader_add : aS} {s_Reader_readDatum : aS} {s_Nodes_setHead : aS} {s_Reader_readDotted : aS} {s_Nodes_setTail : aS} {J : aJ} {K : aR} {n : Nat} {L : aL} {S : List Value} {M : aM} : am_run (c_Reader_readList s_Reader_fault s_Tokens_sortOf s_Reader_add s_Reader_readDatum s_Nodes_setHead s_Reader_readDotted s_Nodes_setTail) k_Reader_readList J K (n + 1) 58 L S M = ai_const 1 59 (am_run (c_Reader_readList s_Reader_fault s_Tokens_sortOf s_Reader_add s_Reader_readDatum s_Nodes_setHead s_Reader_readDotted s_Nodes_setTail) k_Reader_readList J K n) K 58 L S M := by rfl
set_option maxRecDepth 20000 in
theorem r_Reader_readList_59 {s_Reader_fault : aS} {s_Tokens_sortOf : aS} {s_Reader_add : aS} {s_Reader_readDatum : aS} {s_Nodes_setHead : aS} {s_Reader_readDotted : aS} {s_Nodes_setTail : aS} {J : aJ} {K : aR} {n : Nat} {L : aL} {S : List Value} {M : aM} : am_run (c_Reader_readList s_Reader_fault s_Tokens_sortOf s_Reader_add s_Reader_readDatum s_Nodes_setHead s_Reader_readDotted s_Nodes_setTail) k_Reader_readList J K (n + 1) 59 L S M = ai_iadd 60 (am_run (c_Reader_readList s_Reader_fault s_Tokens_sortOf s_Reader_add s_Reader_readDatum s_Nodes_setHead s_Reader_readDotted s_Nodes_setTail) k_Reader_readList J K n) K 59 L S M := by rfl
set_option maxRecDepth 20000 in
theorem r_Reader_readList_60 {s_Reader_fault : aS} {s_Tokens_sortOf : aS} {s_Reader_add : aS} {s_Reader_readDatum : aS} {s_Nodes_setHead : aS} {s_Reader_readDotted : aS} {s_Nodes_setTail : aS} {J : aJ} {K : aR} {n : Nat} {L : aL} {S : List Value} {M : aM} : am_run (c_Reader_readList s_Reader_fault s_Tokens_sortOf s_Reader_add s_Reader_readDatum s_Nodes_setHead s_Reader_readDotted s_Nodes_setTail) k_Reader_readList J K (n + 1) 60 L S M = ai_putf 1 3 63 (am_run (c_Reader_readList s_Reader_fault s_Tokens_sortOf s_Reader_add s_Reader_readDatum s_Nodes_setHead s_Reader_readDotted s_Nodes_setTail) k_Reader_readList J K n) K 60 L S M := by rfl
set_option maxRecDepth 20000 in
theorem r_Reader_readList_63 {s_Reader_fault : aS} {s_Tokens_sortOf : aS} {s_Reader_add : aS} {s_Reader_readDatum : aS} {s_Nodes_setHead : aS} {s_Reader_readDotted : aS} {s_Nodes_setTail : aS} {J : aJ} {K : aR} {n : Nat} {L : aL} {S : List Value} {M : aM} : am_run (c_Reader_readList s_Reader_fault s_Tokens_sortOf s_Reader_add s_Reader_readDatum s_Nodes_setHead s_Reader_readDotted s_Nodes_setTail) k_Reader_readList J K (n + 1) 63 L S M = ai_const 0 64 (am_run (c_Reader_readList s_Reader_fault s_Tokens_sortOf s_Reader_add s_Reader_readDatum s_Nodes_setHead s_Reader_readDotted s_Nodes_setTail) k_Reader_readList J K n) K 63 L S M := by rfl
set_option maxRecDepth 20000 in
theorem r_Reader_readList_64 {s_Reader_fault : aS} {s_Tokens_sortOf : aS} {s_Reader_add : aS} {s_Reader_readDatum : aS} {s_Nodes_setHead : aS} {s_Reader_readDotted : aS} {s_Nodes_setTail : aS} {J : aJ} {K : aR} {n : Nat} {L : aL} {S : List Value} {M : aM} : am_run (c_Reader_readList s_Reader_fault s_Tokens_sortOf s_Reader_add s_Reader_readDatum s_Nodes_setHead s_Reader_readDotted s_Nodes_setTail) k_Reader_readList J K (n + 1) 64 L S M = ai_istore 4 66 (am_run (c_Reader_readList s_Reader_fault s_Tokens_sortOf s_Reader_add s_Reader_readDatum s_Nodes_setHead s_Reader_readDotted s_Nodes_setTail) k_Reader_readList J K n) K 64 L S M := by rfl
set_option maxRecDepth 20000 in
theorem r_Reader_readList_66 {s_Reader_fault : aS} {s_Tokens_sortOf : aS} {s_Reader_add : aS} {s_Reader_readDatum : aS} {s_Nodes_setHead : aS} {s_Reader_readDotted : aS} {s_Nodes_setTail : aS} {J : aJ} {K : aR} {n : Nat} {L : aL} {S : List Value} {M : aM} : am_run (c_Reader_readList s_Reader_fault s_Tokens_sortOf s_Reader_add s_Reader_readDatum s_Nodes_setHead s_Reader_readDotted s_Nodes_setTail) k_Reader_readList J K (n + 1) 66 L S M = J 66 L S M := by rfl
set_option maxRecDepth 20000 in
theorem r_Reader_readList_68 {s_Reader_fault : aS} {s_Tokens_sortOf : aS} {s_Reader_add : aS} {s_Reader_readDatum : aS} {s_Nodes_setHead : aS} {s_Reader_readDotted : aS} {s_Nodes_setTail : aS} {J : aJ} {K : aR} {n : Nat} {L : aL} {S : List Value} {M : aM} : am_run (c_Reader_readList s_Reader_fault s_Tokens_sortOf s_Reader_add s_Reader_readDatum s_Nodes_setHead s_Reader_readDotted s_Nodes_setTail) k_Reader_readList J K (n + 1) 68 L S M = ai_const 200 71 (am_run (c_Reader_readList s_Reader_fault s_Tokens_sortOf s_Reader_add s_Reader_readDatum s_Nodes_setHead s_Reader_readDotted s_Nodes_setTail) k_Reader_readList J K n) K 68 L S M := by rfl
set_option maxRecDepth 20000 in
theorem r_Reader_readList_71 {s_Reader_fault : aS} {s_Tokens_sortOf : aS} {s_Reader_add : aS} {s_Reader_readDatum : aS} {s_Nodes_setHead : aS} {s_Reader_readDotted : aS} {s_Nodes_setTail : aS} {J : aJ} {K : aR} {n : Nat} {L : aL} {S : List Value} {M : aM} : am_run (c_Reader_readList s_Reader_fault s_Tokens_sortOf s_Reader_add s_Reader_readDatum s_Nodes_setHead s_Reader_readDotted s_Nodes_setTail) k_Reader_readList J K (n + 1) 71 L S M = ai_cmpge 213 74 (am_run (c_Reader_readList s_Reader_fault s_Tokens_sortOf s_Reader_add s_Reader_readDatum s_Nodes_setHead s_Reader_readDotted s_Nodes_setTail) k_Reader_readList J K n) K 71 L S M := by rfl
set_option maxRecDepth 20000 in
theorem r_Reader_readList_74 {s_Reader_fault : aS} {s_Tokens_sortOf : aS} {s_Reader_add : aS} {s_Reader_readDatum : aS} {s_Nodes_setHead : aS} {s_Reader_readDotted : aS} {s_Nodes_setTail : aS} {J : aJ} {K : aR} {n : Nat} {L : aL} {S : List Value} {M : aM} : am_run (c_Reader_readList s_Reader_fault s_Tokens_sortOf s_Reader_add s_Reader_readDatum s_Nodes_setHead s_Reader_readDotted s_Nodes_setTail) k_Reader_readList J K (n + 1) 74 L S M = ai_iload 3 75 (am_run (c_Reader_readList s_Reader_fault s_Tokens_sortOf s_Reader_add s_Reader_readDatum s_Nodes_setHead s_Reader_readDotted s_Nodes_setTail) k_Reader_readList J K n) K 74 L S M := by rfl
set_option maxRecDepth 20000 in
theorem r_Reader_readList_75 {s_Reader_fault : aS} {s_Tokens_sortOf : aS} {s_Reader_add : aS} {s_Reader_readDatum : aS} {s_Nodes_setHead : aS} {s_Reader_readDotted : aS} {s_Nodes_setTail : aS} {J : aJ} {K : aR} {n : Nat} {L : aL} {S : List Value} {M : aM} : am_run (c_Reader_readList s_Reader_fault s_Tokens_sortOf s_Reader_add s_Reader_readDatum s_Nodes_setHead s_Reader_readDotted s_Nodes_setTail) k_Reader_readList J K (n + 1) 75 L S M = ai_const (-1) 76 (am_run (c_Reader_readList s_Reader_fault s_Tokens_sortOf s_Reader_add s_Reader_readDatum s_Nodes_setHead s_Reader_readDotted s_Nodes_setTail) k_Reader_readList J K n) K 75 L S M := by rfl
set_option maxRecDepth 20000 in
theorem r_Reader_readList_76 {s_Reader_fault : aS} {s_Tokens_sortOf : aS} {s_Reader_add : aS} {s_Reader_readDatum : aS} {s_Nodes_setHead : aS} {s_Reader_readDotted : aS} {s_Nodes_setTail : aS} {J : aJ} {K : aR} {n : Nat} {L : aL} {S : List Value} {M : aM} : am_run (c_Reader_readList s_Reader_fault s_Tokens_sortOf s_Reader_add s_Reader_readDatum s_Nodes_setHead s_Reader_readDotted s_Nodes_setTail) k_Reader_readList J K (n + 1) 76 L S M = ai_cmpeq 213 79 (am_run (c_Reader_readList s_Reader_fault s_Tokens_sortOf s_Reader_add s_Reader_readDatum s_Nodes_setHead s_Reader_readDotted s_Nodes_setTail) k_Reader_readList J K n) K 76 L S M := by rfl
set_option maxRecDepth 20000 in
theorem r_Reader_readList_79 {s_Reader_fault : aS} {s_Tokens_sortOf : aS} {s_Reader_add : aS} {s_Reader_readDatum : aS} {s_Nodes_setHead : aS} {s_Reader_readDotted : aS} {s_Nodes_setTail : aS} {J : aJ} {K : aR} {n : Nat} {L : aL} {S : List Value} {M : aM} : am_run (c_Reader_readList s_Reader_fault s_Tokens_sortOf s_Reader_add s_Reader_readDatum s_Nodes_setHead s_Reader_readDotted s_Nodes_setTail) k_Reader_readList J K (n + 1) 79 L S M = ai_aload 0 80 (am_run (c_Reader_readList s_Reader_fault s_Tokens_sortOf s_Reader_add s_Reader_readDatum s_Nodes_setHead s_Reader_readDotted s_Nodes_setTail) k_Reader_readList J K n) K 79 L S M := by rfl
set_option maxRecDepth 20000 in
theorem r_Reader_readList_80 {s_Reader_fault : aS} {s_Tokens_sortOf : aS} {s_Reader_add : aS} {s_Reader_readDatum : aS} {s_Nodes_setHead : aS} {s_Reader_readDotted : aS} {s_Nodes_setTail : aS} {J : aJ} {K : aR} {n : Nat} {L : aL} {S : List Value} {M : aM} : am_run (c_Reader_readList s_Reader_fault s_Tokens_sortOf s_Reader_add s_Reader_readDatum s_Nodes_setHead s_Reader_readDotted s_Nodes_setTail) k_Reader_readList J K (n + 1) 80 L S M = ai_iload 1 81 (am_run (c_Reader_readList s_Reader_fault s_Tokens_sortOf s_Reader_add s_Reader_readDatum s_Nodes_setHead s_Reader_readDotted s_Nodes_setTail) k_Reader_readList J K n) K 80 L S M := by rfl
set_option maxRecDepth 20000 in
theorem r_Reader_readList_81 {s_Reader_fault : aS} {s_Tokens_sortOf : aS} {s_Reader_add : aS} {s_Reader_readDatum : aS} {s_Nodes_setHead : aS} {s_Reader_readDotted : aS} {s_Nodes_setTail : aS} {J : aJ} {K : aR} {n : Nat} {L : aL} {S : List Value} {M : aM} : am_run (c_Reader_readList s_Reader_fault s_Tokens_sortOf s_Reader_add s_Reader_readDatum s_Nodes_setHead s_Reader_readDotted s_Nodes_setTail) k_Reader_readList J K (n + 1) 81 L S M = ai_const 1 82 (am_run (c_Reader_readList s_Reader_fault s_Tokens_sortOf s_Reader_add s_Reader_readDatum s_Nodes_setHead s_Reader_readDotted s_Nodes_setTail) k_Reader_readList J K n) K 81 L S M := by rfl
set_option maxRecDepth 20000 in
theorem r_Reader_readList_82 {s_Reader_fault : aS} {s_Tokens_sortOf : aS} {s_Reader_add : aS} {s_Reader_readDatum : aS} {s_Nodes_setHead : aS} {s_Reader_readDotted : aS} {s_Nodes_setTail : aS} {J : aJ} {K : aR} {n : Nat} {L : aL} {S : List Value} {M : aM} : am_run (c_Reader_readList s_Reader_fault s_Tokens_sortOf s_Reader_add s_Reader_readDatum s_Nodes_setHead s_Reader_readDotted s_Nodes_setTail) k_Reader_readList J K (n + 1) 82 L S M = ai_iadd 83 (am_run (c_Reader_readList s_Reader_fault s_Tokens_sortOf s_Reader_add s_Reader_readDatum s_Nodes_setHead s_Reader_readDotted s_Nodes_setTail) k_Reader_readList J K n) K 82 L S M := by rfl
set_option maxRecDepth 20000 in
theorem r_Reader_readList_83 {s_Reader_fault : aS} {s_Tokens_sortOf : aS} {s_Reader_add : aS} {s_Reader_readDatum : aS} {s_Nodes_setHead : aS} {s_Reader_readDotted : aS} {s_Nodes_setTail : aS} {J : aJ} {K : aR} {n : Nat} {L : aL} {S : List Value} {M : aM} : am_run (c_Reader_readList s_Reader_fault s_Tokens_sortOf s_Reader_add s_Reader_readDatum s_Nodes_setHead s_Reader_readDotted s_Nodes_setTail) k_Reader_readList J K (n + 1) 83 L S M = ai_callv2 1 s_Reader_readDatum 86 (am_run (c_Reader_readList s_Reader_fault s_Tokens_sortOf s_Reader_add s_Reader_readDatum s_Nodes_setHead s_Reader_readDotted s_Nodes_setTail) k_Reader_readList J K n) K 83 L S M := by rfl
set_option maxRecDepth 20000 in
theorem r_Reader_readList_86 {s_Reader_fault : aS} {s_Tokens_sortOf : aS} {s_Reader_add : aS} {s_Reader_readDatum : aS} {s_Nodes_setHead : aS} {s_Reader_readDotted : aS} {s_Nodes_setTail : aS} {J : aJ} {K : aR} {n : Nat} {L : aL} {S : List Value} {M : aM} : am_run (c_Reader_readList s_Reader_fault s_Tokens_sortOf s_Reader_add s_Reader_readDatum s_Nodes_setHead s_Reader_readDotted s_Nodes_setTail) k_Reader_readList J K (n + 1) 86 L S M = ai_istore 5 88 (am_run (c_Reader_readList s_Reader_fault s_Tokens_sortOf s_Reader_add s_Reader_readDatum s_Nodes_setHead s_Reader_readDotted s_Nodes_setTail) k_Reader_readList J K n) K 86 L S M := by rfl
set_option maxRecDepth 20000 in
theorem r_Reader_readList_88 {s_Reader_fault : aS} {s_Tokens_sortOf : aS} {s_Reader_add : aS} {s_Reader_readDatum : aS} {s_Nodes_setHead : aS} {s_Reader_readDotted : aS} {s_Nodes_setTail : aS} {J : aJ} {K : aR} {n : Nat} {L : aL} {S : List Value} {M : aM} : am_run (c_Reader_readList s_Reader_fault s_Tokens_sortOf s_Reader_add s_Reader_readDatum s_Nodes_setHead s_Reader_readDotted s_Nodes_setTail) k_Reader_readList J K (n + 1) 88 L S M = ai_iload 5 90 (am_run (c_Reader_readList s_Reader_fault s_Tokens_sortOf s_Reader_add s_Reader_readDatum s_Nodes_setHead s_Reader_readDotted s_Nodes_setTail) k_Reader_readList J K n) K 88 L S M := by rfl
set_option maxRecDepth 20000 in
theorem r_Reader_readList_90 {s_Reader_fault : aS} {s_Tokens_sortOf : aS} {s_Reader_add : aS} {s_Reader_readDatum : aS} {s_Nodes_setHead : aS} {s_Reader_readDotted : aS} {s_Nodes_setTail : aS} {J : aJ} {K : aR} {n : Nat} {L : aL} {S : List Value} {M : aM} : am_run (c_Reader_readList s_Reader_fault s_Tokens_sortOf s_Reader_add s_Reader_readDatum s_Nodes_setHead s_Reader_readDotted s_Nodes_setTail) k_Reader_readList J K (n + 1) 90 L S M = ai_const (-1) 91 (am_run (c_Reader_readList s_Reader_fault s_Tokens_sortOf s_Reader_add s_Reader_readDatum s_Nodes_setHead s_Reader_readDotted s_Nodes_setTail) k_Reader_readList J K n) K 90 L S M := by rfl
set_option maxRecDepth 20000 in
theorem r_Reader_readList_91 {s_Reader_fault : aS} {s_Tokens_sortOf : aS} {s_Reader_add : aS} {s_Reader_readDatum : aS} {s_Nodes_setHead : aS} {s_Reader_readDotted : aS} {s_Nodes_setTail : aS} {J : aJ} {K : aR} {n : Nat} {L : aL} {S : List Value} {M : aM} : am_run (c_Reader_readList s_Reader_fault s_Tokens_sortOf s_Reader_add s_Reader_readDatum s_Nodes_setHead s_Reader_readDotted s_Nodes_setTail) k_Reader_readList J K (n + 1) 91 L S M = ai_cmpne 96 94 (am_run (c_Reader_readList s_Reader_fault s_Tokens_sortOf s_Reader_add s_Reader_readDatum s_Nodes_setHead s_Reader_readDotted s_Nodes_setTail) k_Reader_readList J K n) K 91 L S M := by rfl
set_option maxRecDepth 20000 in
theorem r_Reader_readList_94 {s_Reader_fault : aS} {s_Tokens_sortOf : aS} {s_Reader_add : aS} {s_Reader_readDatum : aS} {s_Nodes_setHead : aS} {s_Reader_readDotted : aS} {s_Nodes_setTail : aS} {J : aJ} {K : aR} {n : Nat} {L : aL} {S : List Value} {M : aM} : am_run (c_Reader_readList s_Reader_fault s_Tokens_sortOf s_Reader_add s_Reader_readDatum s_Nodes_setHead s_Reader_readDotted s_Nodes_setTail) k_Reader_readList J K (n + 1) 94 L S M = ai_const (-1) 95 (am_run (c_Reader_readList s_Reader_fault s_Tokens_sortOf s_Reader_add s_Reader_readDatum s_Nodes_setHead s_Reader_readDotted s_Nodes_setTail) k_Reader_readList J K n) K 94 L S M := by rfl
set_option maxRecDepth 20000 in
theorem r_Reader_readList_95 {s_Reader_fault : aS} {s_Tokens_sortOf : aS} {s_Reader_add : aS} {s_Reader_readDatum : aS} {s_Nodes_setHead : aS} {s_Reader_readDotted : aS} {s_Nodes_setTail : aS} {J : aJ} {K : aR} {n : Nat} {L : aL} {S : List Value} {M : aM} : am_run (c_Reader_readList s_Reader_fault s_Tokens_sortOf s_Reader_add s_Reader_readDatum s_Nodes_setHead s_Reader_readDotted s_Nodes_setTail) k_Reader_readList J K (n + 1) 95 L S M = ai_iret (am_run (c_Reader_readList s_Reader_fault s_Tokens_sortOf s_Reader_add s_Reader_readDatum s_Nodes_setHead s_Reader_readDotted s_Nodes_setTail) k_Reader_readList J K n) K 95 L S M := by rfl
set_option maxRecDepth 20000 in
theorem r_Reader_readList_96 {s_Reader_fault : aS} {s_Tokens_sortOf : aS} {s_Reader_add : aS} {s_Reader_readDatum : aS} {s_Nodes_setHead : aS} {s_Reader_readDotted : aS} {s_Nodes_setTail : aS} {J : aJ} {K : aR} {n : Nat} {L : aL} {S : List Value} {M : aM} : am_run (c_Reader_readList s_Reader_fault s_Tokens_sortOf s_Reader_add s_Reader_readDatum s_Nodes_setHead s_Reader_readDotted s_Nodes_setTail) k_Reader_readList J K (n + 1) 96 L S M = ai_aload 0 97 (am_run (c_Reader_readList s_Reader_fault s_Tokens_sortOf s_Reader_add s_Reader_readDatum s_Nodes_setHead s_Reader_readDotted s_Nodes_setTail) k_Reader_readList J K n) K 96 L S M := by rfl
set_option maxRecDepth 20000 in
theorem r_Reader_readList_97 {s_Reader_fault : aS} {s_Tokens_sortOf : aS} {s_Reader_add : aS} {s_Reader_readDatum : aS} {s_Nodes_setHead : aS} {s_Reader_readDotted : aS} {s_Nodes_setTail : aS} {J : aJ} {K : aR} {n : Nat} {L : aL} {S : List Value} {M : aM} : am_run (c_Reader_readList s_Reader_fault s_Tokens_sortOf s_Reader_add s_Reader_readDatum s_Nodes_setHead s_Reader_readDotted s_Nodes_setTail) k_Reader_readList J K (n + 1) 97 L S M = ai_getf 1 1 100 (am_run (c_Reader_readList s_Reader_fault s_Tokens_sortOf s_Reader_add s_Reader_readDatum s_Nodes_setHead s_Reader_readDotted s_Nodes_setTail) k_Reader_readList J K n) K 97 L S M := by rfl
set_option maxRecDepth 20000 in
theorem r_Reader_readList_100 {s_Reader_fault : aS} {s_Tokens_sortOf : aS} {s_Reader_add : aS} {s_Reader_readDatum : aS} {s_Nodes_setHead : aS} {s_Reader_readDotted : aS} {s_Nodes_setTail : aS} {J : aJ} {K : aR} {n : Nat} {L : aL} {S : List Value} {M : aM} : am_run (c_Reader_readList s_Reader_fault s_Tokens_sortOf s_Reader_add s_Reader_readDatum s_Nodes_setHead s_Reader_readDotted s_Nodes_setTail) k_Reader_readList J K (n + 1) 100 L S M = ai_iload 3 101 (am_run (c_Reader_readList s_Reader_fault s_Tokens_sortOf s_Reader_add s_Reader_readDatum s_Nodes_setHead s_Reader_readDotted s_Nodes_setTail) k_Reader_readList J K n) K 100 L S M := by rfl
set_option maxRecDepth 20000 in
theorem r_Reader_readList_101 {s_Reader_fault : aS} {s_Tokens_sortOf : aS} {s_Reader_add : aS} {s_Reader_readDatum : aS} {s_Nodes_setHead : aS} {s_Reader_readDotted : aS} {s_Nodes_setTail : aS} {J : aJ} {K : aR} {n : Nat} {L : aL} {S : List Value} {M : aM} : am_run (c_Reader_readList s_Reader_fault s_Tokens_sortOf s_Reader_add s_Reader_readDatum s_Nodes_setHead s_Reader_readDotted s_Nodes_setTail) k_Reader_readList J K (n + 1) 101 L S M = ai_iload 5 103 (am_run (c_Reader_readList s_Reader_fault s_Tokens_sortOf s_Reader_add s_Reader_readDatum s_Nodes_setHead s_Reader_readDotted s_Nodes_setTail) k_Reader_readList J K n) K 101 L S M := by rfl
set_option maxRecDepth 20000 in
theorem r_Reader_readList_103 {s_Reader_fault : aS} {s_Tokens_sortOf : aS} {s_Reader_add : aS} {s_Reader_readDatum : aS} {s_Nodes_setHead : aS} {s_Reader_readDotted : aS} {s_Nodes_setTail : aS} {J : aJ} {K : aR} {n : Nat} {L : aL} {S : List Value} {M : aM} : am_run (c_Reader_readList s_Reader_fault s_Tokens_sortOf s_Reader_add s_Reader_readDatum s_Nodes_setHead s_Reader_readDotted s_Nodes_setTail) k_Reader_readList J K (n + 1) 103 L S M = ai_callv3 0 s_Nodes_setHead 106 (am_run (c_Reader_readList s_Reader_fault s_Tokens_sortOf s_Reader_add s_Reader_readDatum s_Nodes_setHead s_Reader_readDotted s_Nodes_setTail) k_Reader_readList J K n) K 103 L S M := by rfl
set_option maxRecDepth 20000 in
theorem r_Reader_readList_106 {s_Reader_fault : aS} {s_Tokens_sortOf : aS} {s_Reader_add : aS} {s_Reader_readDatum : aS} {s_Nodes_setHead : aS} {s_Reader_readDotted : aS} {s_Nodes_setTail : aS} {J : aJ} {K : aR} {n : Nat} {L : aL} {S : List Value} {M : aM} : am_run (c_Reader_readList s_Reader_fault s_Tokens_sortOf s_Reader_add s_Reader_readDatum s_Nodes_setHead s_Reader_readDotted s_Nodes_setTail) k_Reader_readList J K (n + 1) 106 L S M = ai_aload 0 107 (am_run (c_Reader_readList s_Reader_fault s_Tokens_sortOf s_Reader_add s_Reader_readDatum s_Nodes_setHead s_Reader_readDotted s_Nodes_setTail) k_Reader_readList J K n) K 106 L S M := by rfl
set_option maxRecDepth 20000 in
theorem r_Reader_readList_107 {s_Reader_fault : aS} {s_Tokens_sortOf : aS} {s_Reader_add : aS} {s_Reader_readDatum : aS} {s_Nodes_setHead : aS} {s_Reader_readDotted : aS} {s_Nodes_setTail : aS} {J : aJ} {K : aR} {n : Nat} {L : aL} {S : List Value} {M : aM} : am_run (c_Reader_readList s_Reader_fault s_Tokens_sortOf s_Reader_add s_Reader_readDatum s_Nodes_setHead s_Reader_readDotted s_Nodes_setTail) k_Reader_readList J K (n + 1) 107 L S M = ai_dup 108 (am_run (c_Reader_readList s_Reader_fault s_Tokens_sortOf s_Reader_add s_Reader_readDatum s_Nodes_setHead s_Reader_readDotted s_Nodes_setTail) k_Reader_readList J K n) K 107 L S M := by rfl
set_option maxRecDepth 20000 in
theorem r_Reader_readList_108 {s_Reader_fault : aS} {s_Tokens_sortOf : aS} {s_Reader_add : aS} {s_Reader_readDatum : aS} {s_Nodes_setHead : aS} {s_Reader_readDotted : aS} {s_Nodes_setTail : aS} {J : aJ} {K : aR} {n : Nat} {L : aL} {S : List Value} {M : aM} : am_run (c_Reader_readList s_Reader_fault s_Tokens_sortOf s_Reader_add s_Reader_readDatum s_Nodes_setHead s_Reader_readDotted s_Nodes_setTail) k_Reader_readList J K (n + 1) 108 L S M = ai_getf 1 3 111 (am_run (c_Reader_readList s_Reader_fault s_Tokens_sortOf s_Reader_add s_Reader_readDatum s_Nodes_setHead s_Reader_readDotted s_Nodes_setTail) k_Reader_readList J K n) K 108 L S M := by rfl
set_option maxRecDepth 20000 in
theorem r_Reader_readList_111 {s_Reader_fault : aS} {s_Tokens_sortOf : aS} {s_Reader_add : aS} {s_Reader_readDatum : aS} {s_Nodes_setHead : aS} {s_Reader_readDotted : aS} {s_Nodes_setTail : aS} {J : aJ} {K : aR} {n : Nat} {L : aL} {S : List Value} {M : aM} : am_run (c_Reader_readList s_Reader_fault s_Tokens_sortOf s_Reader_add s_Reader_readDatum s_Nodes_setHead s_Reader_readDotted s_Nodes_setTail) k_Reader_readList J K (n + 1) 111 L S M = ai_const 1 112 (am_run (c_Reader_readList s_Reader_fault s_Tokens_sortOf s_Reader_add s_Reader_readDatum s_Nodes_setHead s_Reader_readDotted s_Nodes_setTail) k_Reader_readList J K n) K 111 L S M := by rfl
set_option maxRecDepth 20000 in
theorem r_Reader_readList_112 {s_Reader_fault : aS} {s_Tokens_sortOf : aS} {s_Reader_add : aS} {s_Reader_readDatum : aS} {s_Nodes_setHead : aS} {s_Reader_readDotted : aS} {s_Nodes_setTail : aS} {J : aJ} {K : aR} {n : Nat} {L : aL} {S : List Value} {M : aM} : am_run (c_Reader_readList s_Reader_fault s_Tokens_sortOf s_Reader_add s_Reader_readDatum s_Nodes_setHead s_Reader_readDotted s_Nodes_setTail) k_Reader_readList J K (n + 1) 112 L S M = ai_iadd 113 (am_run (c_Reader_readList s_Reader_fault s_Tokens_sortOf s_Reader_add s_Reader_readDatum s_Nodes_setHead s_Reader_readDotted s_Nodes_setTail) k_Reader_readList J K n) K 112 L S M := by rfl
set_option maxRecDepth 20000 in
theorem r_Reader_readList_113 {s_Reader_fault : aS} {s_Tokens_sortOf : aS} {s_Reader_add : aS} {s_Reader_readDatum : aS} {s_Nodes_setHead : aS} {s_Reader_readDotted : aS} {s_Nodes_setTail : aS} {J : aJ} {K : aR} {n : Nat} {L : aL} {S : List Value} {M : aM} : am_run (c_Reader_readList s_Reader_fault s_Tokens_sortOf s_Reader_add s_Reader_readDatum s_Nodes_setHead s_Reader_readDotted s_Nodes_setTail) k_Reader_readList J K (n + 1) 113 L S M = ai_putf 1 3 116 (am_run (c_Reader_readList s_Reader_fault s_Tokens_sortOf s_Reader_add s_Reader_readDatum s_Nodes_setHead s_Reader_readDotted s_Nodes_setTail) k_Reader_readList J K n) K 113 L S M := by rfl
set_option maxRecDepth 20000 in
theorem r_Reader_readList_116 {s_Reader_fault : aS} {s_Tokens_sortOf : aS} {s_Reader_add : aS} {s_Reader_readDatum : aS} {s_Nodes_setHead : aS} {s_Reader_readDotted : aS} {s_Nodes_setTail : aS} {J : aJ} {K : aR} {n : Nat} {L : aL} {S : List Value} {M : aM} : am_run (c_Reader_readList s_Reader_fault s_Tokens_sortOf s_Reader_add s_Reader_readDatum s_Nodes_setHead s_Reader_readDotted s_Nodes_setTail) k_Reader_readList J K (n + 1) 116 L S M = ai_aload 0 117 (am_run (c_Reader_readList s_Reader_fault s_Tokens_sortOf s_Reader_add s_Reader_readDatum s_Nodes_setHead s_Reader_readDotted s_Nodes_setTail) k_Reader_readList J K n) K 116 L S M := by rfl
set_option maxRecDepth 20000 in
theorem r_Reader_readList_117 {s_Reader_fault : aS} {s_Tokens_sortOf : aS} {s_Reader_add : aS} {s_Reader_readDatum : aS} {s_Nodes_setHead : aS} {s_Reader_readDotted : aS} {s_Nodes_setTail : aS} {J : aJ} {K : aR} {n : Nat} {L : aL} {S : List Value} {M : aM} : am_run (c_Reader_readList s_Reader_fault s_Tokens_sortOf s_Reader_add s_Reader_readDatum s_Nodes_setHead s_Reader_readDotted s_Nodes_setTail) k_Reader_readList J K (n + 1) 117 L S M = ai_getf 1 2 120 (am_run (c_Reader_readList s_Reader_fault s_Tokens_sortOf s_Reader_add s_Reader_readDatum s_Nodes_setHead s_Reader_readDotted s_Nodes_setTail) k_Reader_readList J K n) K 117 L S M := by rfl
set_option maxRecDepth 20000 in
theorem r_Reader_readList_120 {s_Reader_fault : aS} {s_Tokens_sortOf : aS} {s_Reader_add : aS} {s_Reader_readDatum : aS} {s_Nodes_setHead : aS} {s_Reader_readDotted : aS} {s_Nodes_setTail : aS} {J : aJ} {K : aR} {n : Nat} {L : aL} {S : List Value} {M : aM} : am_run (c_Reader_readList s_Reader_fault s_Tokens_sortOf s_Reader_add s_Reader_readDatum s_Nodes_setHead s_Reader_readDotted s_Nodes_setTail) k_Reader_readList J K (n + 1) 120 L S M = ai_aload 0 121 (am_run (c_Reader_readList s_Reader_fault s_Tokens_sortOf s_Reader_add s_Reader_readDatum s_Nodes_setHead s_Reader_readDotted s_Nodes_setTail) k_Reader_readList J K n) K 120 L S M := by rfl
set_option maxRecDepth 20000 in
theorem r_Reader_readList_121 {s_Reader_fault : aS} {s_Tokens_sortOf : aS} {s_Reader_add : aS} {s_Reader_readDatum : aS} {s_Nodes_setHead : aS} {s_Reader_readDotted : aS} {s_Nodes_setTail : aS} {J : aJ} {K : aR} {n : Nat} {L : aL} {S : List Value} {M : aM} : am_run (c_Reader_readList s_Reader_fault s_Tokens_sortOf s_Reader_add s_Reader_readDatum s_Nodes_setHead s_Reader_readDotted s_Nodes_setTail) k_Reader_readList J K (n + 1) 121 L S M = ai_getf 1 3 124 (am_run (c_Reader_readList s_Reader_fault s_Tokens_sortOf s_Reader_add s_Reader_readDatum s_Nodes_setHead s_Reader_readDotted s_Nodes_setTail) k_Reader_readList J K n) K 121 L S M := by rfl
set_option maxRecDepth 20000 in
theorem r_Reader_readList_124 {s_Reader_fault : aS} {s_Tokens_sortOf : aS} {s_Reader_add : aS} {s_Reader_readDatum : aS} {s_Nodes_setHead : aS} {s_Reader_readDotted : aS} {s_Nodes_setTail : aS} {J : aJ} {K : aR} {n : Nat} {L : aL} {S : List Value} {M : aM} : am_run (c_Reader_readList s_Reader_fault s_Tokens_sortOf s_Reader_add s_Reader_readDatum s_Nodes_setHead s_Reader_readDotted s_Nodes_setTail) k_Reader_readList J K (n + 1) 124 L S M = ai_callv2 3 s_Tokens_sortOf 127 (am_run (c_Reader_readList s_Reader_fault s_Tokens_sortOf s_Reader_add s_Reader_readDatum s_Nodes_setHead s_Reader_readDotted s_Nodes_setTail) k_Reader_readList J K n) K 124 L S M := by rfl
set_option maxRecDepth 20000 in
theorem r_Reader_readList_127 {s_Reader_fault : aS} {s_Tokens_sortOf : aS} {s_Reader_add : aS} {s_Reader_readDatum : aS} {s_Nodes_setHead : aS} {s_Reader_readDotted : aS} {s_Nodes_setTail : aS} {J : aJ} {K : aR} {n : Nat} {L : aL} {S : List Value} {M : aM} : am_run (c_Reader_readList s_Reader_fault s_Tokens_sortOf s_Reader_add s_Reader_readDatum s_Nodes_setHead s_Reader_readDotted s_Nodes_setTail) k_Reader_readList J K (n + 1) 127 L S M = ai_istore 6 129 (am_run (c_Reader_readList s_Reader_fault s_Tokens_sortOf s_Reader_add s_Reader_readDatum s_Nodes_setHead s_Reader_readDotted s_Nodes_setTail) k_Reader_readList J K n) K 127 L S M := by rfl
set_option maxRecDepth 20000 in
theorem r_Reader_readList_129 {s_Reader_fault : aS} {s_Tokens_sortOf : aS} {s_Reader_add : aS} {s_Reader_readDatum : aS} {s_Nodes_setHead : aS} {s_Reader_readDotted : aS} {s_Nodes_setTail : aS} {J : aJ} {K : aR} {n : Nat} {L : aL} {S : List Value} {M : aM} : am_run (c_Reader_readList s_Reader_fault s_Tokens_sortOf s_Reader_add s_Reader_readDatum s_Nodes_setHead s_Reader_readDotted s_Nodes_setTail) k_Reader_readList J K (n + 1) 129 L S M = ai_iload 6 131 (am_run (c_Reader_readList s_Reader_fault s_Tokens_sortOf s_Reader_add s_Reader_readDatum s_Nodes_setHead s_Reader_readDotted s_Nodes_setTail) k_Reader_readList J K n) K 129 L S M := by rfl
set_option maxRecDepth 20000 in
theorem r_Reader_readList_131 {s_Reader_fault : aS} {s_Tokens_sortOf : aS} {s_Reader_add : aS} {s_Reader_readDatum : aS} {s_Nodes_setHead : aS} {s_Reader_readDotted : aS} {s_Nodes_setTail : aS} {J : aJ} {K : aR} {n : Nat} {L : aL} {S : List Value} {M : aM} : am_run (c_Reader_readList s_Reader_fault s_Tokens_sortOf s_Reader_add s_Reader_readDatum s_Nodes_setHead s_Reader_readDotted s_Nodes_setTail) k_Reader_readList J K (n + 1) 131 L S M = ai_const 7 133 (am_run (c_Reader_readList s_Reader_fault s_Tokens_sortOf s_Reader_add s_Reader_readDatum s_Nodes_setHead s_Reader_readDotted s_Nodes_setTail) k_Reader_readList J K n) K 131 L S M := by rfl
set_option maxRecDepth 20000 in
theorem r_Reader_readList_133 {s_Reader_fault : aS} {s_Tokens_sortOf : aS} {s_Reader_add : aS} {s_Reader_readDatum : aS} {s_Nodes_setHead : aS} {s_Reader_readDotted : aS} {s_Nodes_setTail : aS} {J : aJ} {K : aR} {n : Nat} {L : aL} {S : List Value} {M : aM} : am_run (c_Reader_readList s_Reader_fault s_Tokens_sortOf s_Reader_add s_Reader_readDatum s_Nodes_setHead s_Reader_readDotted s_Nodes_setTail) k_Reader_readList J K (n + 1) 133 L S M = ai_cmpeq 143 136 (am_run (c_Reader_readList s_Reader_fault s_Tokens_sortOf s_Reader_add s_Reader_readDatum s_Nodes_setHead s_Reader_readDotted s_Nodes_setTail) k_Reader_readList J K n) K 133 L S M := by rfl
set_option maxRecDepth 20000 in
theorem r_Reader_readList_136 {s_Reader_fault : aS} {s_Tokens_sortOf : aS} {s_Reader_add : aS} {s_Reader_readDatum : aS} {s_Nodes_setHead : aS} {s_Reader_readDotted : aS} {s_Nodes_setTail : aS} {J : aJ} {K : aR} {n : Nat} {L : aL} {S : List Value} {M : aM} : am_run (c_Reader_readList s_Reader_fault s_Tokens_sortOf s_Reader_add s_Reader_readDatum s_Nodes_setHead s_Reader_readDotted s_Nodes_setTail) k_Reader_readList J K (n + 1) 136 L S M = ai_iload 6 138 (am_run (c_Reader_readList s_Reader_fault s_Tokens_sortOf s_Reader_add s_Reader_readDatum s_Nodes_setHead s_Reader_readDotted s_Nodes_setTail) k_Reader_readList J K n) K 136 L S M := by rfl
set_option maxRecDepth 20000 in
theorem r_Reader_readList_138 {s_Reader_fault : aS} {s_Tokens_sortOf : aS} {s_Reader_add : aS} {s_Reader_readDatum : aS} {s_Nodes_setHead : aS} {s_Reader_readDotted : aS} {s_Nodes_setTail : aS} {J : aJ} {K : aR} {n : Nat} {L : aL} {S : List Value} {M : aM} : am_run (c_Reader_readList s_Reader_fault s_Tokens_sortOf s_Reader_add s_Reader_readDatum s_Nodes_setHead s_Reader_readDotted s_Nodes_setTail) k_Reader_readList J K (n + 1) 138 L S M = ai_const 9 140 (am_run (c_Reader_readList s_Reader_fault s_Tokens_sortOf s_Reader_add s_Reader_readDatum s_Nodes_setHead s_Reader_readDotted s_Nodes_setTail) k_Reader_readList J K n) K 138 L S M := by rfl
set_option maxRecDepth 20000 in
theorem r_Reader_readList_140 {s_Reader_fault : aS} {s_Tokens_sortOf : aS} {s_Reader_add : aS} {s_Reader_readDatum : aS} {s_Nodes_setHead : aS} {s_Reader_readDotted : aS} {s_Nodes_setTail : aS} {J : aJ} {K : aR} {n : Nat} {L : aL} {S : List Value} {M : aM} : am_run (c_Reader_readList s_Reader_fault s_Tokens_sortOf s_Reader_add s_Reader_readDatum s_Nodes_setHead s_Reader_readDotted s_Nodes_setTail) k_Reader_readList J K (n + 1) 140 L S M = ai_cmpne 187 143 (am_run (c_Reader_readList s_Reader_fault s_Tokens_sortOf s_Reader_add s_Reader_readDatum s_Nodes_setHead s_Reader_readDotted s_Nodes_setTail) k_Reader_readList J K n) K 140 L S M := by rfl
set_option maxRecDepth 20000 in
theorem r_Reader_readList_143 {s_Reader_fault : aS} {s_Tokens_sortOf : aS} {s_Reader_add : aS} {s_Reader_readDatum : aS} {s_Nodes_setHead : aS} {s_Reader_readDotted : aS} {s_Nodes_setTail : aS} {J : aJ} {K : aR} {n : Nat} {L : aL} {S : List Value} {M : aM} : am_run (c_Reader_readList s_Reader_fault s_Tokens_sortOf s_Reader_add s_Reader_readDatum s_Nodes_setHead s_Reader_readDotted s_Nodes_setTail) k_Reader_readList J K (n + 1) 143 L S M = ai_iload 6 145 (am_run (c_Reader_readList s_Reader_fault s_Tokens_sortOf s_Reader_add s_Reader_readDatum s_Nodes_setHead s_Reader_readDotted s_Nodes_setTail) k_Reader_readList J K n) K 143 L S M := by rfl
set_option maxRecDepth 20000 in
theorem r_Reader_readList_145 {s_Reader_fault : aS} {s_Tokens_sortOf : aS} {s_Reader_add : aS} {s_Reader_readDatum : aS} {s_Nodes_setHead : aS} {s_Reader_readDotted : aS} {s_Nodes_setTail : aS} {J : aJ} {K : aR} {n : Nat} {L : aL} {S : List Value} {M : aM} : am_run (c_Reader_readList s_Reader_fault s_Tokens_sortOf s_Reader_add s_Reader_readDatum s_Nodes_setHead s_Reader_readDotted s_Nodes_setTail) k_Reader_readList J K (n + 1) 145 L S M = ai_const 7 147 (am_run (c_Reader_readList s_Reader_fault s_Tokens_sortOf s_Reader_add s_Reader_readDatum s_Nodes_setHead s_Reader_readDotted s_Nodes_setTail) k_Reader_readList J K n) K 145 L S M := by rfl
set_option maxRecDepth 20000 in
theorem r_Reader_readList_147 {s_Reader_fault : aS} {s_Tokens_sortOf : aS} {s_Reader_add : aS} {s_Reader_readDatum : aS} {s_Nodes_setHead : aS} {s_Reader_readDotted : aS} {s_Nodes_setTail : aS} {J : aJ} {K : aR} {n : Nat} {L : aL} {S : List Value} {M : aM} : am_run (c_Reader_readList s_Reader_fault s_Tokens_sortOf s_Reader_add s_Reader_readDatum s_Nodes_setHead s_Reader_readDotted s_Nodes_setTail) k_Reader_readList J K (n + 1) 147 L S M = ai_cmpne 158 150 (am_run (c_Reader_readList s_Reader_fault s_Tokens_sortOf s_Reader_add s_Reader_readDatum s_Nodes_setHead s_Reader_readDotted s_Nodes_setTail) k_Reader_readList J K n) K 147 L S M := by rfl
set_option maxRecDepth 20000 in
theorem r_Reader_readList_150 {s_Reader_fault : aS} {s_Tokens_sortOf : aS} {s_Reader_add : aS} {s_Reader_readDatum : aS} {s_Nodes_setHead : aS} {s_Reader_readDotted : aS} {s_Nodes_setTail : aS} {J : aJ} {K : aR} {n : Nat} {L : aL} {S : List Value} {M : aM} : am_run (c_Reader_readList s_Reader_fault s_Tokens_sortOf s_Reader_add s_Reader_readDatum s_Nodes_setHead s_Reader_readDotted s_Nodes_setTail) k_Reader_readList J K (n + 1) 150 L S M = ai_aload 0 151 (am_run (c_Reader_readList s_Reader_fault s_Tokens_sortOf s_Reader_add s_Reader_readDatum s_Nodes_setHead s_Reader_readDotted s_Nodes_setTail) k_Reader_readList J K n) K 150 L S M := by rfl
set_option maxRecDepth 20000 in
theorem r_Reader_readList_151 {s_Reader_fault : aS} {s_Tokens_sortOf : aS} {s_Reader_add : aS} {s_Reader_readDatum : aS} {s_Nodes_setHead : aS} {s_Reader_readDotted : aS} {s_Nodes_setTail : aS} {J : aJ} {K : aR} {n : Nat} {L : aL} {S : List Value} {M : aM} : am_run (c_Reader_readList s_Reader_fault s_Tokens_sortOf s_Reader_add s_Reader_readDatum s_Nodes_setHead s_Reader_readDotted s_Nodes_setTail) k_Reader_readList J K (n + 1) 151 L S M = ai_const 5 152 (am_run (c_Reader_readList s_Reader_fault s_Tokens_sortOf s_Reader_add s_Reader_readDatum s_Nodes_setHead s_Reader_readDotted s_Nodes_setTail) k_Reader_readList J K n) K 151 L S M := by rfl
set_option maxRecDepth 20000 in
theorem r_Reader_readList_152 {s_Reader_fault : aS} {s_Tokens_sortOf : aS} {s_Reader_add : aS} {s_Reader_readDatum : aS} {s_Nodes_setHead : aS} {s_Reader_readDotted : aS} {s_Nodes_setTail : aS} {J : aJ} {K : aR} {n : Nat} {L : aL} {S : List Value} {M : aM} : am_run (c_Reader_readList s_Reader_fault s_Tokens_sortOf s_Reader_add s_Reader_readDatum s_Nodes_setHead s_Reader_readDotted s_Nodes_setTail) k_Reader_readList J K (n + 1) 152 L S M = ai_callv2 1 s_Reader_add 155 (am_run (c_Reader_readList s_Reader_fault s_Tokens_sortOf s_Reader_add s_Reader_readDatum s_Nodes_setHead s_Reader_readDotted s_Nodes_setTail) k_Reader_readList J K n) K 152 L S M := by rfl
set_option maxRecDepth 20000 in
theorem r_Reader_readList_155 {s_Reader_fault : aS} {s_Tokens_sortOf : aS} {s_Reader_add : aS} {s_Reader_readDatum : aS} {s_Nodes_setHead : aS} {s_Reader_readDotted : aS} {s_Nodes_setTail : aS} {J : aJ} {K : aR} {n : Nat} {L : aL} {S : List Value} {M : aM} : am_run (c_Reader_readList s_Reader_fault s_Tokens_sortOf s_Reader_add s_Reader_readDatum s_Nodes_setHead s_Reader_readDotted s_Nodes_setTail) k_Reader_readList J K (n + 1) 155 L S M = ai_goto 163 (am_run (c_Reader_readList s_Reader_fault s_Tokens_sortOf s_Reader_add s_Reader_readDatum s_Nodes_setHead s_Reader_readDotted s_Nodes_setTail) k_Reader_readList J K n) K 155 L S M := by rfl
set_option maxRecDepth 20000 in
theorem r_Reader_readList_158 {s_Reader_fault : aS} {s_Tokens_sortOf : aS} {s_Reader_add : aS} {s_Reader_readDatum : aS} {s_Nodes_setHead : aS} {s_Reader_readDotted : aS} {s_Nodes_setTail : aS} {J : aJ} {K : aR} {n : Nat} {L : aL} {S : List Value} {M : aM} : am_run (c_Reader_readList s_Reader_fault s_Tokens_sortOf s_Reader_add s_Reader_readDatum s_Nodes_setHead s_Reader_readDotted s_Nodes_setTail) k_Reader_readList J K (n + 1) 158 L S M = ai_aload 0 159 (am_run (c_Reader_readList s_Reader_fault s_Tokens_sortOf s_Reader_add s_Reader_readDatum s_Nodes_setHead s_Reader_readDotted s_Nodes_setTail) k_Reader_readList J K n) K 158 L S M := by rfl
set_option maxRecDepth 20000 in
theorem r_Reader_readList_159 {s_Reader_fault : aS} {s_Tokens_sortOf : aS} {s_Reader_add : aS} {s_Reader_readDatum : aS} {s_Nodes_setHead : aS} {s_Reader_readDotted : aS} {s_Nodes_setTail : aS} {J : aJ} {K : aR} {n : Nat} {L : aL} {S : List Value} {M : aM} : am_run (c_Reader_readList s_Reader_fault s_Tokens_sortOf s_Reader_add s_Reader_readDatum s_Nodes_setHead s_Reader_readDotted s_Nodes_setTail) k_Reader_readList J K (n + 1) 159 L S M = ai_iload 1 160 (am_run (c_Reader_readList s_Reader_fault s_Tokens_sortOf s_Reader_add s_Reader_readDatum s_Nodes_setHead s_Reader_readDotted s_Nodes_setTail) k_Reader_readList J K n) K 159 L S M := by rfl
set_option maxRecDepth 20000 in
theorem r_Reader_readList_160 {s_Reader_fault : aS} {s_Tokens_sortOf : aS} {s_Reader_add : aS} {s_Reader_readDatum : aS} {s_Nodes_setHead : aS} {s_Reader_readDotted : aS} {s_Nodes_setTail : aS} {J : aJ} {K : aR} {n : Nat} {L : aL} {S : List Value} {M : aM} : am_run (c_Reader_readList s_Reader_fault s_Tokens_sortOf s_Reader_add s_Reader_readDatum s_Nodes_setHead s_Reader_readDotted s_Nodes_setTail) k_Reader_readList J K (n + 1) 160 L S M = ai_callv2 1 s_Reader_readDotted 163 (am_run (c_Reader_readList s_Reader_fault s_Tokens_sortOf s_Reader_add s_Reader_readDatum s_Nodes_setHead s_Reader_readDotted s_Nodes_setTail) k_Reader_readList J K n) K 160 L S M := by rfl
set_option maxRecDepth 20000 in
theorem r_Reader_readList_163 {s_Reader_fault : aS} {s_Tokens_sortOf : aS} {s_Reader_add : aS} {s_Reader_readDatum : aS} {s_Nodes_setHead : aS} {s_Reader_readDotted : aS} {s_Nodes_setTail : aS} {J : aJ} {K : aR} {n : Nat} {L : aL} {S : List Value} {M : aM} : am_run (c_Reader_readList s_Reader_fault s_Tokens_sortOf s_Reader_add s_Reader_readDatum s_Nodes_setHead s_Reader_readDotted s_Nodes_setTail) k_Reader_readList J K (n + 1) 163 L S M = ai_istore 7 165 (am_run (c_Reader_readList s_Reader_fault s_Tokens_sortOf s_Reader_add s_Reader_readDatum s_Nodes_setHead s_Reader_readDotted s_Nodes_setTail) k_Reader_readList J K n) K 163 L S M := by rfl
set_option maxRecDepth 20000 in
theorem r_Reader_readList_165 {s_Reader_fault : aS} {s_Tokens_sortOf : aS} {s_Reader_add : aS} {s_Reader_readDatum : aS} {s_Nodes_setHead : aS} {s_Reader_readDotted : aS} {s_Nodes_setTail : aS} {J : aJ} {K : aR} {n : Nat} {L : aL} {S : List Value} {M : aM} : am_run (c_Reader_readList s_Reader_fault s_Tokens_sortOf s_Reader_add s_Reader_readDatum s_Nodes_setHead s_Reader_readDotted s_Nodes_setTail) k_Reader_readList J K (n + 1) 165 L S M = ai_aload 0 166 (am_run (c_Reader_readList s_Reader_fault s_Tokens_sortOf s_Reader_add s_Reader_readDatum s_Nodes_setHead s_Reader_readDotted s_Nodes_setTail) k_Reader_readList J K n) K 165 L S M := by rfl
set_option maxRecDepth 20000 in
theorem r_Reader_readList_166 {s_Reader_fault : aS} {s_Tokens_sortOf : aS} {s_Reader_add : aS} {s_Reader_readDatum : aS} {s_Nodes_setHead : aS} {s_Reader_readDotted : aS} {s_Nodes_setTail : aS} {J : aJ} {K : aR} {n : Nat} {L : aL} {S : List Value} {M : aM} : am_run (c_Reader_readList s_Reader_fault s_Tokens_sortOf s_Reader_add s_Reader_readDatum s_Nodes_setHead s_Reader_readDotted s_Nodes_setTail) k_Reader_readList J K (n + 1) 166 L S M = ai_getf 1 1 169 (am_run (c_Reader_readList s_Reader_fault s_Tokens_sortOf s_Reader_add s_Reader_readDatum s_Nodes_setHead s_Reader_readDotted s_Nodes_setTail) k_Reader_readList J K n) K 166 L S M := by rfl
set_option maxRecDepth 20000 in
theorem r_Reader_readList_169 {s_Reader_fault : aS} {s_Tokens_sortOf : aS} {s_Reader_add : aS} {s_Reader_readDatum : aS} {s_Nodes_setHead : aS} {s_Reader_readDotted : aS} {s_Nodes_setTail : aS} {J : aJ} {K : aR} {n : Nat} {L : aL} {S : List Value} {M : aM} : am_run (c_Reader_readList s_Reader_fault s_Tokens_sortOf s_Reader_add s_Reader_readDatum s_Nodes_setHead s_Reader_readDotted s_Nodes_setTail) k_Reader_readList J K (n + 1) 169 L S M = ai_iload 3 170 (am_run (c_Reader_readList s_Reader_fault s_Tokens_sortOf s_Reader_add s_Reader_readDatum s_Nodes_setHead s_Reader_readDotted s_Nodes_setTail) k_Reader_readList J K n) K 169 L S M := by rfl
set_option maxRecDepth 20000 in
theorem r_Reader_readList_170 {s_Reader_fault : aS} {s_Tokens_sortOf : aS} {s_Reader_add : aS} {s_Reader_readDatum : aS} {s_Nodes_setHead : aS} {s_Reader_readDotted : aS} {s_Nodes_setTail : aS} {J : aJ} {K : aR} {n : Nat} {L : aL} {S : List Value} {M : aM} : am_run (c_Reader_readList s_Reader_fault s_Tokens_sortOf s_Reader_add s_Reader_readDatum s_Nodes_setHead s_Reader_readDotted s_Nodes_setTail) k_Reader_readList J K (n + 1) 170 L S M = ai_iload 7 172 (am_run (c_Reader_readList s_Reader_fault s_Tokens_sortOf s_Reader_add s_Reader_readDatum s_Nodes_setHead s_Reader_readDotted s_Nodes_setTail) k_Reader_readList J K n) K 170 L S M := by rfl
set_option maxRecDepth 20000 in
theorem r_Reader_readList_172 {s_Reader_fault : aS} {s_Tokens_sortOf : aS} {s_Reader_add : aS} {s_Reader_readDatum : aS} {s_Nodes_setHead : aS} {s_Reader_readDotted : aS} {s_Nodes_setTail : aS} {J : aJ} {K : aR} {n : Nat} {L : aL} {S : List Value} {M : aM} : am_run (c_Reader_readList s_Reader_fault s_Tokens_sortOf s_Reader_add s_Reader_readDatum s_Nodes_setHead s_Reader_readDotted s_Nodes_setTail) k_Reader_readList J K (n + 1) 172 L S M = ai_callv3 0 s_Nodes_setTail 175 (am_run (c_Reader_readList s_Reader_fault s_Tokens_sortOf s_Reader_add s_Reader_readDatum s_Nodes_setHead s_Reader_readDotted s_Nodes_setTail) k_Reader_readList J K n) K 172 L S M := by rfl
set_option maxRecDepth 20000 in
theorem r_Reader_readList_175 {s_Reader_fault : aS} {s_Tokens_sortOf : aS} {s_Reader_add : aS} {s_Reader_readDatum : aS} {s_Nodes_setHead : aS} {s_Reader_readDotted : aS} {s_Nodes_setTail : aS} {J : aJ} {K : aR} {n : Nat} {L : aL} {S : List Value} {M : aM} : am_run (c_Reader_readList s_Reader_fault s_Tokens_sortOf s_Reader_add s_Reader_readDatum s_Nodes_setHead s_Reader_readDotted s_Nodes_setTail) k_Reader_readList J K (n + 1) 175 L S M = ai_iload 7 177 (am_run (c_Reader_readList s_Reader_fault s_Tokens_sortOf s_Reader_add s_Reader_readDatum s_Nodes_setHead s_Reader_readDotted s_Nodes_setTail) k_Reader_readList J K n) K 175 L S M := by rfl
set_option maxRecDepth 20000 in
theorem r_Reader_readList_177 {s_Reader_fault : aS} {s_Tokens_sortOf : aS} {s_Reader_add : aS} {s_Reader_readDatum : aS} {s_Nodes_setHead : aS} {s_Reader_readDotted : aS} {s_Nodes_setTail : aS} {J : aJ} {K : aR} {n : Nat} {L : aL} {S : List Value} {M : aM} : am_run (c_Reader_readList s_Reader_fault s_Tokens_sortOf s_Reader_add s_Reader_readDatum s_Nodes_setHead s_Reader_readDotted s_Nodes_setTail) k_Reader_readList J K (n + 1) 177 L S M = ai_const (-1) 178 (am_run (c_Reader_readList s_Reader_fault s_Tokens_sortOf s_Reader_add s_Reader_readDatum s_Nodes_setHead s_Reader_readDotted s_Nodes_setTail) k_Reader_readList J K n) K 177 L S M := by rfl
set_option maxRecDepth 20000 in
theorem r_Reader_readList_178 {s_Reader_fault : aS} {s_Tokens_sortOf : aS} {s_Reader_add : aS} {s_Reader_readDatum : aS} {s_Nodes_setHead : aS} {s_Reader_readDotted : aS} {s_Nodes_setTail : aS} {J : aJ} {K : aR} {n : Nat} {L : aL} {S : List Value} {M : aM} : am_run (c_Reader_readList s_Reader_fault s_Tokens_sortOf s_Reader_add s_Reader_readDatum s_Nodes_setHead s_Reader_readDotted s_Nodes_setTail) k_Reader_readList J K (n + 1) 178 L S M = ai_cmpne 185 181 (am_run (c_Reader_readList s_Reader_fault s_Tokens_sortOf s_Reader_add s_Reader_readDatum s_Nodes_setHead s_Reader_readDotted s_Nodes_setTail) k_Reader_readList J K n) K 178 L S M := by rfl
set_option maxRecDepth 20000 in
theorem r_Reader_readList_181 {s_Reader_fault : aS} {s_Tokens_sortOf : aS} {s_Reader_add : aS} {s_Reader_readDatum : aS} {s_Nodes_setHead : aS} {s_Reader_readDotted : aS} {s_Nodes_setTail : aS} {J : aJ} {K : aR} {n : Nat} {L : aL} {S : List Value} {M : aM} : am_run (c_Reader_readList s_Reader_fault s_Tokens_sortOf s_Reader_add s_Reader_readDatum s_Nodes_setHead s_Reader_readDotted s_Nodes_setTail) k_Reader_readList J K (n + 1) 181 L S M = ai_const (-1) 182 (am_run (c_Reader_readList s_Reader_fault s_Tokens_sortOf s_Reader_add s_Reader_readDatum s_Nodes_setHead s_Reader_readDotted s_Nodes_setTail) k_Reader_readList J K n) K 181 L S M := by rfl
set_option maxRecDepth 20000 in
theorem r_Reader_readList_182 {s_Reader_fault : aS} {s_Tokens_sortOf : aS} {s_Reader_add : aS} {s_Reader_readDatum : aS} {s_Nodes_setHead : aS} {s_Reader_readDotted : aS} {s_Nodes_setTail : aS} {J : aJ} {K : aR} {n : Nat} {L : aL} {S : List Value} {M : aM} : am_run (c_Reader_readList s_Reader_fault s_Tokens_sortOf s_Reader_add s_Reader_readDatum s_Nodes_setHead s_Reader_readDotted s_Nodes_setTail) k_Reader_readList J K (n + 1) 182 L S M = ai_goto 186 (am_run (c_Reader_readList s_Reader_fault s_Tokens_sortOf s_Reader_add s_Reader_readDatum s_Nodes_setHead s_Reader_readDotted s_Nodes_setTail) k_Reader_readList J K n) K 182 L S M := by rfl
set_option maxRecDepth 20000 in
theorem r_Reader_readList_185 {s_Reader_fault : aS} {s_Tokens_sortOf : aS} {s_Reader_add : aS} {s_Reader_readDatum : aS} {s_Nodes_setHead : aS} {s_Reader_readDotted : aS} {s_Nodes_setTail : aS} {J : aJ} {K : aR} {n : Nat} {L : aL} {S : List Value} {M : aM} : am_run (c_Reader_readList s_Reader_fault s_Tokens_sortOf s_Reader_add s_Reader_readDatum s_Nodes_setHead s_Reader_readDotted s_Nodes_setTail) k_Reader_readList J K (n + 1) 185 L S M = ai_iload 2 186 (am_run (c_Reader_readList s_Reader_fault s_Tokens_sortOf s_Reader_add s_Reader_readDatum s_Nodes_setHead s_Reader_readDotted s_Nodes_setTail) k_Reader_readList J K n) K 185 L S M := by rfl
set_option maxRecDepth 20000 in
theorem r_Reader_readList_186 {s_Reader_fault : aS} {s_Tokens_sortOf : aS} {s_Reader_add : aS} {s_Reader_readDatum : aS} {s_Nodes_setHead : aS} {s_Reader_readDotted : aS} {s_Nodes_setTail : aS} {J : aJ} {K : aR} {n : Nat} {L : aL} {S : List Value} {M : aM} : am_run (c_Reader_readList s_Reader_fault s_Tokens_sortOf s_Reader_add s_Reader_readDatum s_Nodes_setHead s_Reader_readDotted s_Nodes_setTail) k_Reader_readList J K (n + 1) 186 L S M = ai_iret (am_run (c_Reader_readList s_Reader_fault s_Tokens_sortOf s_Reader_add s_Reader_readDatum s_Nodes_setHead s_Reader_readDotted s_Nodes_setTail) k_Reader_readList J K n) K 186 L S M := by rfl
set_option maxRecDepth 20000 in
theorem r_Reader_readList_187 {s_Reader_fault : aS} {s_Tokens_sortOf : aS} {s_Reader_add : aS} {s_Reader_readDatum : aS} {s_Nodes_setHead : aS} {s_Reader_readDotted : aS} {s_Nodes_setTail : aS} {J : aJ} {K : aR} {n : Nat} {L : aL} {S : List Value} {M : aM} : am_run (c_Reader_readList s_Reader_fault s_Tokens_sortOf s_Reader_add s_Reader_readDatum s_Nodes_setHead s_Reader_readDotted s_Nodes_setTail) k_Reader_readList J K (n + 1) 187 L S M = ai_aload 0 188 (am_run (c_Reader_readList s_Reader_fault s_Tokens_sortOf s_Reader_add s_Reader_readDatum s_Nodes_setHead s_Reader_readDotted s_Nodes_setTail) k_Reader_readList J K n) K 187 L S M := by rfl
set_option maxRecDepth 20000 in
theorem r_Reader_readList_188 {s_Reader_fault : aS} {s_Tokens_sortOf : aS} {s_Reader_add : aS} {s_Reader_readDatum : aS} {s_Nodes_setHead : aS} {s_Reader_readDotted : aS} {s_Nodes_setTail : aS} {J : aJ} {K : aR} {n : Nat} {L : aL} {S : List Value} {M : aM} : am_run (c_Reader_readList s_Reader_fault s_Tokens_sortOf s_Reader_add s_Reader_readDatum s_Nodes_setHead s_Reader_readDotted s_Nodes_setTail) k_Reader_readList J K (n + 1) 188 L S M = ai_const 4 189 (am_run (c_Reader_readList s_Reader_fault s_Tokens_sortOf s_Reader_add s_Reader_readDatum s_Nodes_setHead s_Reader_readDotted s_Nodes_setTail) k_Reader_readList J K n) K 188 L S M := by rfl
set_option maxRecDepth 20000 in
theorem r_Reader_readList_189 {s_Reader_fault : aS} {s_Tokens_sortOf : aS} {s_Reader_add : aS} {s_Reader_readDatum : aS} {s_Nodes_setHead : aS} {s_Reader_readDotted : aS} {s_Nodes_setTail : aS} {J : aJ} {K : aR} {n : Nat} {L : aL} {S : List Value} {M : aM} : am_run (c_Reader_readList s_Reader_fault s_Tokens_sortOf s_Reader_add s_Reader_readDatum s_Nodes_setHead s_Reader_readDotted s_Nodes_setTail) k_Reader_readList J K (n + 1) 189 L S M = ai_callv2 1 s_Reader_add 192 (am_run (c_Reader_readList s_Reader_fault s_Tokens_sortOf s_Reader_add s_Reader_readDatum s_Nodes_setHead s_Reader_readDotted s_Nodes_setTail) k_Reader_readList J K n) K 189 L S M := by rfl
set_option maxRecDepth 20000 in
theorem r_Reader_readList_192 {s_Reader_fault : aS} {s_Tokens_sortOf : aS} {s_Reader_add : aS} {s_Reader_readDatum : aS} {s_Nodes_setHead : aS} {s_Reader_readDotted : aS} {s_Nodes_setTail : aS} {J : aJ} {K : aR} {n : Nat} {L : aL} {S : List Value} {M : aM} : am_run (c_Reader_readList s_Reader_fault s_Tokens_sortOf s_Reader_add s_Reader_readDatum s_Nodes_setHead s_Reader_readDotted s_Nodes_setTail) k_Reader_readList J K (n + 1) 192 L S M = ai_istore 7 194 (am_run (c_Reader_readList s_Reader_fault s_Tokens_sortOf s_Reader_add s_Reader_readDatum s_Nodes_setHead s_Reader_readDotted s_Nodes_setTail) k_Reader_readList J K n) K 192 L S M := by rfl
set_option maxRecDepth 20000 in
theorem r_Reader_readList_194 {s_Reader_fault : aS} {s_Tokens_sortOf : aS} {s_Reader_add : aS} {s_Reader_readDatum : aS} {s_Nodes_setHead : aS} {s_Reader_readDotted : aS} {s_Nodes_setTail : aS} {J : aJ} {K : aR} {n : Nat} {L : aL} {S : List Value} {M : aM} : am_run (c_Reader_readList s_Reader_fault s_Tokens_sortOf s_Reader_add s_Reader_readDatum s_Nodes_setHead s_Reader_readDotted s_Nodes_setTail) k_Reader_readList J K (n + 1) 194 L S M = ai_aload 0 195 (am_run (c_Reader_readList s_Reader_fault s_Tokens_sortOf s_Reader_add s_Reader_readDatum s_Nodes_setHead s_Reader_readDotted s_Nodes_setTail) k_Reader_readList J K n) K 194 L S M := by rfl
set_option maxRecDepth 20000 in
theorem r_Reader_readList_195 {s_Reader_fault : aS} {s_Tokens_sortOf : aS} {s_Reader_add : aS} {s_Reader_readDatum : aS} {s_Nodes_setHead : aS} {s_Reader_readDotted : aS} {s_Nodes_setTail : aS} {J : aJ} {K : aR} {n : Nat} {L : aL} {S : List Value} {M : aM} : am_run (c_Reader_readList s_Reader_fault s_Tokens_sortOf s_Reader_add s_Reader_readDatum s_Nodes_setHead s_Reader_readDotted s_Nodes_setTail) k_Reader_readList J K (n + 1) 195 L S M = ai_getf 1 1 198 (am_run (c_Reader_readList s_Reader_fault s_Tokens_sortOf s_Reader_add s_Reader_readDatum s_Nodes_setHead s_Reader_readDotted s_Nodes_setTail) k_Reader_readList J K n) K 195 L S M := by rfl
set_option maxRecDepth 20000 in
theorem r_Reader_readList_198 {s_Reader_fault : aS} {s_Tokens_sortOf : aS} {s_Reader_add : aS} {s_Reader_readDatum : aS} {s_Nodes_setHead : aS} {s_Reader_readDotted : aS} {s_Nodes_setTail : aS} {J : aJ} {K : aR} {n : Nat} {L : aL} {S : List Value} {M : aM} : am_run (c_Reader_readList s_Reader_fault s_Tokens_sortOf s_Reader_add s_Reader_readDatum s_Nodes_setHead s_Reader_readDotted s_Nodes_setTail) k_Reader_readList J K (n + 1) 198 L S M = ai_iload 3 199 (am_run (c_Reader_readList s_Reader_fault s_Tokens_sortOf s_Reader_add s_Reader_readDatum s_Nodes_setHead s_Reader_readDotted s_Nodes_setTail) k_Reader_readList J K n) K 198 L S M := by rfl
set_option maxRecDepth 20000 in
theorem r_Reader_readList_199 {s_Reader_fault : aS} {s_Tokens_sortOf : aS} {s_Reader_add : aS} {s_Reader_readDatum : aS} {s_Nodes_setHead : aS} {s_Reader_readDotted : aS} {s_Nodes_setTail : aS} {J : aJ} {K : aR} {n : Nat} {L : aL} {S : List Value} {M : aM} : am_run (c_Reader_readList s_Reader_fault s_Tokens_sortOf s_Reader_add s_Reader_readDatum s_Nodes_setHead s_Reader_readDotted s_Nodes_setTail) k_Reader_readList J K (n + 1) 199 L S M = ai_iload 7 201 (am_run (c_Reader_readList s_Reader_fault s_Tokens_sortOf s_Reader_add s_Reader_readDatum s_Nodes_setHead s_Reader_readDotted s_Nodes_setTail) k_Reader_readList J K n) K 199 L S M := by rfl
set_option maxRecDepth 20000 in
theorem r_Reader_readList_201 {s_Reader_fault : aS} {s_Tokens_sortOf : aS} {s_Reader_add : aS} {s_Reader_readDatum : aS} {s_Nodes_setHead : aS} {s_Reader_readDotted : aS} {s_Nodes_setTail : aS} {J : aJ} {K : aR} {n : Nat} {L : aL} {S : List Value} {M : aM} : am_run (c_Reader_readList s_Reader_fault s_Tokens_sortOf s_Reader_add s_Reader_readDatum s_Nodes_setHead s_Reader_readDotted s_Nodes_setTail) k_Reader_readList J K (n + 1) 201 L S M = ai_callv3 0 s_Nodes_setTail 204 (am_run (c_Reader_readList s_Reader_fault s_Tokens_sortOf s_Reader_add s_Reader_readDatum s_Nodes_setHead s_Reader_readDotted s_Nodes_setTail) k_Reader_readList J K n) K 201 L S M := by rfl
set_option maxRecDepth 20000 in
theorem r_Reader_readList_204 {s_Reader_fault : aS} {s_Tokens_sortOf : aS} {s_Reader_add : aS} {s_Reader_readDatum : aS} {s_Nodes_setHead : aS} {s_Reader_readDotted : aS} {s_Nodes_setTail : aS} {J : aJ} {K : aR} {n : Nat} {L : aL} {S : List Value} {M : aM} : am_run (c_Reader_readList s_Reader_fault s_Tokens_sortOf s_Reader_add s_Reader_readDatum s_Nodes_setHead s_Reader_readDotted s_Nodes_setTail) k_Reader_readList J K (n + 1) 204 L S M = ai_iload 7 206 (am_run (c_Reader_readList s_Reader_fault s_Tokens_sortOf s_Reader_add s_Reader_readDatum s_Nodes_setHead s_Reader_readDotted s_Nodes_setTail) k_Reader_readList J K n) K 204 L S M := by rfl
set_option maxRecDepth 20000 in
theorem r_Reader_readList_206 {s_Reader_fault : aS} {s_Tokens_sortOf : aS} {s_Reader_add : aS} {s_Reader_readDatum : aS} {s_Nodes_setHead : aS} {s_Reader_readDotted : aS} {s_Nodes_setTail : aS} {J : aJ} {K : aR} {n : Nat} {L : aL} {S : List Value} {M : aM} : am_run (c_Reader_readList s_Reader_fault s_Tokens_sortOf s_Reader_add s_Reader_readDatum s_Nodes_setHead s_Reader_readDotted s_Nodes_setTail) k_Reader_readList J K (n + 1) 206 L S M = ai_istore 3 207 (am_run (c_Reader_readList s_Reader_fault s_Tokens_sortOf s_Reader_add s_Reader_readDatum s_Nodes_setHead s_Reader_readDotted s_Nodes_setTail) k_Reader_readList J K n) K 206 L S M := by rfl
set_option maxRecDepth 20000 in
theorem r_Reader_readList_207 {s_Reader_fault : aS} {s_Tokens_sortOf : aS} {s_Reader_add : aS} {s_Reader_readDatum : aS} {s_Nodes_setHead : aS} {s_Reader_readDotted : aS} {s_Nodes_setTail : aS} {J : aJ} {K : aR} {n : Nat} {L : aL} {S : List Value} {M : aM} : am_run (c_Reader_readList s_Reader_fault s_Tokens_sortOf s_Reader_add s_Reader_readDatum s_Nodes_setHead s_Reader_readDotted s_Nodes_setTail) k_Reader_readList J K (n + 1) 207 L S M = ai_iinc 4 1 210 (am_run (c_Reader_readList s_Reader_fault s_Tokens_sortOf s_Reader_add s_Reader_readDatum s_Nodes_setHead s_Reader_readDotted s_Nodes_setTail) k_Reader_readList J K n) K 207 L S M := by rfl
set_option maxRecDepth 20000 in
theorem r_Reader_readList_210 {s_Reader_fault : aS} {s_Tokens_sortOf : aS} {s_Reader_add : aS} {s_Reader_readDatum : aS} {s_Nodes_setHead : aS} {s_Reader_readDotted : aS} {s_Nodes_setTail : aS} {J : aJ} {K : aR} {n : Nat} {L : aL} {S : List Value} {M : aM} : am_run (c_Reader_readList s_Reader_fault s_Tokens_sortOf s_Reader_add s_Reader_readDatum s_Nodes_setHead s_Reader_readDotted s_Nodes_setTail) k_Reader_readList J K (n + 1) 210 L S M = ai_goto 66 (am_run (c_Reader_readList s_Reader_fault s_Tokens_sortOf s_Reader_add s_Reader_readDatum s_Nodes_setHead s_Reader_readDotted s_Nodes_setTail) k_Reader_readList J K n) K 210 L S M := by rfl
set_option maxRecDepth 20000 in
theorem r_Reader_readList_213 {s_Reader_fault : aS} {s_Tokens_sortOf : aS} {s_Reader_add : aS} {s_Reader_readDatum : aS} {s_Nodes_setHead : aS} {s_Reader_readDotted : aS} {s_Nodes_setTail : aS} {J : aJ} {K : aR} {n : Nat} {L : aL} {S : List Value} {M : aM} : am_run (c_Reader_readList s_Reader_fault s_Tokens_sortOf s_Reader_add s_Reader_readDatum s_Nodes_setHead s_Reader_readDotted s_Nodes_setTail) k_Reader_readList J K (n + 1) 213 L S M = ai_const (-1) 214 (am_run (c_Reader_readList s_Reader_fault s_Tokens_sortOf s_Reader_add s_Reader_readDatum s_Nodes_setHead s_Reader_readDotted s_Nodes_setTail) k_Reader_readList J K n) K 213 L S M := by rfl
set_option maxRecDepth 20000 in
theorem r_Reader_readList_214 {s_Reader_fault : aS} {s_Tokens_sortOf : aS} {s_Reader_add : aS} {s_Reader_readDatum : aS} {s_Nodes_setHead : aS} {s_Reader_readDotted : aS} {s_Nodes_setTail : aS} {J : aJ} {K : aR} {n : Nat} {L : aL} {S : List Value} {M : aM} : am_run (c_Reader_readList s_Reader_fault s_Tokens_sortOf s_Reader_add s_Reader_readDatum s_Nodes_setHead s_Reader_readDotted s_Nodes_setTail) k_Reader_readList J K (n + 1) 214 L S M = ai_iret (am_run (c_Reader_readList s_Reader_fault s_Tokens_sortOf s_Reader_add s_Reader_readDatum s_Nodes_setHead s_Reader_readDotted s_Nodes_setTail) k_Reader_readList J K n) K 214 L S M := by rfl
def c_Reader_readDotted (s_Reader_readDatum : aS) (s_Tokens_sortOf : aS) (s_Reader_fault : aS) : List (Nat × aI) := [
  (0, ai_aload 0 1),
  (1, ai_dup 2),
  (2, ai_getf 1 3 5),
  (5, ai_const 1 6),
  (6, ai_iadd 7),
  (7, ai_putf 1 3 10),
  (10, ai_aload 0 11),
  (11, ai_iload 1 12),
  (12, ai_const 1 13),
  (13, ai_iadd 14),
  (14, ai_callv2 1 s_Reader_readDatum 17),
  (17, ai_istore 2 18),
  (18, ai_iload 2 19),
  (19, ai_const (-1) 20),
  (20, ai_cmpne 25 23),
  (23, ai_const (-1) 24),
  (24, ai_iret),
  (25, ai_aload 0 26),
  (26, ai_dup 27),
  (27, ai_getf 1 3 30),
  (30, ai_const 1 31),
  (31, ai_iadd 32),
  (32, ai_putf 1 3 35),
  (35, ai_aload 0 36),
  (36, ai_getf 1 2 39),
  (39, ai_aload 0 40),
  (40, ai_getf 1 3 43),
  (43, ai_callv2 3 s_Tokens_sortOf 46),
  (46, ai_const 7 48),
  (48, ai_cmpne 55 51),
  (51, ai_iload 2 52),
  (52, ai_goto 59),
  (55, ai_aload 0 56),
  (56, ai_callv1 1 s_Reader_fault 59),
  (59, ai_iret)]
set_option maxRecDepth 100000 in
set_option maxHeartbeats 4000000 in
theorem tb_Reader_readDotted {G : aG} {d : Nat} {s_Reader_readDatum : aS} {d_Reader_readDatum : Nat} (h_Reader_readDatum : am_Sp G Y_Reader_readDatum d_Reader_readDatum s_Reader_readDatum) (l_Reader_readDatum : d_Reader_readDatum < d) {s_Tokens_sortOf : aS} {d_Tokens_sortOf : Nat} (h_Tokens_sortOf : am_Sp G Y_Tokens_sortOf d_Tokens_sortOf s_Tokens_sortOf) (l_Tokens_sortOf : d_Tokens_sortOf < d) {s_Reader_fault : aS} {d_Reader_fault : Nat} (h_Reader_fault : am_Sp G Y_Reader_fault d_Reader_fault s_Reader_fault) (l_Reader_fault : d_Reader_fault < d) : am_tab G Y_Reader_readDotted d (c_Reader_readDotted s_Reader_readDatum s_Tokens_sortOf s_Reader_fault) := by
  intro K p e s m args below meth c C
  exact ⟨as_aload_n C (pc := 0) (q := 0) (by decide +kernel) rfl rfl,
    as_dup C (pc := 1) (by decide +kernel) rfl,
    as_getf C (pc := 2) (T := T_Reader) (N := 5) rfl in_Reader (by decide) rfl w_179 (by decide +kernel) rfl,
    as_iconst C (pc := 5) (n := 1) (by decide +kernel) (by decide +kernel) rfl,
    as_iadd C (pc := 6) (by decide +kernel) rfl,
    as_putf C (pc := 7) t_Reader (T := T_Reader) (N := 5) rfl in_Reader tok_Reader nm_Reader (by decide) rfl rfl (by decide +kernel) w_179 (by decide +kernel) rfl,
    as_aload_n C (pc := 10) (q := 0) (by decide +kernel) rfl rfl,
    as_iload_n C (pc := 11) (q := 1) (by decide +kernel) rfl rfl,
    as_iconst C (pc := 12) (n := 1) (by decide +kernel) (by decide +kernel) rfl,
    as_iadd C (pc := 13) (by decide +kernel) rfl,
    as_callv2 C (pc := 14) h_Reader_readDatum (T := T_Reader) (N := 5) rfl w_308 w_74 w_307 w_13 w_305 hy_Reader_readDatum (am_rm_of l_Reader_readDatum (by decide)) (by decide +kernel) rfl,
    as_istore_n C (pc := 17) (q := 2) (by decide +kernel) rfl (by decide) rfl,
    as_iload_n C (pc := 18) (q := 2) (by decide +kernel) rfl rfl,
    as_iconst C (pc := 19) (n := (-1)) (by decide +kernel) (by decide +kernel) rfl,
    as_cmpne C (pc := 20) (off := 5) (by decide +kernel) (by decide) rfl,
    as_iconst C (pc := 23) (n := (-1)) (by decide +kernel) (by decide +kernel) rfl,
    as_iret C (pc := 24) rfl (by decide +kernel),
    as_aload_n C (pc := 25) (q := 0) (by decide +kernel) rfl rfl,
    as_dup C (pc := 26) (by decide +kernel) rfl,
    as_getf C (pc := 27) (T := T_Reader) (N := 5) rfl in_Reader (by decide) rfl w_179 (by decide +kernel) rfl,
    as_iconst C (pc := 30) (n := 1) (by decide +kernel) (by decide +kernel) rfl,
    as_iadd C (pc := 31) (by decide +kernel) rfl,
    as_putf C (pc := 32) t_Reader (T := T_Reader) (N := 5) rfl in_Reader tok_Reader nm_Reader (by decide) rfl rfl (by decide +kernel) w_179 (by decide +kernel) rfl,
    as_aload_n C (pc := 35) (q := 0) (by decide +kernel) rfl rfl,
    as_getf C (pc := 36) (T := T_Reader) (N := 5) rfl in_Reader (by decide) rfl w_178 (by decide +kernel) rfl,
    as_aload_n C (pc := 39) (q := 0) (by decide +kernel) rfl rfl,
    as_getf C (pc := 40) (T := T_Reader) (N := 5) rfl in_Reader (by decide) rfl w_179 (by decide +kernel) rfl,
    as_callv2N C (pc := 43) h_Tokens_sortOf (T := T_Tokens) (N := 4) rfl w_304 w_75 w_303 w_12 w_301 hy_Tokens_sortOf (am_rm_of l_Tokens_sortOf (by decide)) (by decide +kernel) rfl,
    as_bipush C (pc := 46) (n := 7) (by decide +kernel) (by decide +kernel) rfl,
    as_cmpne C (pc := 48) (off := 7) (by decide +kernel) (by decide) rfl,
    as_iload_n C (pc := 51) (q := 2) (by decide +kernel) rfl rfl,
    as_goto C (pc := 52) (off := 7) (by decide +kernel) (by decide),
    as_aload_n C (pc := 55) (q := 0) (by decide +kernel) rfl rfl,
    as_callv1 C (pc := 56) h_Reader_fault (T := T_Reader) (N := 5) rfl w_333 w_74 w_332 w_19 w_330 hy_Reader_fault (am_rm_of l_Reader_fault (by decide)) (by decide +kernel) rfl,
    as_iret C (pc := 59) rfl (by decide +kernel), trivial⟩
abbrev k_Reader_readDotted : List Nat := []
theorem r_Reader_readDotted_0 {s_Reader_readDatum : aS} {s_Tokens_sortOf : aS} {s_Reader_fault : aS} {J : aJ} {K : aR} {n : Nat} {L : aL} {S : List Value} {M : aM} : am_run (c_Reader_readDotted s_Reader_readDatum s_Tokens_sortOf s_Reader_fault) k_Reader_readDotted J K (n + 1) 0 L S M = ai_aload 0 1 (am_run (c_Reader_readDotted s_Reader_readDatum s_Tokens_sortOf s_Reader_fault) k_Reader_readDotted J K n) K 0 L S M := by rfl
theorem r_Reader_readDotted_1 {s_Reader_readDatum : aS} {s_Tokens_sortOf : aS} {s_Reader_fault : aS} {J : aJ} {K : aR} {n : Nat} {L : aL} {S : List Value} {M : aM} : am_run (c_Reader_readDotted s_Reader_readDatum s_Tokens_sortOf s_Reader_fault) k_Reader_readDotted J K (n + 1) 1 L S M = ai_dup 2 (am_run (c_Reader_readDotted s_Reader_readDatum s_Tokens_sortOf s_Reader_fault) k_Reader_readDotted J K n) K 1 L S M := by rfl
theorem r_Reader_readDotted_2 {s_Reader_readDatum : aS} {s_Tokens_sortOf : aS} {s_Reader_fault : aS} {J : aJ} {K : aR} {n : Nat} {L : aL} {S : List Value} {M : aM} : am_run (c_Reader_readDotted s_Reader_readDatum s_Tokens_sortOf s_Reader_fault) k_Reader_readDotted J K (n + 1) 2 L S M = ai_getf 1 3 5 (am_run (c_Reader_readDotted s_Reader_readDatum s_Tokens_sortOf s_Reader_fault) k_Reader_readDotted J K n) K 2 L S M := by rfl
theorem r_Reader_readDotted_5 {s_Reader_readDatum : aS} {s_Tokens_sortOf : aS} {s_Reader_fault : aS} {J : aJ} {K : aR} {n : Nat} {L : aL} {S : List Value} {M : aM} : am_run (c_Reader_readDotted s_Reader_readDatum s_Tokens_sortOf s_Reader_fault) k_Reader_readDotted J K (n + 1) 5 L S M = ai_const 1 6 (am_run (c_Reader_readDotted s_Reader_readDatum s_Tokens_sortOf s_Reader_fault) k_Reader_readDotted J K n) K 5 L S M := by rfl
theorem r_Reader_readDotted_6 {s_Reader_readDatum : aS} {s_Tokens_sortOf : aS} {s_Reader_fault : aS} {J : aJ} {K : aR} {n : Nat} {L : aL} {S : List Value} {M : aM} : am_run (c_Reader_readDotted s_Reader_readDatum s_Tokens_sortOf s_Reader_fault) k_Reader_readDotted J K (n + 1) 6 L S M = ai_iadd 7 (am_run (c_Reader_readDotted s_Reader_readDatum s_Tokens_sortOf s_Reader_fault) k_Reader_readDotted J K n) K 6 L S M := by rfl
theorem r_Reader_readDotted_7 {s_Reader_readDatum : aS} {s_Tokens_sortOf : aS} {s_Reader_fault : aS} {J : aJ} {K : aR} {n : Nat} {L : aL} {S : List Value} {M : aM} : am_run (c_Reader_readDotted s_Reader_readDatum s_Tokens_sortOf s_Reader_fault) k_Reader_readDotted J K (n + 1) 7 L S M = ai_putf 1 3 10 (am_run (c_Reader_readDotted s_Reader_readDatum s_Tokens_sortOf s_Reader_fault) k_Reader_readDotted J K n) K 7 L S M := by rfl
theorem r_Reader_readDotted_10 {s_Reader_readDatum : aS} {s_Tokens_sortOf : aS} {s_Reader_fault : aS} {J : aJ} {K : aR} {n : Nat} {L : aL} {S : List Value} {M : aM} : am_run (c_Reader_readDotted s_Reader_readDatum s_Tokens_sortOf s_Reader_fault) k_Reader_readDotted J K (n + 1) 10 L S M = ai_aload 0 11 (am_run (c_Reader_readDotted s_Reader_readDatum s_Tokens_sortOf s_Reader_fault) k_Reader_readDotted J K n) K 10 L S M := by rfl
theorem r_Reader_readDotted_11 {s_Reader_readDatum : aS} {s_Tokens_sortOf : aS} {s_Reader_fault : aS} {J : aJ} {K : aR} {n : Nat} {L : aL} {S : List Value} {M : aM} : am_run (c_Reader_readDotted s_Reader_readDatum s_Tokens_sortOf s_Reader_fault) k_Reader_readDotted J K (n + 1) 11 L S M = ai_iload 1 12 (am_run (c_Reader_readDotted s_Reader_readDatum s_Tokens_sortOf s_Reader_fault) k_Reader_readDotted J K n) K 11 L S M := by rfl
theorem r_Reader_readDotted_12 {s_Reader_readDatum : aS} {s_Tokens_sortOf : aS} {s_Reader_fault : aS} {J : aJ} {K : aR} {n : Nat} {L : aL} {S : List Value} {M : aM} : am_run (c_Reader_readDotted s_Reader_readDatum s_Tokens_sortOf s_Reader_fault) k_Reader_readDotted J K (n + 1) 12 L S M = ai_const 1 13 (am_run (c_Reader_readDotted s_Reader_readDatum s_Tokens_sortOf s_Reader_fault) k_Reader_readDotted J K n) K 12 L S M := by rfl
theorem r_Reader_readDotted_13 {s_Reader_readDatum : aS} {s_Tokens_sortOf : aS} {s_Reader_fault : aS} {J : aJ} {K : aR} {n : Nat} {L : aL} {S : List Value} {M : aM} : am_run (c_Reader_readDotted s_Reader_readDatum s_Tokens_sortOf s_Reader_fault) k_Reader_readDotted J K (n + 1) 13 L S M = ai_iadd 14 (am_run (c_Reader_readDotted s_Reader_readDatum s_Tokens_sortOf s_Reader_fault) k_Reader_readDotted J K n) K 13 L S M := by rfl
theorem r_Reader_readDotted_14 {s_Reader_readDatum : aS} {s_Tokens_sortOf : aS} {s_Reader_fault : aS} {J : aJ} {K : aR} {n : Nat} {L : aL} {S : List Value} {M : aM} : am_run (c_Reader_readDotted s_Reader_readDatum s_Tokens_sortOf s_Reader_fault) k_Reader_readDotted J K (n + 1) 14 L S M = ai_callv2 1 s_Reader_readDatum 17 (am_run (c_Reader_readDotted s_Reader_readDatum s_Tokens_sortOf s_Reader_fault) k_Reader_readDotted J K n) K 14 L S M := by rfl
theorem r_Reader_readDotted_17 {s_Reader_readDatum : aS} {s_Tokens_sortOf : aS} {s_Reader_fault : aS} {J : aJ} {K : aR} {n : Nat} {L : aL} {S : List Value} {M : aM} : am_run (c_Reader_readDotted s_Reader_readDatum s_Tokens_sortOf s_Reader_fault) k_Reader_readDotted J K (n + 1) 17 L S M = ai_istore 2 18 (am_run (c_Reader_readDotted s_Reader_readDatum s_Tokens_sortOf s_Reader_fault) k_Reader_readDotted J K n) K 17 L S M := by rfl
theorem r_Reader_readDotted_18 {s_Reader_readDatum : aS} {s_Tokens_sortOf : aS} {s_Reader_fault : aS} {J : aJ} {K : aR} {n : Nat} {L : aL} {S : List Value} {M : aM} : am_run (c_Reader_readDotted s_Reader_readDatum s_Tokens_sortOf s_Reader_fault) k_Reader_readDotted J K (n + 1) 18 L S M = ai_iload 2 19 (am_run (c_Reader_readDotted s_Reader_readDatum s_Tokens_sortOf s_Reader_fault) k_Reader_readDotted J K n) K 18 L S M := by rfl
theorem r_Reader_readDotted_19 {s_Reader_readDatum : aS} {s_Tokens_sortOf : aS} {s_Reader_fault : aS} {J : aJ} {K : aR} {n : Nat} {L : aL} {S : List Value} {M : aM} : am_run (c_Reader_readDotted s_Reader_readDatum s_Tokens_sortOf s_Reader_fault) k_Reader_readDotted J K (n + 1) 19 L S M = ai_const (-1) 20 (am_run (c_Reader_readDotted s_Reader_readDatum s_Tokens_sortOf s_Reader_fault) k_Reader_readDotted J K n) K 19 L S M := by rfl
theorem r_Reader_readDotted_20 {s_Reader_readDatum : aS} {s_Tokens_sortOf : aS} {s_Reader_fault : aS} {J : aJ} {K : aR} {n : Nat} {L : aL} {S : List Value} {M : aM} : am_run (c_Reader_readDotted s_Reader_readDatum s_Tokens_sortOf s_Reader_fault) k_Reader_readDotted J K (n + 1) 20 L S M = ai_cmpne 25 23 (am_run (c_Reader_readDotted s_Reader_readDatum s_Tokens_sortOf s_Reader_fault) k_Reader_readDotted J K n) K 20 L S M := by rfl
theorem r_Reader_readDotted_23 {s_Reader_readDatum : aS} {s_Tokens_sortOf : aS} {s_Reader_fault : aS} {J : aJ} {K : aR} {n : Nat} {L : aL} {S : List Value} {M : aM} : am_run (c_Reader_readDotted s_Reader_readDatum s_Tokens_sortOf s_Reader_fault) k_Reader_readDotted J K (n + 1) 23 L S M = ai_const (-1) 24 (am_run (c_Reader_readDotted s_Reader_readDatum s_Tokens_sortOf s_Reader_fault) k_Reader_readDotted J K n) K 23 L S M := by rfl
theorem r_Reader_readDotted_24 {s_Reader_readDatum : aS} {s_Tokens_sortOf : aS} {s_Reader_fault : aS} {J : aJ} {K : aR} {n : Nat} {L : aL} {S : List Value} {M : aM} : am_run (c_Reader_readDotted s_Reader_readDatum s_Tokens_sortOf s_Reader_fault) k_Reader_readDotted J K (n + 1) 24 L S M = ai_iret (am_run (c_Reader_readDotted s_Reader_readDatum s_Tokens_sortOf s_Reader_fault) k_Reader_readDotted J K n) K 24 L S M := by rfl
theorem r_Reader_readDotted_25 {s_Reader_readDatum : aS} {s_Tokens_sortOf : aS} {s_Reader_fault : aS} {J : aJ} {K : aR} {n : Nat} {L : aL} {S : List Value} {M : aM} : am_run (c_Reader_readDotted s_Reader_readDatum s_Tokens_sortOf s_Reader_fault) k_Reader_readDotted J K (n + 1) 25 L S M = ai_aload 0 26 (am_run (c_Reader_readDotted s_Reader_readDatum s_Tokens_sortOf s_Reader_fault) k_Reader_readDotted J K n) K 25 L S M := by rfl
theorem r_Reader_readDotted_26 {s_Reader_readDatum : aS} {s_Tokens_sortOf : aS} {s_Reader_fault : aS} {J : aJ} {K : aR} {n : Nat} {L : aL} {S : List Value} {M : aM} : am_run (c_Reader_readDotted s_Reader_readDatum s_Tokens_sortOf s_Reader_fault) k_Reader_readDotted J K (n + 1) 26 L S M = ai_dup 27 (am_run (c_Reader_readDotted s_Reader_readDatum s_Tokens_sortOf s_Reader_fault) k_Reader_readDotted J K n) K 26 L S M := by rfl
theorem r_Reader_readDotted_27 {s_Reader_readDatum : aS} {s_Tokens_sortOf : aS} {s_Reader_fault : aS} {J : aJ} {K : aR} {n : Nat} {L : aL} {S : List Value} {M : aM} : am_run (c_Reader_readDotted s_Reader_readDatum s_Tokens_sortOf s_Reader_fault) k_Reader_readDotted J K (n + 1) 27 L S M = ai_getf 1 3 30 (am_run (c_Reader_readDotted s_Reader_readDatum s_Tokens_sortOf s_Reader_fault) k_Reader_readDotted J K n) K 27 L S M := by rfl
theorem r_Reader_readDotted_30 {s_Reader_readDatum : aS} {s_Tokens_sortOf : aS} {s_Reader_fault : aS} {J : aJ} {K : aR} {n : Nat} {L : aL} {S : List Value} {M : aM} : am_run (c_Reader_readDotted s_Reader_readDatum s_Tokens_sortOf s_Reader_fault) k_Reader_readDotted J K (n + 1) 30 L S M = ai_const 1 31 (am_run (c_Reader_readDotted s_Reader_readDatum s_Tokens_sortOf s_Reader_fault) k_Reader_readDotted J K n) K 30 L S M := by rfl
theorem r_Reader_readDotted_31 {s_Reader_readDatum : aS} {s_Tokens_sortOf : aS} {s_Reader_fault : aS} {J : aJ} {K : aR} {n : Nat} {L : aL} {S : List Value} {M : aM} : am_run (c_Reader_readDotted s_Reader_readDatum s_Tokens_sortOf s_Reader_fault) k_Reader_readDotted J K (n + 1) 31 L S M = ai_iadd 32 (am_run (c_Reader_readDotted s_Reader_readDatum s_Tokens_sortOf s_Reader_fault) k_Reader_readDotted J K n) K 31 L S M := by rfl
theorem r_Reader_readDotted_32 {s_Reader_readDatum : aS} {s_Tokens_sortOf : aS} {s_Reader_fault : aS} {J : aJ} {K : aR} {n : Nat} {L : aL} {S : List Value} {M : aM} : am_run (c_Reader_readDotted s_Reader_readDatum s_Tokens_sortOf s_Reader_fault) k_Reader_readDotted J K (n + 1) 32 L S M = ai_putf 1 3 35 (am_run (c_Reader_readDotted s_Reader_readDatum s_Tokens_sortOf s_Reader_fault) k_Reader_readDotted J K n) K 32 L S M := by rfl
theorem r_Reader_readDotted_35 {s_Reader_readDatum : aS} {s_Tokens_sortOf : aS} {s_Reader_fault : aS} {J : aJ} {K : aR} {n : Nat} {L : aL} {S : List Value} {M : aM} : am_run (c_Reader_readDotted s_Reader_readDatum s_Tokens_sortOf s_Reader_fault) k_Reader_readDotted J K (n + 1) 35 L S M = ai_aload 0 36 (am_run (c_Reader_readDotted s_Reader_readDatum s_Tokens_sortOf s_Reader_fault) k_Reader_readDotted J K n) K 35 L S M := by rfl
theorem r_Reader_readDotted_36 {s_Reader_readDatum : aS} {s_Tokens_sortOf : aS} {s_Reader_fault : aS} {J : aJ} {K : aR} {n : Nat} {L : aL} {S : List Value} {M : aM} : am_run (c_Reader_readDotted s_Reader_readDatum s_Tokens_sortOf s_Reader_fault) k_Reader_readDotted J K (n + 1) 36 L S M = ai_getf 1 2 39 (am_run (c_Reader_readDotted s_Reader_readDatum s_Tokens_sortOf s_Reader_fault) k_Reader_readDotted J K n) K 36 L S M := by rfl
theorem r_Reader_readDotted_39 {s_Reader_readDatum : aS} {s_Tokens_sortOf : aS} {s_Reader_fault : aS} {J : aJ} {K : aR} {n : Nat} {L : aL} {S : List Value} {M : aM} : am_run (c_Reader_readDotted s_Reader_readDatum s_Tokens_sortOf s_Reader_fault) k_Reader_readDotted J K (n + 1) 39 L S M = ai_aload 0 40 (am_run (c_Reader_readDotted s_Reader_readDatum s_Tokens_sortOf s_Reader_fault) k_Reader_readDotted J K n) K 39 L S M := by rfl
theorem r_Reader_readDotted_40 {s_Reader_readDatum : aS} {s_Tokens_sortOf : aS} {s_Reader_fault : aS} {J : aJ} {K : aR} {n : Nat} {L : aL} {S : List Value} {M : aM} : am_run (c_Reader_readDotted s_Reader_readDatum s_Tokens_sortOf s_Reader_fault) k_Reader_readDotted J K (n + 1) 40 L S M = ai_getf 1 3 43 (am_run (c_Reader_readDotted s_Reader_readDatum s_Tokens_sortOf s_Reader_fault) k_Reader_readDotted J K n) K 40 L S M := by rfl
theorem r_Reader_readDotted_43 {s_Reader_readDatum : aS} {s_Tokens_sortOf : aS} {s_Reader_fault : aS} {J : aJ} {K : aR} {n : Nat} {L : aL} {S : List Value} {M : aM} : am_run (c_Reader_readDotted s_Reader_readDatum s_Tokens_sortOf s_Reader_fault) k_Reader_readDotted J K (n + 1) 43 L S M = ai_callv2 3 s_Tokens_sortOf 46 (am_run (c_Reader_readDotted s_Reader_readDatum s_Tokens_sortOf s_Reader_fault) k_Reader_readDotted J K n) K 43 L S M := by rfl
theorem r_Reader_readDotted_46 {s_Reader_readDatum : aS} {s_Tokens_sortOf : aS} {s_Reader_fault : aS} {J : aJ} {K : aR} {n : Nat} {L : aL} {S : List Value} {M : aM} : am_run (c_Reader_readDotted s_Reader_readDatum s_Tokens_sortOf s_Reader_fault) k_Reader_readDotted J K (n + 1) 46 L S M = ai_const 7 48 (am_run (c_Reader_readDotted s_Reader_readDatum s_Tokens_sortOf s_Reader_fault) k_Reader_readDotted J K n) K 46 L S M := by rfl
theorem r_Reader_readDotted_48 {s_Reader_readDatum : aS} {s_Tokens_sortOf : aS} {s_Reader_fault : aS} {J : aJ} {K : aR} {n : Nat} {L : aL} {S : List Value} {M : aM} : am_run (c_Reader_readDotted s_Reader_readDatum s_Tokens_sortOf s_Reader_fault) k_Reader_readDotted J K (n + 1) 48 L S M = ai_cmpne 55 51 (am_run (c_Reader_readDotted s_Reader_readDatum s_Tokens_sortOf s_Reader_fault) k_Reader_readDotted J K n) K 48 L S M := by rfl
theorem r_Reader_readDotted_51 {s_Reader_readDatum : aS} {s_Tokens_sortOf : aS} {s_Reader_fault : aS} {J : aJ} {K : aR} {n : Nat} {L : aL} {S : List Value} {M : aM} : am_run (c_Reader_readDotted s_Reader_readDatum s_Tokens_sortOf s_Reader_fault) k_Reader_readDotted J K (n + 1) 51 L S M = ai_iload 2 52 (am_run (c_Reader_readDotted s_Reader_readDatum s_Tokens_sortOf s_Reader_fault) k_Reader_readDotted J K n) K 51 L S M := by rfl
theorem r_Reader_readDotted_52 {s_Reader_readDatum : aS} {s_Tokens_sortOf : aS} {s_Reader_fault : aS} {J : aJ} {K : aR} {n : Nat} {L : aL} {S : List Value} {M : aM} : am_run (c_Reader_readDotted s_Reader_readDatum s_Tokens_sortOf s_Reader_fault) k_Reader_readDotted J K (n + 1) 52 L S M = ai_goto 59 (am_run (c_Reader_readDotted s_Reader_readDatum s_Tokens_sortOf s_Reader_fault) k_Reader_readDotted J K n) K 52 L S M := by rfl
theorem r_Reader_readDotted_55 {s_Reader_readDatum : aS} {s_Tokens_sortOf : aS} {s_Reader_fault : aS} {J : aJ} {K : aR} {n : Nat} {L : aL} {S : List Value} {M : aM} : am_run (c_Reader_readDotted s_Reader_readDatum s_Tokens_sortOf s_Reader_fault) k_Reader_readDotted J K (n + 1) 55 L S M = ai_aload 0 56 (am_run (c_Reader_readDotted s_Reader_readDatum s_Tokens_sortOf s_Reader_fault) k_Reader_readDotted J K n) K 55 L S M := by rfl
theorem r_Reader_readDotted_56 {s_Reader_readDatum : aS} {s_Tokens_sortOf : aS} {s_Reader_fault : aS} {J : aJ} {K : aR} {n : Nat} {L : aL} {S : List Value} {M : aM} : am_run (c_Reader_readDotted s_Reader_readDatum s_Tokens_sortOf s_Reader_fault) k_Reader_readDotted J K (n + 1) 56 L S M = ai_callv1 1 s_Reader_fault 59 (am_run (c_Reader_readDotted s_Reader_readDatum s_Tokens_sortOf s_Reader_fault) k_Reader_readDotted J K n) K 56 L S M := by rfl
theorem r_Reader_readDotted_59 {s_Reader_readDatum : aS} {s_Tokens_sortOf : aS} {s_Reader_fault : aS} {J : aJ} {K : aR} {n : Nat} {L : aL} {S : List Value} {M : aM} : am_run (c_Reader_readDotted s_Reader_readDatum s_Tokens_sortOf s_Reader_fault) k_Reader_readDotted J K (n + 1) 59 L S M = ai_iret (am_run (c_Reader_readDotted s_Reader_readDatum s_Tokens_sortOf s_Reader_fault) k_Reader_readDotted J K n) K 59 L S M := by rfl
def c_Reader_add (s_Nodes_add : aS) (s_Reader_fault : aS) : List (Nat × aI) := [
  (0, ai_aload 0 1),
  (1, ai_getf 1 1 4),
  (4, ai_iload 1 5),
  (5, ai_callv2 0 s_Nodes_add 8),
  (8, ai_istore 2 9),
  (9, ai_iload 2 10),
  (10, ai_const (-1) 11),
  (11, ai_cmpne 21 14),
  (14, ai_aload 0 15),
  (15, ai_callv1 1 s_Reader_fault 18),
  (18, ai_goto 22),
  (21, ai_iload 2 22),
  (22, ai_iret)]
set_option maxRecDepth 100000 in
set_option maxHeartbeats 4000000 in
theorem tb_Reader_add {G : aG} {d : Nat} {s_Nodes_add : aS} {d_Nodes_add : Nat} (h_Nodes_add : am_Sp G Y_Nodes_add d_Nodes_add s_Nodes_add) (l_Nodes_add : d_Nodes_add < d) {s_Reader_fault : aS} {d_Reader_fault : Nat} (h_Reader_fault : am_Sp G Y_Reader_fault d_Reader_fault s_Reader_fault) (l_Reader_fault : d_Reader_fault < d) : am_tab G Y_Reader_add d (c_Reader_add s_Nodes_add s_Reader_fault) := by
  intro K p e s m args below meth c C
  exact ⟨as_aload_n C (pc := 0) (q := 0) (by decide +kernel) rfl rfl,
    as_getf C (pc := 1) (T := T_Reader) (N := 5) rfl in_Reader (by decide) rfl w_177 (by decide +kernel) rfl,
    as_iload_n C (pc := 4) (q := 1) (by decide +kernel) rfl rfl,
    as_callv2N C (pc := 5) h_Nodes_add (T := T_Nodes) (N := 10) rfl w_329 w_72 w_328 w_18 w_326 hy_Nodes_add (am_rm_of l_Nodes_add (by decide)) (by decide +kernel) rfl,
    as_istore_n C (pc := 8) (q := 2) (by decide +kernel) rfl (by decide) rfl,
    as_iload_n C (pc := 9) (q := 2) (by decide +kernel) rfl rfl,
    as_iconst C (pc := 10) (n := (-1)) (by decide +kernel) (by decide +kernel) rfl,
    as_cmpne C (pc := 11) (off := 10) (by decide +kernel) (by decide) rfl,
    as_aload_n C (pc := 14) (q := 0) (by decide +kernel) rfl rfl,
    as_callv1 C (pc := 15) h_Reader_fault (T := T_Reader) (N := 5) rfl w_333 w_74 w_332 w_19 w_330 hy_Reader_fault (am_rm_of l_Reader_fault (by decide)) (by decide +kernel) rfl,
    as_goto C (pc := 18) (off := 4) (by decide +kernel) (by decide),
    as_iload_n C (pc := 21) (q := 2) (by decide +kernel) rfl rfl,
    as_iret C (pc := 22) rfl (by decide +kernel), trivial⟩
abbrev k_Reader_add : List Nat := []
theorem r_Reader_add_0 {s_Nodes_add : aS} {s_Reader_fault : aS} {J : aJ} {K : aR} {n : Nat} {L : aL} {S : List Value} {M : aM} : am_run (c_Reader_add s_Nodes_add s_Reader_fault) k_Reader_add J K (n + 1) 0 L S M = ai_aload 0 1 (am_run (c_Reader_add s_Nodes_add s_Reader_fault) k_Reader_add J K n) K 0 L S M := by rfl
theorem r_Reader_add_1 {s_Nodes_add : aS} {s_Reader_fault : aS} {J : aJ} {K : aR} {n : Nat} {L : aL} {S : List Value} {M : aM} : am_run (c_Reader_add s_Nodes_add s_Reader_fault) k_Reader_add J K (n + 1) 1 L S M = ai_getf 1 1 4 (am_run (c_Reader_add s_Nodes_add s_Reader_fault) k_Reader_add J K n) K 1 L S M := by rfl
theorem r_Reader_add_4 {s_Nodes_add : aS} {s_Reader_fault : aS} {J : aJ} {K : aR} {n : Nat} {L : aL} {S : List Value} {M : aM} : am_run (c_Reader_add s_Nodes_add s_Reader_fault) k_Reader_add J K (n + 1) 4 L S M = ai_iload 1 5 (am_run (c_Reader_add s_Nodes_add s_Reader_fault) k_Reader_add J K n) K 4 L S M := by rfl
theorem r_Reader_add_5 {s_Nodes_add : aS} {s_Reader_fault : aS} {J : aJ} {K : aR} {n : Nat} {L : aL} {S : List Value} {M : aM} : am_run (c_Reader_add s_Nodes_add s_Reader_fault) k_Reader_add J K (n + 1) 5 L S M = ai_callv2 0 s_Nodes_add 8 (am_run (c_Reader_add s_Nodes_add s_Reader_fault) k_Reader_add J K n) K 5 L S M := by rfl
theorem r_Reader_add_8 {s_Nodes_add : aS} {s_Reader_fault : aS} {J : aJ} {K : aR} {n : Nat} {L : aL} {S : List Value} {M : aM} : am_run (c_Reader_add s_Nodes_add s_Reader_fault) k_Reader_add J K (n + 1) 8 L S M = ai_istore 2 9 (am_run (c_Reader_add s_Nodes_add s_Reader_fault) k_Reader_add J K n) K 8 L S M := by rfl
theorem r_Reader_add_9 {s_Nodes_add : aS} {s_Reader_fault : aS} {J : aJ} {K : aR} {n : Nat} {L : aL} {S : List Value} {M : aM} : am_run (c_Reader_add s_Nodes_add s_Reader_fault) k_Reader_add J K (n + 1) 9 L S M = ai_iload 2 10 (am_run (c_Reader_add s_Nodes_add s_Reader_fault) k_Reader_add J K n) K 9 L S M := by rfl
theorem r_Reader_add_10 {s_Nodes_add : aS} {s_Reader_fault : aS} {J : aJ} {K : aR} {n : Nat} {L : aL} {S : List Value} {M : aM} : am_run (c_Reader_add s_Nodes_add s_Reader_fault) k_Reader_add J K (n + 1) 10 L S M = ai_const (-1) 11 (am_run (c_Reader_add s_Nodes_add s_Reader_fault) k_Reader_add J K n) K 10 L S M := by rfl
theorem r_Reader_add_11 {s_Nodes_add : aS} {s_Reader_fault : aS} {J : aJ} {K : aR} {n : Nat} {L : aL} {S : List Value} {M : aM} : am_run (c_Reader_add s_Nodes_add s_Reader_fault) k_Reader_add J K (n + 1) 11 L S M = ai_cmpne 21 14 (am_run (c_Reader_add s_Nodes_add s_Reader_fault) k_Reader_add J K n) K 11 L S M := by rfl
theorem r_Reader_add_14 {s_Nodes_add : aS} {s_Reader_fault : aS} {J : aJ} {K : aR} {n : Nat} {L : aL} {S : List Value} {M : aM} : am_run (c_Reader_add s_Nodes_add s_Reader_fault) k_Reader_add J K (n + 1) 14 L S M = ai_aload 0 15 (am_run (c_Reader_add s_Nodes_add s_Reader_fault) k_Reader_add J K n) K 14 L S M := by rfl
theorem r_Reader_add_15 {s_Nodes_add : aS} {s_Reader_fault : aS} {J : aJ} {K : aR} {n : Nat} {L : aL} {S : List Value} {M : aM} : am_run (c_Reader_add s_Nodes_add s_Reader_fault) k_Reader_add J K (n + 1) 15 L S M = ai_callv1 1 s_Reader_fault 18 (am_run (c_Reader_add s_Nodes_add s_Reader_fault) k_Reader_add J K n) K 15 L S M := by rfl
theorem r_Reader_add_18 {s_Nodes_add : aS} {s_Reader_fault : aS} {J : aJ} {K : aR} {n : Nat} {L : aL} {S : List Value} {M : aM} : am_run (c_Reader_add s_Nodes_add s_Reader_fault) k_Reader_add J K (n + 1) 18 L S M = ai_goto 22 (am_run (c_Reader_add s_Nodes_add s_Reader_fault) k_Reader_add J K n) K 18 L S M := by rfl
theorem r_Reader_add_21 {s_Nodes_add : aS} {s_Reader_fault : aS} {J : aJ} {K : aR} {n : Nat} {L : aL} {S : List Value} {M : aM} : am_run (c_Reader_add s_Nodes_add s_Reader_fault) k_Reader_add J K (n + 1) 21 L S M = ai_iload 2 22 (am_run (c_Reader_add s_Nodes_add s_Reader_fault) k_Reader_add J K n) K 21 L S M := by rfl
theorem r_Reader_add_22 {s_Nodes_add : aS} {s_Reader_fault : aS} {J : aJ} {K : aR} {n : Nat} {L : aL} {S : List Value} {M : aM} : am_run (c_Reader_add s_Nodes_add s_Reader_fault) k_Reader_add J K (n + 1) 22 L S M = ai_iret (am_run (c_Reader_add s_Nodes_add s_Reader_fault) k_Reader_add J K n) K 22 L S M := by rfl
def c_Reader_fault (s_Tokens_startOf : aS) : List (Nat × aI) := [
  (0, ai_aload 0 1),
  (1, ai_aload 0 2),
  (2, ai_getf 1 2 5),
  (5, ai_aload 0 6),
  (6, ai_getf 1 3 9),
  (9, ai_callv2 3 s_Tokens_startOf 12),
  (12, ai_putf 1 4 15),
  (15, ai_const (-1) 16),
  (16, ai_iret)]
set_option maxRecDepth 100000 in
set_option maxHeartbeats 4000000 in
theorem tb_Reader_fault {G : aG} {d : Nat} {s_Tokens_startOf : aS} {d_Tokens_startOf : Nat} (h_Tokens_startOf : am_Sp G Y_Tokens_startOf d_Tokens_startOf s_Tokens_startOf) (l_Tokens_startOf : d_Tokens_startOf < d) : am_tab G Y_Reader_fault d (c_Reader_fault s_Tokens_startOf) := by
  intro K p e s m args below meth c C
  exact ⟨as_aload_n C (pc := 0) (q := 0) (by decide +kernel) rfl rfl,
    as_aload_n C (pc := 1) (q := 0) (by decide +kernel) rfl rfl,
    as_getf C (pc := 2) (T := T_Reader) (N := 5) rfl in_Reader (by decide) rfl w_178 (by decide +kernel) rfl,
    as_aload_n C (pc := 5) (q := 0) (by decide +kernel) rfl rfl,
    as_getf C (pc := 6) (T := T_Reader) (N := 5) rfl in_Reader (by decide) rfl w_179 (by decide +kernel) rfl,
    as_callv2N C (pc := 9) h_Tokens_startOf (T := T_Tokens) (N := 4) rfl w_320 w_75 w_319 w_16 w_317 hy_Tokens_startOf (am_rm_of l_Tokens_startOf (by decide)) (by decide +kernel) rfl,
    as_putf C (pc := 12) t_Reader (T := T_Reader) (N := 5) rfl in_Reader tok_Reader nm_Reader (by decide) rfl rfl (by decide +kernel) w_180 (by decide +kernel) rfl,
    as_iconst C (pc := 15) (n := (-1)) (by decide +kernel) (by decide +kernel) rfl,
    as_iret C (pc := 16) rfl (by decide +kernel), trivial⟩
abbrev k_Reader_fault : List Nat := []
theorem r_Reader_fault_0 {s_Tokens_startOf : aS} {J : aJ} {K : aR} {n : Nat} {L : aL} {S : List Value} {M : aM} : am_run (c_Reader_fault s_Tokens_startOf) k_Reader_fault J K (n + 1) 0 L S M = ai_aload 0 1 (am_run (c_Reader_fault s_Tokens_startOf) k_Reader_fault J K n) K 0 L S M := by rfl
theorem r_Reader_fault_1 {s_Tokens_startOf : aS} {J : aJ} {K : aR} {n : Nat} {L : aL} {S : List Value} {M : aM} : am_run (c_Reader_fault s_Tokens_startOf) k_Reader_fault J K (n + 1) 1 L S M = ai_aload 0 2 (am_run (c_Reader_fault s_Tokens_startOf) k_Reader_fault J K n) K 1 L S M := by rfl
theorem r_Reader_fault_2 {s_Tokens_startOf : aS} {J : aJ} {K : aR} {n : Nat} {L : aL} {S : List Value} {M : aM} : am_run (c_Reader_fault s_Tokens_startOf) k_Reader_fault J K (n + 1) 2 L S M = ai_getf 1 2 5 (am_run (c_Reader_fault s_Tokens_startOf) k_Reader_fault J K n) K 2 L S M := by rfl
theorem r_Reader_fault_5 {s_Tokens_startOf : aS} {J : aJ} {K : aR} {n : Nat} {L : aL} {S : List Value} {M : aM} : am_run (c_Reader_fault s_Tokens_startOf) k_Reader_fault J K (n + 1) 5 L S M = ai_aload 0 6 (am_run (c_Reader_fault s_Tokens_startOf) k_Reader_fault J K n) K 5 L S M := by rfl
theorem r_Reader_fault_6 {s_Tokens_startOf : aS} {J : aJ} {K : aR} {n : Nat} {L : aL} {S : List Value} {M : aM} : am_run (c_Reader_fault s_Tokens_startOf) k_Reader_fault J K (n + 1) 6 L S M = ai_getf 1 3 9 (am_run (c_Reader_fault s_Tokens_startOf) k_Reader_fault J K n) K 6 L S M := by rfl
theorem r_Reader_fault_9 {s_Tokens_startOf : aS} {J : aJ} {K : aR} {n : Nat} {L : aL} {S : List Value} {M : aM} : am_run (c_Reader_fault s_Tokens_startOf) k_Reader_fault J K (n + 1) 9 L S M = ai_callv2 3 s_Tokens_startOf 12 (am_run (c_Reader_fault s_Tokens_startOf) k_Reader_fault J K n) K 9 L S M := by rfl
theorem r_Reader_fault_12 {s_Tokens_startOf : aS} {J : aJ} {K : aR} {n : Nat} {L : aL} {S : List Value} {M : aM} : am_run (c_Reader_fault s_Tokens_startOf) k_Reader_fault J K (n + 1) 12 L S M = ai_putf 1 4 15 (am_run (c_Reader_fault s_Tokens_startOf) k_Reader_fault J K n) K 12 L S M := by rfl
theorem r_Reader_fault_15 {s_Tokens_startOf : aS} {J : aJ} {K : aR} {n : Nat} {L : aL} {S : List Value} {M : aM} : am_run (c_Reader_fault s_Tokens_startOf) k_Reader_fault J K (n + 1) 15 L S M = ai_const (-1) 16 (am_run (c_Reader_fault s_Tokens_startOf) k_Reader_fault J K n) K 15 L S M := by rfl
theorem r_Reader_fault_16 {s_Tokens_startOf : aS} {J : aJ} {K : aR} {n : Nat} {L : aL} {S : List Value} {M : aM} : am_run (c_Reader_fault s_Tokens_startOf) k_Reader_fault J K (n + 1) 16 L S M = ai_iret (am_run (c_Reader_fault s_Tokens_startOf) k_Reader_fault J K n) K 16 L S M := by rfl
