def c_Text_append : List (Nat × aI) := [
  (0, ai_aload 0 1),
  (1, ai_getf 2 1 4),
  (4, ai_iflt 37 7),
  (7, ai_aload 0 8),
  (8, ai_getf 2 1 11),
  (11, ai_const 400 14),
  (14, ai_cmpge 37 17),
  (17, ai_aload 0 18),
  (18, ai_getf 2 0 21),
  (21, ai_aload 0 22),
  (22, ai_getf 2 1 25),
  (25, ai_iload 1 26),
  (26, ai_iast 27),
  (27, ai_aload 0 28),
  (28, ai_dup 29),
  (29, ai_getf 2 1 32),
  (32, ai_const 1 33),
  (33, ai_iadd 34),
  (34, ai_putf 2 1 37),
  (37, ai_vret)]
set_option maxRecDepth 100000 in
set_option maxHeartbeats 4000000 in
theorem tb_Text_append {G : aG} {d : Nat} : am_tab G Y_Text_append d (c_Text_append) := by
  intro K p e s m args below meth c C
  exact ⟨as_aload_n C (pc := 0) (q := 0) (by decide +kernel) rfl rfl,
    as_getf C (pc := 1) (T := T_Text) (N := 2) rfl in_Text (by decide) rfl w_99 (by decide +kernel) rfl,
    as_iflt C (pc := 4) (off := 33) (by decide +kernel) (by decide) rfl,
    as_aload_n C (pc := 7) (q := 0) (by decide +kernel) rfl rfl,
    as_getf C (pc := 8) (T := T_Text) (N := 2) rfl in_Text (by decide) rfl w_99 (by decide +kernel) rfl,
    as_sipush C (pc := 11) (n := 400) (by decide +kernel) (by decide +kernel) rfl,
    as_cmpge C (pc := 14) (off := 23) (by decide +kernel) (by decide) rfl,
    as_aload_n C (pc := 17) (q := 0) (by decide +kernel) rfl rfl,
    as_getf C (pc := 18) (T := T_Text) (N := 2) rfl in_Text (by decide) rfl w_98 (by decide +kernel) rfl,
    as_aload_n C (pc := 21) (q := 0) (by decide +kernel) rfl rfl,
    as_getf C (pc := 22) (T := T_Text) (N := 2) rfl in_Text (by decide) rfl w_99 (by decide +kernel) rfl,
    as_iload_n C (pc := 25) (q := 1) (by decide +kernel) rfl rfl,
    as_iast C (pc := 26) (by decide +kernel) rfl,
    as_aload_n C (pc := 27) (q := 0) (by decide +kernel) rfl rfl,
    as_dup C (pc := 28) (by decide +kernel) rfl,
    as_getf C (pc := 29) (T := T_Text) (N := 2) rfl in_Text (by decide) rfl w_99 (by decide +kernel) rfl,
    as_iconst C (pc := 32) (n := 1) (by decide +kernel) (by decide +kernel) rfl,
    as_iadd C (pc := 33) (by decide +kernel) rfl,
    as_putf C (pc := 34) t_Text (T := T_Text) (N := 2) rfl in_Text tok_Text nm_Text (by decide) rfl rfl (by decide +kernel) w_99 (by decide +kernel) rfl,
    as_vret C (pc := 37) rfl (by decide +kernel), trivial⟩
abbrev k_Text_append : List Nat := []
theorem r_Text_append_0 {J : aJ} {K : aR} {n : Nat} {L : aL} {S : List Value} {M : aM} : am_run (c_Text_append) k_Text_append J K (n + 1) 0 L S M = ai_aload 0 1 (am_run (c_Text_append) k_Text_append J K n) K 0 L S M := by rfl
theorem r_Text_append_1 {J : aJ} {K : aR} {n : Nat} {L : aL} {S : List Value} {M : aM} : am_run (c_Text_append) k_Text_append J K (n + 1) 1 L S M = ai_getf 2 1 4 (am_run (c_Text_append) k_Text_append J K n) K 1 L S M := by rfl
theorem r_Text_append_4 {J : aJ} {K : aR} {n : Nat} {L : aL} {S : List Value} {M : aM} : am_run (c_Text_append) k_Text_append J K (n + 1) 4 L S M = ai_iflt 37 7 (am_run (c_Text_append) k_Text_append J K n) K 4 L S M := by rfl
theorem r_Text_append_7 {J : aJ} {K : aR} {n : Nat} {L : aL} {S : List Value} {M : aM} : am_run (c_Text_append) k_Text_append J K (n + 1) 7 L S M = ai_aload 0 8 (am_run (c_Text_append) k_Text_append J K n) K 7 L S M := by rfl
theorem r_Text_append_8 {J : aJ} {K : aR} {n : Nat} {L : aL} {S : List Value} {M : aM} : am_run (c_Text_append) k_Text_append J K (n + 1) 8 L S M = ai_getf 2 1 11 (am_run (c_Text_append) k_Text_append J K n) K 8 L S M := by rfl
theorem r_Text_append_11 {J : aJ} {K : aR} {n : Nat} {L : aL} {S : List Value} {M : aM} : am_run (c_Text_append) k_Text_append J K (n + 1) 11 L S M = ai_const 400 14 (am_run (c_Text_append) k_Text_append J K n) K 11 L S M := by rfl
theorem r_Text_append_14 {J : aJ} {K : aR} {n : Nat} {L : aL} {S : List Value} {M : aM} : am_run (c_Text_append) k_Text_append J K (n + 1) 14 L S M = ai_cmpge 37 17 (am_run (c_Text_append) k_Text_append J K n) K 14 L S M := by rfl
theorem r_Text_append_17 {J : aJ} {K : aR} {n : Nat} {L : aL} {S : List Value} {M : aM} : am_run (c_Text_append) k_Text_append J K (n + 1) 17 L S M = ai_aload 0 18 (am_run (c_Text_append) k_Text_append J K n) K 17 L S M := by rfl
theorem r_Text_append_18 {J : aJ} {K : aR} {n : Nat} {L : aL} {S : List Value} {M : aM} : am_run (c_Text_append) k_Text_append J K (n + 1) 18 L S M = ai_getf 2 0 21 (am_run (c_Text_append) k_Text_append J K n) K 18 L S M := by rfl
theorem r_Text_append_21 {J : aJ} {K : aR} {n : Nat} {L : aL} {S : List Value} {M : aM} : am_run (c_Text_append) k_Text_append J K (n + 1) 21 L S M = ai_aload 0 22 (am_run (c_Text_append) k_Text_append J K n) K 21 L S M := by rfl
theorem r_Text_append_22 {J : aJ} {K : aR} {n : Nat} {L : aL} {S : List Value} {M : aM} : am_run (c_Text_append) k_Text_append J K (n + 1) 22 L S M = ai_getf 2 1 25 (am_run (c_Text_append) k_Text_append J K n) K 22 L S M := by rfl
theorem r_Text_append_25 {J : aJ} {K : aR} {n : Nat} {L : aL} {S : List Value} {M : aM} : am_run (c_Text_append) k_Text_append J K (n + 1) 25 L S M = ai_iload 1 26 (am_run (c_Text_append) k_Text_append J K n) K 25 L S M := by rfl
theorem r_Text_append_26 {J : aJ} {K : aR} {n : Nat} {L : aL} {S : List Value} {M : aM} : am_run (c_Text_append) k_Text_append J K (n + 1) 26 L S M = ai_iast 27 (am_run (c_Text_append) k_Text_append J K n) K 26 L S M := by rfl
theorem r_Text_append_27 {J : aJ} {K : aR} {n : Nat} {L : aL} {S : List Value} {M : aM} : am_run (c_Text_append) k_Text_append J K (n + 1) 27 L S M = ai_aload 0 28 (am_run (c_Text_append) k_Text_append J K n) K 27 L S M := by rfl
theorem r_Text_append_28 {J : aJ} {K : aR} {n : Nat} {L : aL} {S : List Value} {M : aM} : am_run (c_Text_append) k_Text_append J K (n + 1) 28 L S M = ai_dup 29 (am_run (c_Text_append) k_Text_append J K n) K 28 L S M := by rfl
theorem r_Text_append_29 {J : aJ} {K : aR} {n : Nat} {L : aL} {S : List Value} {M : aM} : am_run (c_Text_append) k_Text_append J K (n + 1) 29 L S M = ai_getf 2 1 32 (am_run (c_Text_append) k_Text_append J K n) K 29 L S M := by rfl
theorem r_Text_append_32 {J : aJ} {K : aR} {n : Nat} {L : aL} {S : List Value} {M : aM} : am_run (c_Text_append) k_Text_append J K (n + 1) 32 L S M = ai_const 1 33 (am_run (c_Text_append) k_Text_append J K n) K 32 L S M := by rfl
theorem r_Text_append_33 {J : aJ} {K : aR} {n : Nat} {L : aL} {S : List Value} {M : aM} : am_run (c_Text_append) k_Text_append J K (n + 1) 33 L S M = ai_iadd 34 (am_run (c_Text_append) k_Text_append J K n) K 33 L S M := by rfl
theorem r_Text_append_34 {J : aJ} {K : aR} {n : Nat} {L : aL} {S : List Value} {M : aM} : am_run (c_Text_append) k_Text_append J K (n + 1) 34 L S M = ai_putf 2 1 37 (am_run (c_Text_append) k_Text_append J K n) K 34 L S M := by rfl
theorem r_Text_append_37 {J : aJ} {K : aR} {n : Nat} {L : aL} {S : List Value} {M : aM} : am_run (c_Text_append) k_Text_append J K (n + 1) 37 L S M = ai_vret (am_run (c_Text_append) k_Text_append J K n) K 37 L S M := by rfl
def c_Text_at : List (Nat × aI) := [
  (0, ai_iload 1 1),
  (1, ai_iflt 28 4),
  (4, ai_iload 1 5),
  (5, ai_aload 0 6),
  (6, ai_getf 2 1 9),
  (9, ai_cmpge 28 12),
  (12, ai_iload 1 13),
  (13, ai_const 400 16),
  (16, ai_cmpge 28 19),
  (19, ai_aload 0 20),
  (20, ai_getf 2 0 23),
  (23, ai_iload 1 24),
  (24, ai_iald 25),
  (25, ai_goto 29),
  (28, ai_const (-1) 29),
  (29, ai_iret)]
set_option maxRecDepth 100000 in
set_option maxHeartbeats 4000000 in
theorem tb_Text_at {G : aG} {d : Nat} : am_tab G Y_Text_at d (c_Text_at) := by
  intro K p e s m args below meth c C
  exact ⟨as_iload_n C (pc := 0) (q := 1) (by decide +kernel) rfl rfl,
    as_iflt C (pc := 1) (off := 27) (by decide +kernel) (by decide) rfl,
    as_iload_n C (pc := 4) (q := 1) (by decide +kernel) rfl rfl,
    as_aload_n C (pc := 5) (q := 0) (by decide +kernel) rfl rfl,
    as_getf C (pc := 6) (T := T_Text) (N := 2) rfl in_Text (by decide) rfl w_99 (by decide +kernel) rfl,
    as_cmpge C (pc := 9) (off := 19) (by decide +kernel) (by decide) rfl,
    as_iload_n C (pc := 12) (q := 1) (by decide +kernel) rfl rfl,
    as_sipush C (pc := 13) (n := 400) (by decide +kernel) (by decide +kernel) rfl,
    as_cmpge C (pc := 16) (off := 12) (by decide +kernel) (by decide) rfl,
    as_aload_n C (pc := 19) (q := 0) (by decide +kernel) rfl rfl,
    as_getf C (pc := 20) (T := T_Text) (N := 2) rfl in_Text (by decide) rfl w_98 (by decide +kernel) rfl,
    as_iload_n C (pc := 23) (q := 1) (by decide +kernel) rfl rfl,
    as_iald C (pc := 24) (by decide +kernel) rfl,
    as_goto C (pc := 25) (off := 4) (by decide +kernel) (by decide),
    as_iconst C (pc := 28) (n := (-1)) (by decide +kernel) (by decide +kernel) rfl,
    as_iret C (pc := 29) rfl (by decide +kernel), trivial⟩
abbrev k_Text_at : List Nat := []
theorem r_Text_at_0 {J : aJ} {K : aR} {n : Nat} {L : aL} {S : List Value} {M : aM} : am_run (c_Text_at) k_Text_at J K (n + 1) 0 L S M = ai_iload 1 1 (am_run (c_Text_at) k_Text_at J K n) K 0 L S M := by rfl
theorem r_Text_at_1 {J : aJ} {K : aR} {n : Nat} {L : aL} {S : List Value} {M : aM} : am_run (c_Text_at) k_Text_at J K (n + 1) 1 L S M = ai_iflt 28 4 (am_run (c_Text_at) k_Text_at J K n) K 1 L S M := by rfl
theorem r_Text_at_4 {J : aJ} {K : aR} {n : Nat} {L : aL} {S : List Value} {M : aM} : am_run (c_Text_at) k_Text_at J K (n + 1) 4 L S M = ai_iload 1 5 (am_run (c_Text_at) k_Text_at J K n) K 4 L S M := by rfl
theorem r_Text_at_5 {J : aJ} {K : aR} {n : Nat} {L : aL} {S : List Value} {M : aM} : am_run (c_Text_at) k_Text_at J K (n + 1) 5 L S M = ai_aload 0 6 (am_run (c_Text_at) k_Text_at J K n) K 5 L S M := by rfl
theorem r_Text_at_6 {J : aJ} {K : aR} {n : Nat} {L : aL} {S : List Value} {M : aM} : am_run (c_Text_at) k_Text_at J K (n + 1) 6 L S M = ai_getf 2 1 9 (am_run (c_Text_at) k_Text_at J K n) K 6 L S M := by rfl
theorem r_Text_at_9 {J : aJ} {K : aR} {n : Nat} {L : aL} {S : List Value} {M : aM} : am_run (c_Text_at) k_Text_at J K (n + 1) 9 L S M = ai_cmpge 28 12 (am_run (c_Text_at) k_Text_at J K n) K 9 L S M := by rfl
theorem r_Text_at_12 {J : aJ} {K : aR} {n : Nat} {L : aL} {S : List Value} {M : aM} : am_run (c_Text_at) k_Text_at J K (n + 1) 12 L S M = ai_iload 1 13 (am_run (c_Text_at) k_Text_at J K n) K 12 L S M := by rfl
theorem r_Text_at_13 {J : aJ} {K : aR} {n : Nat} {L : aL} {S : List Value} {M : aM} : am_run (c_Text_at) k_Text_at J K (n + 1) 13 L S M = ai_const 400 16 (am_run (c_Text_at) k_Text_at J K n) K 13 L S M := by rfl
theorem r_Text_at_16 {J : aJ} {K : aR} {n : Nat} {L : aL} {S : List Value} {M : aM} : am_run (c_Text_at) k_Text_at J K (n + 1) 16 L S M = ai_cmpge 28 19 (am_run (c_Text_at) k_Text_at J K n) K 16 L S M := by rfl
theorem r_Text_at_19 {J : aJ} {K : aR} {n : Nat} {L : aL} {S : List Value} {M : aM} : am_run (c_Text_at) k_Text_at J K (n + 1) 19 L S M = ai_aload 0 20 (am_run (c_Text_at) k_Text_at J K n) K 19 L S M := by rfl
theorem r_Text_at_20 {J : aJ} {K : aR} {n : Nat} {L : aL} {S : List Value} {M : aM} : am_run (c_Text_at) k_Text_at J K (n + 1) 20 L S M = ai_getf 2 0 23 (am_run (c_Text_at) k_Text_at J K n) K 20 L S M := by rfl
theorem r_Text_at_23 {J : aJ} {K : aR} {n : Nat} {L : aL} {S : List Value} {M : aM} : am_run (c_Text_at) k_Text_at J K (n + 1) 23 L S M = ai_iload 1 24 (am_run (c_Text_at) k_Text_at J K n) K 23 L S M := by rfl
theorem r_Text_at_24 {J : aJ} {K : aR} {n : Nat} {L : aL} {S : List Value} {M : aM} : am_run (c_Text_at) k_Text_at J K (n + 1) 24 L S M = ai_iald 25 (am_run (c_Text_at) k_Text_at J K n) K 24 L S M := by rfl
theorem r_Text_at_25 {J : aJ} {K : aR} {n : Nat} {L : aL} {S : List Value} {M : aM} : am_run (c_Text_at) k_Text_at J K (n + 1) 25 L S M = ai_goto 29 (am_run (c_Text_at) k_Text_at J K n) K 25 L S M := by rfl
theorem r_Text_at_28 {J : aJ} {K : aR} {n : Nat} {L : aL} {S : List Value} {M : aM} : am_run (c_Text_at) k_Text_at J K (n + 1) 28 L S M = ai_const (-1) 29 (am_run (c_Text_at) k_Text_at J K n) K 28 L S M := by rfl
theorem r_Text_at_29 {J : aJ} {K : aR} {n : Nat} {L : aL} {S : List Value} {M : aM} : am_run (c_Text_at) k_Text_at J K (n + 1) 29 L S M = ai_iret (am_run (c_Text_at) k_Text_at J K n) K 29 L S M := by rfl
def c_Text_skipBlanks (s_Text_at : aS) : List (Nat × aI) := [
  (0, ai_const 0 1),
  (1, ai_istore 2 2),
  (2, ai_iload 1 3),
  (3, ai_istore 3 4),
  (4, ai_iload 3 5),
  (5, ai_aload 0 6),
  (6, ai_getf 2 1 9),
  (9, ai_cmpge 69 12),
  (12, ai_aload 0 13),
  (13, ai_iload 3 14),
  (14, ai_callv2 2 s_Text_at 17),
  (17, ai_istore 4 19),
  (19, ai_iload 4 21),
  (21, ai_const 59 23),
  (23, ai_cmpeq 37 26),
  (26, ai_iload 2 27),
  (27, ai_ifeq 41 30),
  (30, ai_iload 4 32),
  (32, ai_const 10 34),
  (34, ai_cmpeq 41 37),
  (37, ai_const 1 38),
  (38, ai_goto 42),
  (41, ai_const 0 42),
  (42, ai_istore 2 43),
  (43, ai_iload 2 44),
  (44, ai_ifne 63 47),
  (47, ai_iload 4 49),
  (49, ai_const 10 51),
  (51, ai_cmpeq 63 54),
  (54, ai_iload 4 56),
  (56, ai_const 32 58),
  (58, ai_cmpeq 63 61),
  (61, ai_iload 3 62),
  (62, ai_iret),
  (63, ai_iinc 3 1 66),
  (66, ai_goto 4),
  (69, ai_iload 3 70),
  (70, ai_iret)]
set_option maxRecDepth 100000 in
set_option maxHeartbeats 4000000 in
theorem tb_Text_skipBlanks {G : aG} {d : Nat} {s_Text_at : aS} {d_Text_at : Nat} (h_Text_at : am_Sp G Y_Text_at d_Text_at s_Text_at) (l_Text_at : d_Text_at < d) : am_tab G Y_Text_skipBlanks d (c_Text_skipBlanks s_Text_at) := by
  intro K p e s m args below meth c C
  exact ⟨as_iconst C (pc := 0) (n := 0) (by decide +kernel) (by decide +kernel) rfl,
    as_istore_n C (pc := 1) (q := 2) (by decide +kernel) rfl (by decide) rfl,
    as_iload_n C (pc := 2) (q := 1) (by decide +kernel) rfl rfl,
    as_istore_n C (pc := 3) (q := 3) (by decide +kernel) rfl (by decide) rfl,
    as_iload_n C (pc := 4) (q := 3) (by decide +kernel) rfl rfl,
    as_aload_n C (pc := 5) (q := 0) (by decide +kernel) rfl rfl,
    as_getf C (pc := 6) (T := T_Text) (N := 2) rfl in_Text (by decide) rfl w_99 (by decide +kernel) rfl,
    as_cmpge C (pc := 9) (off := 60) (by decide +kernel) (by decide) rfl,
    as_aload_n C (pc := 12) (q := 0) (by decide +kernel) rfl rfl,
    as_iload_n C (pc := 13) (q := 3) (by decide +kernel) rfl rfl,
    as_callv2 C (pc := 14) h_Text_at (T := T_Text) (N := 2) rfl w_270 w_71 w_269 w_5 w_267 hy_Text_at (am_rm_of l_Text_at (by decide)) (by decide +kernel) rfl,
    as_istore C (pc := 17) (k := 4) (by decide +kernel) (by decide) rfl,
    as_iload C (pc := 19) (k := 4) (by decide +kernel) rfl,
    as_bipush C (pc := 21) (n := 59) (by decide +kernel) (by decide +kernel) rfl,
    as_cmpeq C (pc := 23) (off := 14) (by decide +kernel) (by decide) rfl,
    as_iload_n C (pc := 26) (q := 2) (by decide +kernel) rfl rfl,
    as_ifeq C (pc := 27) (off := 14) (by decide +kernel) (by decide) rfl,
    as_iload C (pc := 30) (k := 4) (by decide +kernel) rfl,
    as_bipush C (pc := 32) (n := 10) (by decide +kernel) (by decide +kernel) rfl,
    as_cmpeq C (pc := 34) (off := 7) (by decide +kernel) (by decide) rfl,
    as_iconst C (pc := 37) (n := 1) (by decide +kernel) (by decide +kernel) rfl,
    as_goto C (pc := 38) (off := 4) (by decide +kernel) (by decide),
    as_iconst C (pc := 41) (n := 0) (by decide +kernel) (by decide +kernel) rfl,
    as_istore_n C (pc := 42) (q := 2) (by decide +kernel) rfl (by decide) rfl,
    as_iload_n C (pc := 43) (q := 2) (by decide +kernel) rfl rfl,
    as_ifne C (pc := 44) (off := 19) (by decide +kernel) (by decide) rfl,
    as_iload C (pc := 47) (k := 4) (by decide +kernel) rfl,
    as_bipush C (pc := 49) (n := 10) (by decide +kernel) (by decide +kernel) rfl,
    as_cmpeq C (pc := 51) (off := 12) (by decide +kernel) (by decide) rfl,
    as_iload C (pc := 54) (k := 4) (by decide +kernel) rfl,
    as_bipush C (pc := 56) (n := 32) (by decide +kernel) (by decide +kernel) rfl,
    as_cmpeq C (pc := 58) (off := 5) (by decide +kernel) (by decide) rfl,
    as_iload_n C (pc := 61) (q := 3) (by decide +kernel) rfl rfl,
    as_iret C (pc := 62) rfl (by decide +kernel),
    as_iinc C (pc := 63) (k := 3) (n := 1) (by decide +kernel) (by decide +kernel) (by decide) rfl,
    as_goto C (pc := 66) (off := (-62)) (by decide +kernel) (by decide),
    as_iload_n C (pc := 69) (q := 3) (by decide +kernel) rfl rfl,
    as_iret C (pc := 70) rfl (by decide +kernel), trivial⟩
abbrev k_Text_skipBlanks : List Nat := [4]
theorem q_Text_skipBlanks_4 {s_Text_at : aS} : am_at (c_Text_skipBlanks s_Text_at) 4 = ai_iload 3 5 := by rfl
theorem r_Text_skipBlanks_0 {s_Text_at : aS} {J : aJ} {K : aR} {n : Nat} {L : aL} {S : List Value} {M : aM} : am_run (c_Text_skipBlanks s_Text_at) k_Text_skipBlanks J K (n + 1) 0 L S M = ai_const 0 1 (am_run (c_Text_skipBlanks s_Text_at) k_Text_skipBlanks J K n) K 0 L S M := by rfl
theorem r_Text_skipBlanks_1 {s_Text_at : aS} {J : aJ} {K : aR} {n : Nat} {L : aL} {S : List Value} {M : aM} : am_run (c_Text_skipBlanks s_Text_at) k_Text_skipBlanks J K (n + 1) 1 L S M = ai_istore 2 2 (am_run (c_Text_skipBlanks s_Text_at) k_Text_skipBlanks J K n) K 1 L S M := by rfl
theorem r_Text_skipBlanks_2 {s_Text_at : aS} {J : aJ} {K : aR} {n : Nat} {L : aL} {S : List Value} {M : aM} : am_run (c_Text_skipBlanks s_Text_at) k_Text_skipBlanks J K (n + 1) 2 L S M = ai_iload 1 3 (am_run (c_Text_skipBlanks s_Text_at) k_Text_skipBlanks J K n) K 2 L S M := by rfl
theorem r_Text_skipBlanks_3 {s_Text_at : aS} {J : aJ} {K : aR} {n : Nat} {L : aL} {S : List Value} {M : aM} : am_run (c_Text_skipBlanks s_Text_at) k_Text_skipBlanks J K (n + 1) 3 L S M = ai_istore 3 4 (am_run (c_Text_skipBlanks s_Text_at) k_Text_skipBlanks J K n) K 3 L S M := by rfl
theorem r_Text_skipBlanks_4 {s_Text_at : aS} {J : aJ} {K : aR} {n : Nat} {L : aL} {S : List Value} {M : aM} : am_run (c_Text_skipBlanks s_Text_at) k_Text_skipBlanks J K (n + 1) 4 L S M = J 4 L S M := by rfl
theorem r_Text_skipBlanks_5 {s_Text_at : aS} {J : aJ} {K : aR} {n : Nat} {L : aL} {S : List Value} {M : aM} : am_run (c_Text_skipBlanks s_Text_at) k_Text_skipBlanks J K (n + 1) 5 L S M = ai_aload 0 6 (am_run (c_Text_skipBlanks s_Text_at) k_Text_skipBlanks J K n) K 5 L S M := by rfl
theorem r_Text_skipBlanks_6 {s_Text_at : aS} {J : aJ} {K : aR} {n : Nat} {L : aL} {S : List Value} {M : aM} : am_run (c_Text_skipBlanks s_Text_at) k_Text_skipBlanks J K (n + 1) 6 L S M = ai_getf 2 1 9 (am_run (c_Text_skipBlanks s_Text_at) k_Text_skipBlanks J K n) K 6 L S M := by rfl
theorem r_Text_skipBlanks_9 {s_Text_at : aS} {J : aJ} {K : aR} {n : Nat} {L : aL} {S : List Value} {M : aM} : am_run (c_Text_skipBlanks s_Text_at) k_Text_skipBlanks J K (n + 1) 9 L S M = ai_cmpge 69 12 (am_run (c_Text_skipBlanks s_Text_at) k_Text_skipBlanks J K n) K 9 L S M := by rfl
theorem r_Text_skipBlanks_12 {s_Text_at : aS} {J : aJ} {K : aR} {n : Nat} {L : aL} {S : List Value} {M : aM} : am_run (c_Text_skipBlanks s_Text_at) k_Text_skipBlanks J K (n + 1) 12 L S M = ai_aload 0 13 (am_run (c_Text_skipBlanks s_Text_at) k_Text_skipBlanks J K n) K 12 L S M := by rfl
theorem r_Text_skipBlanks_13 {s_Text_at : aS} {J : aJ} {K : aR} {n : Nat} {L : aL} {S : List Value} {M : aM} : am_run (c_Text_skipBlanks s_Text_at) k_Text_skipBlanks J K (n + 1) 13 L S M = ai_iload 3 14 (am_run (c_Text_skipBlanks s_Text_at) k_Text_skipBlanks J K n) K 13 L S M := by rfl
theorem r_Text_skipBlanks_14 {s_Text_at : aS} {J : aJ} {K : aR} {n : Nat} {L : aL} {S : List Value} {M : aM} : am_run (c_Text_skipBlanks s_Text_at) k_Text_skipBlanks J K (n + 1) 14 L S M = ai_callv2 2 s_Text_at 17 (am_run (c_Text_skipBlanks s_Text_at) k_Text_skipBlanks J K n) K 14 L S M := by rfl
theorem r_Text_skipBlanks_17 {s_Text_at : aS} {J : aJ} {K : aR} {n : Nat} {L : aL} {S : List Value} {M : aM} : am_run (c_Text_skipBlanks s_Text_at) k_Text_skipBlanks J K (n + 1) 17 L S M = ai_istore 4 19 (am_run (c_Text_skipBlanks s_Text_at) k_Text_skipBlanks J K n) K 17 L S M := by rfl
theorem r_Text_skipBlanks_19 {s_Text_at : aS} {J : aJ} {K : aR} {n : Nat} {L : aL} {S : List Value} {M : aM} : am_run (c_Text_skipBlanks s_Text_at) k_Text_skipBlanks J K (n + 1) 19 L S M = ai_iload 4 21 (am_run (c_Text_skipBlanks s_Text_at) k_Text_skipBlanks J K n) K 19 L S M := by rfl
theorem r_Text_skipBlanks_21 {s_Text_at : aS} {J : aJ} {K : aR} {n : Nat} {L : aL} {S : List Value} {M : aM} : am_run (c_Text_skipBlanks s_Text_at) k_Text_skipBlanks J K (n + 1) 21 L S M = ai_const 59 23 (am_run (c_Text_skipBlanks s_Text_at) k_Text_skipBlanks J K n) K 21 L S M := by rfl
theorem r_Text_skipBlanks_23 {s_Text_at : aS} {J : aJ} {K : aR} {n : Nat} {L : aL} {S : List Value} {M : aM} : am_run (c_Text_skipBlanks s_Text_at) k_Text_skipBlanks J K (n + 1) 23 L S M = ai_cmpeq 37 26 (am_run (c_Text_skipBlanks s_Text_at) k_Text_skipBlanks J K n) K 23 L S M := by rfl
theorem r_Text_skipBlanks_26 {s_Text_at : aS} {J : aJ} {K : aR} {n : Nat} {L : aL} {S : List Value} {M : aM} : am_run (c_Text_skipBlanks s_Text_at) k_Text_skipBlanks J K (n + 1) 26 L S M = ai_iload 2 27 (am_run (c_Text_skipBlanks s_Text_at) k_Text_skipBlanks J K n) K 26 L S M := by rfl
theorem r_Text_skipBlanks_27 {s_Text_at : aS} {J : aJ} {K : aR} {n : Nat} {L : aL} {S : List Value} {M : aM} : am_run (c_Text_skipBlanks s_Text_at) k_Text_skipBlanks J K (n + 1) 27 L S M = ai_ifeq 41 30 (am_run (c_Text_skipBlanks s_Text_at) k_Text_skipBlanks J K n) K 27 L S M := by rfl
theorem r_Text_skipBlanks_30 {s_Text_at : aS} {J : aJ} {K : aR} {n : Nat} {L : aL} {S : List Value} {M : aM} : am_run (c_Text_skipBlanks s_Text_at) k_Text_skipBlanks J K (n + 1) 30 L S M = ai_iload 4 32 (am_run (c_Text_skipBlanks s_Text_at) k_Text_skipBlanks J K n) K 30 L S M := by rfl
theorem r_Text_skipBlanks_32 {s_Text_at : aS} {J : aJ} {K : aR} {n : Nat} {L : aL} {S : List Value} {M : aM} : am_run (c_Text_skipBlanks s_Text_at) k_Text_skipBlanks J K (n + 1) 32 L S M = ai_const 10 34 (am_run (c_Text_skipBlanks s_Text_at) k_Text_skipBlanks J K n) K 32 L S M := by rfl
theorem r_Text_skipBlanks_34 {s_Text_at : aS} {J : aJ} {K : aR} {n : Nat} {L : aL} {S : List Value} {M : aM} : am_run (c_Text_skipBlanks s_Text_at) k_Text_skipBlanks J K (n + 1) 34 L S M = ai_cmpeq 41 37 (am_run (c_Text_skipBlanks s_Text_at) k_Text_skipBlanks J K n) K 34 L S M := by rfl
theorem r_Text_skipBlanks_37 {s_Text_at : aS} {J : aJ} {K : aR} {n : Nat} {L : aL} {S : List Value} {M : aM} : am_run (c_Text_skipBlanks s_Text_at) k_Text_skipBlanks J K (n + 1) 37 L S M = ai_const 1 38 (am_run (c_Text_skipBlanks s_Text_at) k_Text_skipBlanks J K n) K 37 L S M := by rfl
theorem r_Text_skipBlanks_38 {s_Text_at : aS} {J : aJ} {K : aR} {n : Nat} {L : aL} {S : List Value} {M : aM} : am_run (c_Text_skipBlanks s_Text_at) k_Text_skipBlanks J K (n + 1) 38 L S M = ai_goto 42 (am_run (c_Text_skipBlanks s_Text_at) k_Text_skipBlanks J K n) K 38 L S M := by rfl
theorem r_Text_skipBlanks_41 {s_Text_at : aS} {J : aJ} {K : aR} {n : Nat} {L : aL} {S : List Value} {M : aM} : am_run (c_Text_skipBlanks s_Text_at) k_Text_skipBlanks J K (n + 1) 41 L S M = ai_const 0 42 (am_run (c_Text_skipBlanks s_Text_at) k_Text_skipBlanks J K n) K 41 L S M := by rfl
theorem r_Text_skipBlanks_42 {s_Text_at : aS} {J : aJ} {K : aR} {n : Nat} {L : aL} {S : List Value} {M : aM} : am_run (c_Text_skipBlanks s_Text_at) k_Text_skipBlanks J K (n + 1) 42 L S M = ai_istore 2 43 (am_run (c_Text_skipBlanks s_Text_at) k_Text_skipBlanks J K n) K 42 L S M := by rfl
theorem r_Text_skipBlanks_43 {s_Text_at : aS} {J : aJ} {K : aR} {n : Nat} {L : aL} {S : List Value} {M : aM} : am_run (c_Text_skipBlanks s_Text_at) k_Text_skipBlanks J K (n + 1) 43 L S M = ai_iload 2 44 (am_run (c_Text_skipBlanks s_Text_at) k_Text_skipBlanks J K n) K 43 L S M := by rfl
theorem r_Text_skipBlanks_44 {s_Text_at : aS} {J : aJ} {K : aR} {n : Nat} {L : aL} {S : List Value} {M : aM} : am_run (c_Text_skipBlanks s_Text_at) k_Text_skipBlanks J K (n + 1) 44 L S M = ai_ifne 63 47 (am_run (c_Text_skipBlanks s_Text_at) k_Text_skipBlanks J K n) K 44 L S M := by rfl
theorem r_Text_skipBlanks_47 {s_Text_at : aS} {J : aJ} {K : aR} {n : Nat} {L : aL} {S : List Value} {M : aM} : am_run (c_Text_skipBlanks s_Text_at) k_Text_skipBlanks J K (n + 1) 47 L S M = ai_iload 4 49 (am_run (c_Text_skipBlanks s_Text_at) k_Text_skipBlanks J K n) K 47 L S M := by rfl
theorem r_Text_skipBlanks_49 {s_Text_at : aS} {J : aJ} {K : aR} {n : Nat} {L : aL} {S : List Value} {M : aM} : am_run (c_Text_skipBlanks s_Text_at) k_Text_skipBlanks J K (n + 1) 49 L S M = ai_const 10 51 (am_run (c_Text_skipBlanks s_Text_at) k_Text_skipBlanks J K n) K 49 L S M := by rfl
theorem r_Text_skipBlanks_51 {s_Text_at : aS} {J : aJ} {K : aR} {n : Nat} {L : aL} {S : List Value} {M : aM} : am_run (c_Text_skipBlanks s_Text_at) k_Text_skipBlanks J K (n + 1) 51 L S M = ai_cmpeq 63 54 (am_run (c_Text_skipBlanks s_Text_at) k_Text_skipBlanks J K n) K 51 L S M := by rfl
theorem r_Text_skipBlanks_54 {s_Text_at : aS} {J : aJ} {K : aR} {n : Nat} {L : aL} {S : List Value} {M : aM} : am_run (c_Text_skipBlanks s_Text_at) k_Text_skipBlanks J K (n + 1) 54 L S M = ai_iload 4 56 (am_run (c_Text_skipBlanks s_Text_at) k_Text_skipBlanks J K n) K 54 L S M := by rfl
theorem r_Text_skipBlanks_56 {s_Text_at : aS} {J : aJ} {K : aR} {n : Nat} {L : aL} {S : List Value} {M : aM} : am_run (c_Text_skipBlanks s_Text_at) k_Text_skipBlanks J K (n + 1) 56 L S M = ai_const 32 58 (am_run (c_Text_skipBlanks s_Text_at) k_Text_skipBlanks J K n) K 56 L S M := by rfl
theorem r_Text_skipBlanks_58 {s_Text_at : aS} {J : aJ} {K : aR} {n : Nat} {L : aL} {S : List Value} {M : aM} : am_run (c_Text_skipBlanks s_Text_at) k_Text_skipBlanks J K (n + 1) 58 L S M = ai_cmpeq 63 61 (am_run (c_Text_skipBlanks s_Text_at) k_Text_skipBlanks J K n) K 58 L S M := by rfl
theorem r_Text_skipBlanks_61 {s_Text_at : aS} {J : aJ} {K : aR} {n : Nat} {L : aL} {S : List Value} {M : aM} : am_run (c_Text_skipBlanks s_Text_at) k_Text_skipBlanks J K (n + 1) 61 L S M = ai_iload 3 62 (am_run (c_Text_skipBlanks s_Text_at) k_Text_skipBlanks J K n) K 61 L S M := by rfl
theorem r_Text_skipBlanks_62 {s_Text_at : aS} {J : aJ} {K : aR} {n : Nat} {L : aL} {S : List Value} {M : aM} : am_run (c_Text_skipBlanks s_Text_at) k_Text_skipBlanks J K (n + 1) 62 L S M = ai_iret (am_run (c_Text_skipBlanks s_Text_at) k_Text_skipBlanks J K n) K 62 L S M := by rfl
theorem r_Text_skipBlanks_63 {s_Text_at : aS} {J : aJ} {K : aR} {n : Nat} {L : aL} {S : List Value} {M : aM} : am_run (c_Text_skipBlanks s_Text_at) k_Text_skipBlanks J K (n + 1) 63 L S M = ai_iinc 3 1 66 (am_run (c_Text_skipBlanks s_Text_at) k_Text_skipBlanks J K n) K 63 L S M := by rfl
theorem r_Text_skipBlanks_66 {s_Text_at : aS} {J : aJ} {K : aR} {n : Nat} {L : aL} {S : List Value} {M : aM} : am_run (c_Text_skipBlanks s_Text_at) k_Text_skipBlanks J K (n + 1) 66 L S M = ai_goto 4 (am_run (c_Text_skipBlanks s_Text_at) k_Text_skipBlanks J K n) K 66 L S M := by rfl
theorem r_Text_skipBlanks_69 {s_Text_at : aS} {J : aJ} {K : aR} {n : Nat} {L : aL} {S : List Value} {M : aM} : am_run (c_Text_skipBlanks s_Text_at) k_Text_skipBlanks J K (n + 1) 69 L S M = ai_iload 3 70 (am_run (c_Text_skipBlanks s_Text_at) k_Text_skipBlanks J K n) K 69 L S M := by rfl
theorem r_Text_skipBlanks_70 {s_Text_at : aS} {J : aJ} {K : aR} {n : Nat} {L : aL} {S : List Value} {M : aM} : am_run (c_Text_skipBlanks s_Text_at) k_Text_skipBlanks J K (n + 1) 70 L S M = ai_iret (am_run (c_Text_skipBlanks s_Text_at) k_Text_skipBlanks J K n) K 70 L S M := by rfl
def c_Text_sortAt (s_Text_at : aS) (s_Text_isDigit : aS) (s_Text_isWordByte : aS) : List (Nat × aI) := [
  (0, ai_aload 0 1),
  (1, ai_iload 1 2),
  (2, ai_callv2 2 s_Text_at 5),
  (5, ai_istore 2 6),
  (6, ai_iload 2 7),
  (7, ai_switch [((-1), 64), (34, 79), (39, 73), (40, 67), (41, 70), (46, 76)] 81),
  (64, ai_const 10 66),
  (66, ai_iret),
  (67, ai_const 6 69),
  (69, ai_iret),
  (70, ai_const 7 72),
  (72, ai_iret),
  (73, ai_const 8 75),
  (75, ai_iret),
  (76, ai_const 9 78),
  (78, ai_iret),
  (79, ai_const 3 80),
  (80, ai_iret),
  (81, ai_iload 2 82),
  (82, ai_const 45 84),
  (84, ai_cmpeq 94 87),
  (87, ai_iload 2 88),
  (88, ai_calls1 s_Text_isDigit 91),
  (91, ai_ifeq 96 94),
  (94, ai_const 1 95),
  (95, ai_iret),
  (96, ai_iload 2 97),
  (97, ai_calls1 s_Text_isWordByte 100),
  (100, ai_ifeq 107 103),
  (103, ai_const 2 104),
  (104, ai_goto 109),
  (107, ai_const 11 109),
  (109, ai_iret)]
set_option maxRecDepth 100000 in
set_option maxHeartbeats 4000000 in
theorem tb_Text_sortAt {G : aG} {d : Nat} {s_Text_at : aS} {d_Text_at : Nat} (h_Text_at : am_Sp G Y_Text_at d_Text_at s_Text_at) (l_Text_at : d_Text_at < d) {s_Text_isDigit : aS} {d_Text_isDigit : Nat} (h_Text_isDigit : am_Sp G Y_Text_isDigit d_Text_isDigit s_Text_isDigit) (l_Text_isDigit : d_Text_isDigit < d) {s_Text_isWordByte : aS} {d_Text_isWordByte : Nat} (h_Text_isWordByte : am_Sp G Y_Text_isWordByte d_Text_isWordByte s_Text_isWordByte) (l_Text_isWordByte : d_Text_isWordByte < d) : am_tab G Y_Text_sortAt d (c_Text_sortAt s_Text_at s_Text_isDigit s_Text_isWordByte) := by
  intro K p e s m args below meth c C
  exact ⟨as_aload_n C (pc := 0) (q := 0) (by decide +kernel) rfl rfl,
    as_iload_n C (pc := 1) (q := 1) (by decide +kernel) rfl rfl,
    as_callv2 C (pc := 2) h_Text_at (T := T_Text) (N := 2) rfl w_270 w_71 w_269 w_5 w_267 hy_Text_at (am_rm_of l_Text_at (by decide)) (by decide +kernel) rfl,
    as_istore_n C (pc := 5) (q := 2) (by decide +kernel) rfl (by decide) rfl,
    as_iload_n C (pc := 6) (q := 2) (by decide +kernel) rfl rfl,
    as_lookup C (pc := 7) (dflt := 74) (ps := #[((-1), 57), (34, 72), (39, 66), (40, 60), (41, 63), (46, 69)]) (len := 57) (by decide +kernel) (by decide +kernel) (by decide +kernel) (by decide),
    as_bipush C (pc := 64) (n := 10) (by decide +kernel) (by decide +kernel) rfl,
    as_iret C (pc := 66) rfl (by decide +kernel),
    as_bipush C (pc := 67) (n := 6) (by decide +kernel) (by decide +kernel) rfl,
    as_iret C (pc := 69) rfl (by decide +kernel),
    as_bipush C (pc := 70) (n := 7) (by decide +kernel) (by decide +kernel) rfl,
    as_iret C (pc := 72) rfl (by decide +kernel),
    as_bipush C (pc := 73) (n := 8) (by decide +kernel) (by decide +kernel) rfl,
    as_iret C (pc := 75) rfl (by decide +kernel),
    as_bipush C (pc := 76) (n := 9) (by decide +kernel) (by decide +kernel) rfl,
    as_iret C (pc := 78) rfl (by decide +kernel),
    as_iconst C (pc := 79) (n := 3) (by decide +kernel) (by decide +kernel) rfl,
    as_iret C (pc := 80) rfl (by decide +kernel),
    as_iload_n C (pc := 81) (q := 2) (by decide +kernel) rfl rfl,
    as_bipush C (pc := 82) (n := 45) (by decide +kernel) (by decide +kernel) rfl,
    as_cmpeq C (pc := 84) (off := 10) (by decide +kernel) (by decide) rfl,
    as_iload_n C (pc := 87) (q := 2) (by decide +kernel) rfl rfl,
    as_calls1 C (pc := 88) h_Text_isDigit w_277 w_71 w_276 w_275 hy_Text_isDigit (am_rm_of l_Text_isDigit (by decide)) (by decide +kernel) rfl,
    as_ifeq C (pc := 91) (off := 5) (by decide +kernel) (by decide) rfl,
    as_iconst C (pc := 94) (n := 1) (by decide +kernel) (by decide +kernel) rfl,
    as_iret C (pc := 95) rfl (by decide +kernel),
    as_iload_n C (pc := 96) (q := 2) (by decide +kernel) rfl rfl,
    as_calls1 C (pc := 97) h_Text_isWordByte w_280 w_71 w_279 w_278 hy_Text_isWordByte (am_rm_of l_Text_isWordByte (by decide)) (by decide +kernel) rfl,
    as_ifeq C (pc := 100) (off := 7) (by decide +kernel) (by decide) rfl,
    as_iconst C (pc := 103) (n := 2) (by decide +kernel) (by decide +kernel) rfl,
    as_goto C (pc := 104) (off := 5) (by decide +kernel) (by decide),
    as_bipush C (pc := 107) (n := 11) (by decide +kernel) (by decide +kernel) rfl,
    as_iret C (pc := 109) rfl (by decide +kernel), trivial⟩
abbrev k_Text_sortAt : List Nat := []
theorem r_Text_sortAt_0 {s_Text_at : aS} {s_Text_isDigit : aS} {s_Text_isWordByte : aS} {J : aJ} {K : aR} {n : Nat} {L : aL} {S : List Value} {M : aM} : am_run (c_Text_sortAt s_Text_at s_Text_isDigit s_Text_isWordByte) k_Text_sortAt J K (n + 1) 0 L S M = ai_aload 0 1 (am_run (c_Text_sortAt s_Text_at s_Text_isDigit s_Text_isWordByte) k_Text_sortAt J K n) K 0 L S M := by rfl
theorem r_Text_sortAt_1 {s_Text_at : aS} {s_Text_isDigit : aS} {s_Text_isWordByte : aS} {J : aJ} {K : aR} {n : Nat} {L : aL} {S : List Value} {M : aM} : am_run (c_Text_sortAt s_Text_at s_Text_isDigit s_Text_isWordByte) k_Text_sortAt J K (n + 1) 1 L S M = ai_iload 1 2 (am_run (c_Text_sortAt s_Text_at s_Text_isDigit s_Text_isWordByte) k_Text_sortAt J K n) K 1 L S M := by rfl
theorem r_Text_sortAt_2 {s_Text_at : aS} {s_Text_isDigit : aS} {s_Text_isWordByte : aS} {J : aJ} {K : aR} {n : Nat} {L : aL} {S : List Value} {M : aM} : am_run (c_Text_sortAt s_Text_at s_Text_isDigit s_Text_isWordByte) k_Text_sortAt J K (n + 1) 2 L S M = ai_callv2 2 s_Text_at 5 (am_run (c_Text_sortAt s_Text_at s_Text_isDigit s_Text_isWordByte) k_Text_sortAt J K n) K 2 L S M := by rfl
theorem r_Text_sortAt_5 {s_Text_at : aS} {s_Text_isDigit : aS} {s_Text_isWordByte : aS} {J : aJ} {K : aR} {n : Nat} {L : aL} {S : List Value} {M : aM} : am_run (c_Text_sortAt s_Text_at s_Text_isDigit s_Text_isWordByte) k_Text_sortAt J K (n + 1) 5 L S M = ai_istore 2 6 (am_run (c_Text_sortAt s_Text_at s_Text_isDigit s_Text_isWordByte) k_Text_sortAt J K n) K 5 L S M := by rfl
theorem r_Text_sortAt_6 {s_Text_at : aS} {s_Text_isDigit : aS} {s_Text_isWordByte : aS} {J : aJ} {K : aR} {n : Nat} {L : aL} {S : List Value} {M : aM} : am_run (c_Text_sortAt s_Text_at s_Text_isDigit s_Text_isWordByte) k_Text_sortAt J K (n + 1) 6 L S M = ai_iload 2 7 (am_run (c_Text_sortAt s_Text_at s_Text_isDigit s_Text_isWordByte) k_Text_sortAt J K n) K 6 L S M := by rfl
theorem r_Text_sortAt_7 {s_Text_at : aS} {s_Text_isDigit : aS} {s_Text_isWordByte : aS} {J : aJ} {K : aR} {n : Nat} {L : aL} {S : List Value} {M : aM} : am_run (c_Text_sortAt s_Text_at s_Text_isDigit s_Text_isWordByte) k_Text_sortAt J K (n + 1) 7 L S M = ai_switch [((-1), 64), (34, 79), (39, 73), (40, 67), (41, 70), (46, 76)] 81 (am_run (c_Text_sortAt s_Text_at s_Text_isDigit s_Text_isWordByte) k_Text_sortAt J K n) K 7 L S M := by rfl
theorem r_Text_sortAt_64 {s_Text_at : aS} {s_Text_isDigit : aS} {s_Text_isWordByte : aS} {J : aJ} {K : aR} {n : Nat} {L : aL} {S : List Value} {M : aM} : am_run (c_Text_sortAt s_Text_at s_Text_isDigit s_Text_isWordByte) k_Text_sortAt J K (n + 1) 64 L S M = ai_const 10 66 (am_run (c_Text_sortAt s_Text_at s_Text_isDigit s_Text_isWordByte) k_Text_sortAt J K n) K 64 L S M := by rfl
theorem r_Text_sortAt_66 {s_Text_at : aS} {s_Text_isDigit : aS} {s_Text_isWordByte : aS} {J : aJ} {K : aR} {n : Nat} {L : aL} {S : List Value} {M : aM} : am_run (c_Text_sortAt s_Text_at s_Text_isDigit s_Text_isWordByte) k_Text_sortAt J K (n + 1) 66 L S M = ai_iret (am_run (c_Text_sortAt s_Text_at s_Text_isDigit s_Text_isWordByte) k_Text_sortAt J K n) K 66 L S M := by rfl
theorem r_Text_sortAt_67 {s_Text_at : aS} {s_Text_isDigit : aS} {s_Text_isWordByte : aS} {J : aJ} {K : aR} {n : Nat} {L : aL} {S : List Value} {M : aM} : am_run (c_Text_sortAt s_Text_at s_Text_isDigit s_Text_isWordByte) k_Text_sortAt J K (n + 1) 67 L S M = ai_const 6 69 (am_run (c_Text_sortAt s_Text_at s_Text_isDigit s_Text_isWordByte) k_Text_sortAt J K n) K 67 L S M := by rfl
theorem r_Text_sortAt_69 {s_Text_at : aS} {s_Text_isDigit : aS} {s_Text_isWordByte : aS} {J : aJ} {K : aR} {n : Nat} {L : aL} {S : List Value} {M : aM} : am_run (c_Text_sortAt s_Text_at s_Text_isDigit s_Text_isWordByte) k_Text_sortAt J K (n + 1) 69 L S M = ai_iret (am_run (c_Text_sortAt s_Text_at s_Text_isDigit s_Text_isWordByte) k_Text_sortAt J K n) K 69 L S M := by rfl
theorem r_Text_sortAt_70 {s_Text_at : aS} {s_Text_isDigit : aS} {s_Text_isWordByte : aS} {J : aJ} {K : aR} {n : Nat} {L : aL} {S : List Value} {M : aM} : am_run (c_Text_sortAt s_Text_at s_Text_isDigit s_Text_isWordByte) k_Text_sortAt J K (n + 1) 70 L S M = ai_const 7 72 (am_run (c_Text_sortAt s_Text_at s_Text_isDigit s_Text_isWordByte) k_Text_sortAt J K n) K 70 L S M := by rfl
theorem r_Text_sortAt_72 {s_Text_at : aS} {s_Text_isDigit : aS} {s_Text_isWordByte : aS} {J : aJ} {K : aR} {n : Nat} {L : aL} {S : List Value} {M : aM} : am_run (c_Text_sortAt s_Text_at s_Text_isDigit s_Text_isWordByte) k_Text_sortAt J K (n + 1) 72 L S M = ai_iret (am_run (c_Text_sortAt s_Text_at s_Text_isDigit s_Text_isWordByte) k_Text_sortAt J K n) K 72 L S M := by rfl
theorem r_Text_sortAt_73 {s_Text_at : aS} {s_Text_isDigit : aS} {s_Text_isWordByte : aS} {J : aJ} {K : aR} {n : Nat} {L : aL} {S : List Value} {M : aM} : am_run (c_Text_sortAt s_Text_at s_Text_isDigit s_Text_isWordByte) k_Text_sortAt J K (n + 1) 73 L S M = ai_const 8 75 (am_run (c_Text_sortAt s_Text_at s_Text_isDigit s_Text_isWordByte) k_Text_sortAt J K n) K 73 L S M := by rfl
theorem r_Text_sortAt_75 {s_Text_at : aS} {s_Text_isDigit : aS} {s_Text_isWordByte : aS} {J : aJ} {K : aR} {n : Nat} {L : aL} {S : List Value} {M : aM} : am_run (c_Text_sortAt s_Text_at s_Text_isDigit s_Text_isWordByte) k_Text_sortAt J K (n + 1) 75 L S M = ai_iret (am_run (c_Text_sortAt s_Text_at s_Text_isDigit s_Text_isWordByte) k_Text_sortAt J K n) K 75 L S M := by rfl
theorem r_Text_sortAt_76 {s_Text_at : aS} {s_Text_isDigit : aS} {s_Text_isWordByte : aS} {J : aJ} {K : aR} {n : Nat} {L : aL} {S : List Value} {M : aM} : am_run (c_Text_sortAt s_Text_at s_Text_isDigit s_Text_isWordByte) k_Text_sortAt J K (n + 1) 76 L S M = ai_const 9 78 (am_run (c_Text_sortAt s_Text_at s_Text_isDigit s_Text_isWordByte) k_Text_sortAt J K n) K 76 L S M := by rfl
theorem r_Text_sortAt_78 {s_Text_at : aS} {s_Text_isDigit : aS} {s_Text_isWordByte : aS} {J : aJ} {K : aR} {n : Nat} {L : aL} {S : List Value} {M : aM} : am_run (c_Text_sortAt s_Text_at s_Text_isDigit s_Text_isWordByte) k_Text_sortAt J K (n + 1) 78 L S M = ai_iret (am_run (c_Text_sortAt s_Text_at s_Text_isDigit s_Text_isWordByte) k_Text_sortAt J K n) K 78 L S M := by rfl
theorem r_Text_sortAt_79 {s_Text_at : aS} {s_Text_isDigit : aS} {s_Text_isWordByte : aS} {J : aJ} {K : aR} {n : Nat} {L : aL} {S : List Value} {M : aM} : am_run (c_Text_sortAt s_Text_at s_Text_isDigit s_Text_isWordByte) k_Text_sortAt J K (n + 1) 79 L S M = ai_const 3 80 (am_run (c_Text_sortAt s_Text_at s_Text_isDigit s_Text_isWordByte) k_Text_sortAt J K n) K 79 L S M := by rfl
theorem r_Text_sortAt_80 {s_Text_at : aS} {s_Text_isDigit : aS} {s_Text_isWordByte : aS} {J : aJ} {K : aR} {n : Nat} {L : aL} {S : List Value} {M : aM} : am_run (c_Text_sortAt s_Text_at s_Text_isDigit s_Text_isWordByte) k_Text_sortAt J K (n + 1) 80 L S M = ai_iret (am_run (c_Text_sortAt s_Text_at s_Text_isDigit s_Text_isWordByte) k_Text_sortAt J K n) K 80 L S M := by rfl
theorem r_Text_sortAt_81 {s_Text_at : aS} {s_Text_isDigit : aS} {s_Text_isWordByte : aS} {J : aJ} {K : aR} {n : Nat} {L : aL} {S : List Value} {M : aM} : am_run (c_Text_sortAt s_Text_at s_Text_isDigit s_Text_isWordByte) k_Text_sortAt J K (n + 1) 81 L S M = ai_iload 2 82 (am_run (c_Text_sortAt s_Text_at s_Text_isDigit s_Text_isWordByte) k_Text_sortAt J K n) K 81 L S M := by rfl
theorem r_Text_sortAt_82 {s_Text_at : aS} {s_Text_isDigit : aS} {s_Text_isWordByte : aS} {J : aJ} {K : aR} {n : Nat} {L : aL} {S : List Value} {M : aM} : am_run (c_Text_sortAt s_Text_at s_Text_isDigit s_Text_isWordByte) k_Text_sortAt J K (n + 1) 82 L S M = ai_const 45 84 (am_run (c_Text_sortAt s_Text_at s_Text_isDigit s_Text_isWordByte) k_Text_sortAt J K n) K 82 L S M := by rfl
theorem r_Text_sortAt_84 {s_Text_at : aS} {s_Text_isDigit : aS} {s_Text_isWordByte : aS} {J : aJ} {K : aR} {n : Nat} {L : aL} {S : List Value} {M : aM} : am_run (c_Text_sortAt s_Text_at s_Text_isDigit s_Text_isWordByte) k_Text_sortAt J K (n + 1) 84 L S M = ai_cmpeq 94 87 (am_run (c_Text_sortAt s_Text_at s_Text_isDigit s_Text_isWordByte) k_Text_sortAt J K n) K 84 L S M := by rfl
theorem r_Text_sortAt_87 {s_Text_at : aS} {s_Text_isDigit : aS} {s_Text_isWordByte : aS} {J : aJ} {K : aR} {n : Nat} {L : aL} {S : List Value} {M : aM} : am_run (c_Text_sortAt s_Text_at s_Text_isDigit s_Text_isWordByte) k_Text_sortAt J K (n + 1) 87 L S M = ai_iload 2 88 (am_run (c_Text_sortAt s_Text_at s_Text_isDigit s_Text_isWordByte) k_Text_sortAt J K n) K 87 L S M := by rfl
theorem r_Text_sortAt_88 {s_Text_at : aS} {s_Text_isDigit : aS} {s_Text_isWordByte : aS} {J : aJ} {K : aR} {n : Nat} {L : aL} {S : List Value} {M : aM} : am_run (c_Text_sortAt s_Text_at s_Text_isDigit s_Text_isWordByte) k_Text_sortAt J K (n + 1) 88 L S M = ai_calls1 s_Text_isDigit 91 (am_run (c_Text_sortAt s_Text_at s_Text_isDigit s_Text_isWordByte) k_Text_sortAt J K n) K 88 L S M := by rfl
theorem r_Text_sortAt_91 {s_Text_at : aS} {s_Text_isDigit : aS} {s_Text_isWordByte : aS} {J : aJ} {K : aR} {n : Nat} {L : aL} {S : List Value} {M : aM} : am_run (c_Text_sortAt s_Text_at s_Text_isDigit s_Text_isWordByte) k_Text_sortAt J K (n + 1) 91 L S M = ai_ifeq 96 94 (am_run (c_Text_sortAt s_Text_at s_Text_isDigit s_Text_isWordByte) k_Text_sortAt J K n) K 91 L S M := by rfl
theorem r_Text_sortAt_94 {s_Text_at : aS} {s_Text_isDigit : aS} {s_Text_isWordByte : aS} {J : aJ} {K : aR} {n : Nat} {L : aL} {S : List Value} {M : aM} : am_run (c_Text_sortAt s_Text_at s_Text_isDigit s_Text_isWordByte) k_Text_sortAt J K (n + 1) 94 L S M = ai_const 1 95 (am_run (c_Text_sortAt s_Text_at s_Text_isDigit s_Text_isWordByte) k_Text_sortAt J K n) K 94 L S M := by rfl
theorem r_Text_sortAt_95 {s_Text_at : aS} {s_Text_isDigit : aS} {s_Text_isWordByte : aS} {J : aJ} {K : aR} {n : Nat} {L : aL} {S : List Value} {M : aM} : am_run (c_Text_sortAt s_Text_at s_Text_isDigit s_Text_isWordByte) k_Text_sortAt J K (n + 1) 95 L S M = ai_iret (am_run (c_Text_sortAt s_Text_at s_Text_isDigit s_Text_isWordByte) k_Text_sortAt J K n) K 95 L S M := by rfl
theorem r_Text_sortAt_96 {s_Text_at : aS} {s_Text_isDigit : aS} {s_Text_isWordByte : aS} {J : aJ} {K : aR} {n : Nat} {L : aL} {S : List Value} {M : aM} : am_run (c_Text_sortAt s_Text_at s_Text_isDigit s_Text_isWordByte) k_Text_sortAt J K (n + 1) 96 L S M = ai_iload 2 97 (am_run (c_Text_sortAt s_Text_at s_Text_isDigit s_Text_isWordByte) k_Text_sortAt J K n) K 96 L S M := by rfl
theorem r_Text_sortAt_97 {s_Text_at : aS} {s_Text_isDigit : aS} {s_Text_isWordByte : aS} {J : aJ} {K : aR} {n : Nat} {L : aL} {S : List Value} {M : aM} : am_run (c_Text_sortAt s_Text_at s_Text_isDigit s_Text_isWordByte) k_Text_sortAt J K (n + 1) 97 L S M = ai_calls1 s_Text_isWordByte 100 (am_run (c_Text_sortAt s_Text_at s_Text_isDigit s_Text_isWordByte) k_Text_sortAt J K n) K 97 L S M := by rfl
theorem r_Text_sortAt_100 {s_Text_at : aS} {s_Text_isDigit : aS} {s_Text_isWordByte : aS} {J : aJ} {K : aR} {n : Nat} {L : aL} {S : List Value} {M : aM} : am_run (c_Text_sortAt s_Text_at s_Text_isDigit s_Text_isWordByte) k_Text_sortAt J K (n + 1) 100 L S M = ai_ifeq 107 103 (am_run (c_Text_sortAt s_Text_at s_Text_isDigit s_Text_isWordByte) k_Text_sortAt J K n) K 100 L S M := by rfl
theorem r_Text_sortAt_103 {s_Text_at : aS} {s_Text_isDigit : aS} {s_Text_isWordByte : aS} {J : aJ} {K : aR} {n : Nat} {L : aL} {S : List Value} {M : aM} : am_run (c_Text_sortAt s_Text_at s_Text_isDigit s_Text_isWordByte) k_Text_sortAt J K (n + 1) 103 L S M = ai_const 2 104 (am_run (c_Text_sortAt s_Text_at s_Text_isDigit s_Text_isWordByte) k_Text_sortAt J K n) K 103 L S M := by rfl
theorem r_Text_sortAt_104 {s_Text_at : aS} {s_Text_isDigit : aS} {s_Text_isWordByte : aS} {J : aJ} {K : aR} {n : Nat} {L : aL} {S : List Value} {M : aM} : am_run (c_Text_sortAt s_Text_at s_Text_isDigit s_Text_isWordByte) k_Text_sortAt J K (n + 1) 104 L S M = ai_goto 109 (am_run (c_Text_sortAt s_Text_at s_Text_isDigit s_Text_isWordByte) k_Text_sortAt J K n) K 104 L S M := by rfl
theorem r_Text_sortAt_107 {s_Text_at : aS} {s_Text_isDigit : aS} {s_Text_isWordByte : aS} {J : aJ} {K : aR} {n : Nat} {L : aL} {S : List Value} {M : aM} : am_run (c_Text_sortAt s_Text_at s_Text_isDigit s_Text_isWordByte) k_Text_sortAt J K (n + 1) 107 L S M = ai_const 11 109 (am_run (c_Text_sortAt s_Text_at s_Text_isDigit s_Text_isWordByte) k_Text_sortAt J K n) K 107 L S M := by rfl
theorem r_Text_sortAt_109 {s_Text_at : aS} {s_Text_isDigit : aS} {s_Text_isWordByte : aS} {J : aJ} {K : aR} {n : Nat} {L : aL} {S : List Value} {M : aM} : am_run (c_Text_sortAt s_Text_at s_Text_isDigit s_Text_isWordByte) k_Text_sortAt J K (n + 1) 109 L S M = ai_iret (am_run (c_Text_sortAt s_Text_at s_Text_isDigit s_Text_isWordByte) k_Text_sortAt J K n) K 109 L S M := by rfl
def c_Text_tokenEnd (s_Text_numberEnd : aS) (s_Text_nameEnd : aS) (s_Text_stringEnd : aS) (s_Text_at : aS) (s_Text_isWordByte : aS) : List (Nat × aI) := [
  (0, ai_iload 2 1),
  (1, ai_switch [(1, 60), (2, 66), (3, 72), (4, 114), (5, 114), (6, 114), (7, 114), (8, 114), (9, 78), (10, 114), (11, 112)] 114),
  (60, ai_aload 0 61),
  (61, ai_iload 1 62),
  (62, ai_callv2 2 s_Text_numberEnd 65),
  (65, ai_iret),
  (66, ai_aload 0 67),
  (67, ai_iload 1 68),
  (68, ai_callv2 2 s_Text_nameEnd 71),
  (71, ai_iret),
  (72, ai_aload 0 73),
  (73, ai_iload 1 74),
  (74, ai_callv2 2 s_Text_stringEnd 77),
  (77, ai_iret),
  (78, ai_aload 0 79),
  (79, ai_iload 1 80),
  (80, ai_const 1 81),
  (81, ai_isub 82),
  (82, ai_callv2 2 s_Text_at 85),
  (85, ai_calls1 s_Text_isWordByte 88),
  (88, ai_ifne 104 91),
  (91, ai_aload 0 92),
  (92, ai_iload 1 93),
  (93, ai_const 1 94),
  (94, ai_iadd 95),
  (95, ai_callv2 2 s_Text_at 98),
  (98, ai_calls1 s_Text_isWordByte 101),
  (101, ai_ifeq 108 104),
  (104, ai_const (-1) 105),
  (105, ai_goto 111),
  (108, ai_iload 1 109),
  (109, ai_const 1 110),
  (110, ai_iadd 111),
  (111, ai_iret),
  (112, ai_const (-1) 113),
  (113, ai_iret),
  (114, ai_iload 1 115),
  (115, ai_const 1 116),
  (116, ai_iadd 117),
  (117, ai_iret)]
set_option maxRecDepth 100000 in
set_option maxHeartbeats 4000000 in
theorem tb_Text_tokenEnd {G : aG} {d : Nat} {s_Text_numberEnd : aS} {d_Text_numberEnd : Nat} (h_Text_numberEnd : am_Sp G Y_Text_numberEnd d_Text_numberEnd s_Text_numberEnd) (l_Text_numberEnd : d_Text_numberEnd < d) {s_Text_nameEnd : aS} {d_Text_nameEnd : Nat} (h_Text_nameEnd : am_Sp G Y_Text_nameEnd d_Text_nameEnd s_Text_nameEnd) (l_Text_nameEnd : d_Text_nameEnd < d) {s_Text_stringEnd : aS} {d_Text_stringEnd : Nat} (h_Text_stringEnd : am_Sp G Y_Text_stringEnd d_Text_stringEnd s_Text_stringEnd) (l_Text_stringEnd : d_Text_stringEnd < d) {s_Text_at : aS} {d_Text_at : Nat} (h_Text_at : am_Sp G Y_Text_at d_Text_at s_Text_at) (l_Text_at : d_Text_at < d) {s_Text_isWordByte : aS} {d_Text_isWordByte : Nat} (h_Text_isWordByte : am_Sp G Y_Text_isWordByte d_Text_isWordByte s_Text_isWordByte) (l_Text_isWordByte : d_Text_isWordByte < d) : am_tab G Y_Text_tokenEnd d (c_Text_tokenEnd s_Text_numberEnd s_Text_nameEnd s_Text_stringEnd s_Text_at s_Text_isWordByte) := by
  intro K p e s m args below meth c C
  exact ⟨as_iload_n C (pc := 0) (q := 2) (by decide +kernel) rfl rfl,
    as_table C (pc := 1) (dflt := 113) (lo := 1) (hi := 11) (offs := #[59, 65, 71, 113, 113, 113, 113, 113, 77, 113, 111]) (len := 59) (by decide +kernel) (by decide +kernel) (by decide) (by decide),
    as_aload_n C (pc := 60) (q := 0) (by decide +kernel) rfl rfl,
    as_iload_n C (pc := 61) (q := 1) (by decide +kernel) rfl rfl,
    as_callv2 C (pc := 62) h_Text_numberEnd (T := T_Text) (N := 2) rfl w_288 w_71 w_287 w_8 w_285 hy_Text_numberEnd (am_rm_of l_Text_numberEnd (by decide)) (by decide +kernel) rfl,
    as_iret C (pc := 65) rfl (by decide +kernel),
    as_aload_n C (pc := 66) (q := 0) (by decide +kernel) rfl rfl,
    as_iload_n C (pc := 67) (q := 1) (by decide +kernel) rfl rfl,
    as_callv2 C (pc := 68) h_Text_nameEnd (T := T_Text) (N := 2) rfl w_296 w_71 w_295 w_10 w_293 hy_Text_nameEnd (am_rm_of l_Text_nameEnd (by decide)) (by decide +kernel) rfl,
    as_iret C (pc := 71) rfl (by decide +kernel),
    as_aload_n C (pc := 72) (q := 0) (by decide +kernel) rfl rfl,
    as_iload_n C (pc := 73) (q := 1) (by decide +kernel) rfl rfl,
    as_callv2 C (pc := 74) h_Text_stringEnd (T := T_Text) (N := 2) rfl w_300 w_71 w_299 w_11 w_297 hy_Text_stringEnd (am_rm_of l_Text_stringEnd (by decide)) (by decide +kernel) rfl,
    as_iret C (pc := 77) rfl (by decide +kernel),
    as_aload_n C (pc := 78) (q := 0) (by decide +kernel) rfl rfl,
    as_iload_n C (pc := 79) (q := 1) (by decide +kernel) rfl rfl,
    as_iconst C (pc := 80) (n := 1) (by decide +kernel) (by decide +kernel) rfl,
    as_isub C (pc := 81) (by decide +kernel) rfl,
    as_callv2 C (pc := 82) h_Text_at (T := T_Text) (N := 2) rfl w_270 w_71 w_269 w_5 w_267 hy_Text_at (am_rm_of l_Text_at (by decide)) (by decide +kernel) rfl,
    as_calls1 C (pc := 85) h_Text_isWordByte w_280 w_71 w_279 w_278 hy_Text_isWordByte (am_rm_of l_Text_isWordByte (by decide)) (by decide +kernel) rfl,
    as_ifne C (pc := 88) (off := 16) (by decide +kernel) (by decide) rfl,
    as_aload_n C (pc := 91) (q := 0) (by decide +kernel) rfl rfl,
    as_iload_n C (pc := 92) (q := 1) (by decide +kernel) rfl rfl,
    as_iconst C (pc := 93) (n := 1) (by decide +kernel) (by decide +kernel) rfl,
    as_iadd C (pc := 94) (by decide +kernel) rfl,
    as_callv2 C (pc := 95) h_Text_at (T := T_Text) (N := 2) rfl w_270 w_71 w_269 w_5 w_267 hy_Text_at (am_rm_of l_Text_at (by decide)) (by decide +kernel) rfl,
    as_calls1 C (pc := 98) h_Text_isWordByte w_280 w_71 w_279 w_278 hy_Text_isWordByte (am_rm_of l_Text_isWordByte (by decide)) (by decide +kernel) rfl,
    as_ifeq C (pc := 101) (off := 7) (by decide +kernel) (by decide) rfl,
    as_iconst C (pc := 104) (n := (-1)) (by decide +kernel) (by decide +kernel) rfl,
    as_goto C (pc := 105) (off := 6) (by decide +kernel) (by decide),
    as_iload_n C (pc := 108) (q := 1) (by decide +kernel) rfl rfl,
    as_iconst C (pc := 109) (n := 1) (by decide +kernel) (by decide +kernel) rfl,
    as_iadd C (pc := 110) (by decide +kernel) rfl,
    as_iret C (pc := 111) rfl (by decide +kernel),
    as_iconst C (pc := 112) (n := (-1)) (by decide +kernel) (by decide +kernel) rfl,
    as_iret C (pc := 113) rfl (by decide +kernel),
    as_iload_n C (pc := 114) (q := 1) (by decide +kernel) rfl rfl,
    as_iconst C (pc := 115) (n := 1) (by decide +kernel) (by decide +kernel) rfl,
    as_iadd C (pc := 116) (by decide +kernel) rfl,
    as_iret C (pc := 117) rfl (by decide +kernel), trivial⟩
abbrev k_Text_tokenEnd : List Nat := []
theorem r_Text_tokenEnd_0 {s_Text_numberEnd : aS} {s_Text_nameEnd : aS} {s_Text_stringEnd : aS} {s_Text_at : aS} {s_Text_isWordByte : aS} {J : aJ} {K : aR} {n : Nat} {L : aL} {S : List Value} {M : aM} : am_run (c_Text_tokenEnd s_Text_numberEnd s_Text_nameEnd s_Text_stringEnd s_Text_at s_Text_isWordByte) k_Text_tokenEnd J K (n + 1) 0 L S M = ai_iload 2 1 (am_run (c_Text_tokenEnd s_Text_numberEnd s_Text_nameEnd s_Text_stringEnd s_Text_at s_Text_isWordByte) k_Text_tokenEnd J K n) K 0 L S M := by rfl
theorem r_Text_tokenEnd_1 {s_Text_numberEnd : aS} {s_Text_nameEnd : aS} {s_Text_stringEnd : aS} {s_Text_at : aS} {s_Text_isWordByte : aS} {J : aJ} {K : aR} {n : Nat} {L : aL} {S : List Value} {M : aM} : am_run (c_Text_tokenEnd s_Text_numberEnd s_Text_nameEnd s_Text_stringEnd s_Text_at s_Text_isWordByte) k_Text_tokenEnd J K (n + 1) 1 L S M = ai_switch [(1, 60), (2, 66), (3, 72), (4, 114), (5, 114), (6, 114), (7, 114), (8, 114), (9, 78), (10, 114), (11, 112)] 114 (am_run (c_Text_tokenEnd s_Text_numberEnd s_Text_nameEnd s_Text_stringEnd s_Text_at s_Text_isWordByte) k_Text_tokenEnd J K n) K 1 L S M := by rfl
theorem r_Text_tokenEnd_60 {s_Text_numberEnd : aS} {s_Text_nameEnd : aS} {s_Text_stringEnd : aS} {s_Text_at : aS} {s_Text_isWordByte : aS} {J : aJ} {K : aR} {n : Nat} {L : aL} {S : List Value} {M : aM} : am_run (c_Text_tokenEnd s_Text_numberEnd s_Text_nameEnd s_Text_stringEnd s_Text_at s_Text_isWordByte) k_Text_tokenEnd J K (n + 1) 60 L S M = ai_aload 0 61 (am_run (c_Text_tokenEnd s_Text_numberEnd s_Text_nameEnd s_Text_stringEnd s_Text_at s_Text_isWordByte) k_Text_tokenEnd J K n) K 60 L S M := by rfl
theorem r_Text_tokenEnd_61 {s_Text_numberEnd : aS} {s_Text_nameEnd : aS} {s_Text_stringEnd : aS} {s_Text_at : aS} {s_Text_isWordByte : aS} {J : aJ} {K : aR} {n : Nat} {L : aL} {S : List Value} {M : aM} : am_run (c_Text_tokenEnd s_Text_numberEnd s_Text_nameEnd s_Text_stringEnd s_Text_at s_Text_isWordByte) k_Text_tokenEnd J K (n + 1) 61 L S M = ai_iload 1 62 (am_run (c_Text_tokenEnd s_Text_numberEnd s_Text_nameEnd s_Text_stringEnd s_Text_at s_Text_isWordByte) k_Text_tokenEnd J K n) K 61 L S M := by rfl
theorem r_Text_tokenEnd_62 {s_Text_numberEnd : aS} {s_Text_nameEnd : aS} {s_Text_stringEnd : aS} {s_Text_at : aS} {s_Text_isWordByte : aS} {J : aJ} {K : aR} {n : Nat} {L : aL} {S : List Value} {M : aM} : am_run (c_Text_tokenEnd s_Text_numberEnd s_Text_nameEnd s_Text_stringEnd s_Text_at s_Text_isWordByte) k_Text_tokenEnd J K (n + 1) 62 L S M = ai_callv2 2 s_Text_numberEnd 65 (am_run (c_Text_tokenEnd s_Text_numberEnd s_Text_nameEnd s_Text_stringEnd s_Text_at s_Text_isWordByte) k_Text_tokenEnd J K n) K 62 L S M := by rfl
theorem r_Text_tokenEnd_65 {s_Text_numberEnd : aS} {s_Text_nameEnd : aS} {s_Text_stringEnd : aS} {s_Text_at : aS} {s_Text_isWordByte : aS} {J : aJ} {K : aR} {n : Nat} {L : aL} {S : List Value} {M : aM} : am_run (c_Text_tokenEnd s_Text_numberEnd s_Text_nameEnd s_Text_stringEnd s_Text_at s_Text_isWordByte) k_Text_tokenEnd J K (n + 1) 65 L S M = ai_iret (am_run (c_Text_tokenEnd s_Text_numberEnd s_Text_nameEnd s_Text_stringEnd s_Text_at s_Text_isWordByte) k_Text_tokenEnd J K n) K 65 L S M := by rfl
theorem r_Text_tokenEnd_66 {s_Text_numberEnd : aS} {s_Text_nameEnd : aS} {s_Text_stringEnd : aS} {s_Text_at : aS} {s_Text_isWordByte : aS} {J : aJ} {K : aR} {n : Nat} {L : aL} {S : List Value} {M : aM} : am_run (c_Text_tokenEnd s_Text_numberEnd s_Text_nameEnd s_Text_stringEnd s_Text_at s_Text_isWordByte) k_Text_tokenEnd J K (n + 1) 66 L S M = ai_aload 0 67 (am_run (c_Text_tokenEnd s_Text_numberEnd s_Text_nameEnd s_Text_stringEnd s_Text_at s_Text_isWordByte) k_Text_tokenEnd J K n) K 66 L S M := by rfl
theorem r_Text_tokenEnd_67 {s_Text_numberEnd : aS} {s_Text_nameEnd : aS} {s_Text_stringEnd : aS} {s_Text_at : aS} {s_Text_isWordByte : aS} {J : aJ} {K : aR} {n : Nat} {L : aL} {S : List Value} {M : aM} : am_run (c_Text_tokenEnd s_Text_numberEnd s_Text_nameEnd s_Text_stringEnd s_Text_at s_Text_isWordByte) k_Text_tokenEnd J K (n + 1) 67 L S M = ai_iload 1 68 (am_run (c_Text_tokenEnd s_Text_numberEnd s_Text_nameEnd s_Text_stringEnd s_Text_at s_Text_isWordByte) k_Text_tokenEnd J K n) K 67 L S M := by rfl
theorem r_Text_tokenEnd_68 {s_Text_numberEnd : aS} {s_Text_nameEnd : aS} {s_Text_stringEnd : aS} {s_Text_at : aS} {s_Text_isWordByte : aS} {J : aJ} {K : aR} {n : Nat} {L : aL} {S : List Value} {M : aM} : am_run (c_Text_tokenEnd s_Text_numberEnd s_Text_nameEnd s_Text_stringEnd s_Text_at s_Text_isWordByte) k_Text_tokenEnd J K (n + 1) 68 L S M = ai_callv2 2 s_Text_nameEnd 71 (am_run (c_Text_tokenEnd s_Text_numberEnd s_Text_nameEnd s_Text_stringEnd s_Text_at s_Text_isWordByte) k_Text_tokenEnd J K n) K 68 L S M := by rfl
theorem r_Text_tokenEnd_71 {s_Text_numberEnd : aS} {s_Text_nameEnd : aS} {s_Text_stringEnd : aS} {s_Text_at : aS} {s_Text_isWordByte : aS} {J : aJ} {K : aR} {n : Nat} {L : aL} {S : List Value} {M : aM} : am_run (c_Text_tokenEnd s_Text_numberEnd s_Text_nameEnd s_Text_stringEnd s_Text_at s_Text_isWordByte) k_Text_tokenEnd J K (n + 1) 71 L S M = ai_iret (am_run (c_Text_tokenEnd s_Text_numberEnd s_Text_nameEnd s_Text_stringEnd s_Text_at s_Text_isWordByte) k_Text_tokenEnd J K n) K 71 L S M := by rfl
theorem r_Text_tokenEnd_72 {s_Text_numberEnd : aS} {s_Text_nameEnd : aS} {s_Text_stringEnd : aS} {s_Text_at : aS} {s_Text_isWordByte : aS} {J : aJ} {K : aR} {n : Nat} {L : aL} {S : List Value} {M : aM} : am_run (c_Text_tokenEnd s_Text_numberEnd s_Text_nameEnd s_Text_stringEnd s_Text_at s_Text_isWordByte) k_Text_tokenEnd J K (n + 1) 72 L S M = ai_aload 0 73 (am_run (c_Text_tokenEnd s_Text_numberEnd s_Text_nameEnd s_Text_stringEnd s_Text_at s_Text_isWordByte) k_Text_tokenEnd J K n) K 72 L S M := by rfl
theorem r_Text_tokenEnd_73 {s_Text_numberEnd : aS} {s_Text_nameEnd : aS} {s_Text_stringEnd : aS} {s_Text_at : aS} {s_Text_isWordByte : aS} {J : aJ} {K : aR} {n : Nat} {L : aL} {S : List Value} {M : aM} : am_run (c_Text_tokenEnd s_Text_numberEnd s_Text_nameEnd s_Text_stringEnd s_Text_at s_Text_isWordByte) k_Text_tokenEnd J K (n + 1) 73 L S M = ai_iload 1 74 (am_run (c_Text_tokenEnd s_Text_numberEnd s_Text_nameEnd s_Text_stringEnd s_Text_at s_Text_isWordByte) k_Text_tokenEnd J K n) K 73 L S M := by rfl
theorem r_Text_tokenEnd_74 {s_Text_numberEnd : aS} {s_Text_nameEnd : aS} {s_Text_stringEnd : aS} {s_Text_at : aS} {s_Text_isWordByte : aS} {J : aJ} {K : aR} {n : Nat} {L : aL} {S : List Value} {M : aM} : am_run (c_Text_tokenEnd s_Text_numberEnd s_Text_nameEnd s_Text_stringEnd s_Text_at s_Text_isWordByte) k_Text_tokenEnd J K (n + 1) 74 L S M = ai_callv2 2 s_Text_stringEnd 77 (am_run (c_Text_tokenEnd s_Text_numberEnd s_Text_nameEnd s_Text_stringEnd s_Text_at s_Text_isWordByte) k_Text_tokenEnd J K n) K 74 L S M := by rfl
theorem r_Text_tokenEnd_77 {s_Text_numberEnd : aS} {s_Text_nameEnd : aS} {s_Text_stringEnd : aS} {s_Text_at : aS} {s_Text_isWordByte : aS} {J : aJ} {K : aR} {n : Nat} {L : aL} {S : List Value} {M : aM} : am_run (c_Text_tokenEnd s_Text_numberEnd s_Text_nameEnd s_Text_stringEnd s_Text_at s_Text_isWordByte) k_Text_tokenEnd J K (n + 1) 77 L S M = ai_iret (am_run (c_Text_tokenEnd s_Text_numberEnd s_Text_nameEnd s_Text_stringEnd s_Text_at s_Text_isWordByte) k_Text_tokenEnd J K n) K 77 L S M := by rfl
theorem r_Text_tokenEnd_78 {s_Text_numberEnd : aS} {s_Text_nameEnd : aS} {s_Text_stringEnd : aS} {s_Text_at : aS} {s_Text_isWordByte : aS} {J : aJ} {K : aR} {n : Nat} {L : aL} {S : List Value} {M : aM} : am_run (c_Text_tokenEnd s_Text_numberEnd s_Text_nameEnd s_Text_stringEnd s_Text_at s_Text_isWordByte) k_Text_tokenEnd J K (n + 1) 78 L S M = ai_aload 0 79 (am_run (c_Text_tokenEnd s_Text_numberEnd s_Text_nameEnd s_Text_stringEnd s_Text_at s_Text_isWordByte) k_Text_tokenEnd J K n) K 78 L S M := by rfl
theorem r_Text_tokenEnd_79 {s_Text_numberEnd : aS} {s_Text_nameEnd : aS} {s_Text_stringEnd : aS} {s_Text_at : aS} {s_Text_isWordByte : aS} {J : aJ} {K : aR} {n : Nat} {L : aL} {S : List Value} {M : aM} : am_run (c_Text_tokenEnd s_Text_numberEnd s_Text_nameEnd s_Text_stringEnd s_Text_at s_Text_isWordByte) k_Text_tokenEnd J K (n + 1) 79 L S M = ai_iload 1 80 (am_run (c_Text_tokenEnd s_Text_numberEnd s_Text_nameEnd s_Text_stringEnd s_Text_at s_Text_isWordByte) k_Text_tokenEnd J K n) K 79 L S M := by rfl
theorem r_Text_tokenEnd_80 {s_Text_numberEnd : aS} {s_Text_nameEnd : aS} {s_Text_stringEnd : aS} {s_Text_at : aS} {s_Text_isWordByte : aS} {J : aJ} {K : aR} {n : Nat} {L : aL} {S : List Value} {M : aM} : am_run (c_Text_tokenEnd s_Text_numberEnd s_Text_nameEnd s_Text_stringEnd s_Text_at s_Text_isWordByte) k_Text_tokenEnd J K (n + 1) 80 L S M = ai_const 1 81 (am_run (c_Text_tokenEnd s_Text_numberEnd s_Text_nameEnd s_Text_stringEnd s_Text_at s_Text_isWordByte) k_Text_tokenEnd J K n) K 80 L S M := by rfl
theorem r_Text_tokenEnd_81 {s_Text_numberEnd : aS} {s_Text_nameEnd : aS} {s_Text_stringEnd : aS} {s_Text_at : aS} {s_Text_isWordByte : aS} {J : aJ} {K : aR} {n : Nat} {L : aL} {S : List Value} {M : aM} : am_run (c_Text_tokenEnd s_Text_numberEnd s_Text_nameEnd s_Text_stringEnd s_Text_at s_Text_isWordByte) k_Text_tokenEnd J K (n + 1) 81 L S M = ai_isub 82 (am_run (c_Text_tokenEnd s_Text_numberEnd s_Text_nameEnd s_Text_stringEnd s_Text_at s_Text_isWordByte) k_Text_tokenEnd J K n) K 81 L S M := by rfl
theorem r_Text_tokenEnd_82 {s_Text_numberEnd : aS} {s_Text_nameEnd : aS} {s_Text_stringEnd : aS} {s_Text_at : aS} {s_Text_isWordByte : aS} {J : aJ} {K : aR} {n : Nat} {L : aL} {S : List Value} {M : aM} : am_run (c_Text_tokenEnd s_Text_numberEnd s_Text_nameEnd s_Text_stringEnd s_Text_at s_Text_isWordByte) k_Text_tokenEnd J K (n + 1) 82 L S M = ai_callv2 2 s_Text_at 85 (am_run (c_Text_tokenEnd s_Text_numberEnd s_Text_nameEnd s_Text_stringEnd s_Text_at s_Text_isWordByte) k_Text_tokenEnd J K n) K 82 L S M := by rfl
theorem r_Text_tokenEnd_85 {s_Text_numberEnd : aS} {s_Text_nameEnd : aS} {s_Text_stringEnd : aS} {s_Text_at : aS} {s_Text_isWordByte : aS} {J : aJ} {K : aR} {n : Nat} {L : aL} {S : List Value} {M : aM} : am_run (c_Text_tokenEnd s_Text_numberEnd s_Text_nameEnd s_Text_stringEnd s_Text_at s_Text_isWordByte) k_Text_tokenEnd J K (n + 1) 85 L S M = ai_calls1 s_Text_isWordByte 88 (am_run (c_Text_tokenEnd s_Text_numberEnd s_Text_nameEnd s_Text_stringEnd s_Text_at s_Text_isWordByte) k_Text_tokenEnd J K n) K 85 L S M := by rfl
theorem r_Text_tokenEnd_88 {s_Text_numberEnd : aS} {s_Text_nameEnd : aS} {s_Text_stringEnd : aS} {s_Text_at : aS} {s_Text_isWordByte : aS} {J : aJ} {K : aR} {n : Nat} {L : aL} {S : List Value} {M : aM} : am_run (c_Text_tokenEnd s_Text_numberEnd s_Text_nameEnd s_Text_stringEnd s_Text_at s_Text_isWordByte) k_Text_tokenEnd J K (n + 1) 88 L S M = ai_ifne 104 91 (am_run (c_Text_tokenEnd s_Text_numberEnd s_Text_nameEnd s_Text_stringEnd s_Text_at s_Text_isWordByte) k_Text_tokenEnd J K n) K 88 L S M := by rfl
theorem r_Text_tokenEnd_91 {s_Text_numberEnd : aS} {s_Text_nameEnd : aS} {s_Text_stringEnd : aS} {s_Text_at : aS} {s_Text_isWordByte : aS} {J : aJ} {K : aR} {n : Nat} {L : aL} {S : List Value} {M : aM} : am_run (c_Text_tokenEnd s_Text_numberEnd s_Text_nameEnd s_Text_stringEnd s_Text_at s_Text_isWordByte) k_Text_tokenEnd J K (n + 1) 91 L S M = ai_aload 0 92 (am_run (c_Text_tokenEnd s_Text_numberEnd s_Text_nameEnd s_Text_stringEnd s_Text_at s_Text_isWordByte) k_Text_tokenEnd J K n) K 91 L S M := by rfl
theorem r_Text_tokenEnd_92 {s_Text_numberEnd : aS} {s_Text_nameEnd : aS} {s_Text_stringEnd : aS} {s_Text_at : aS} {s_Text_isWordByte : aS} {J : aJ} {K : aR} {n : Nat} {L : aL} {S : List Value} {M : aM} : am_run (c_Text_tokenEnd s_Text_numberEnd s_Text_nameEnd s_Text_stringEnd s_Text_at s_Text_isWordByte) k_Text_tokenEnd J K (n + 1) 92 L S M = ai_iload 1 93 (am_run (c_Text_tokenEnd s_Text_numberEnd s_Text_nameEnd s_Text_stringEnd s_Text_at s_Text_isWordByte) k_Text_tokenEnd J K n) K 92 L S M := by rfl
theorem r_Text_tokenEnd_93 {s_Text_numberEnd : aS} {s_Text_nameEnd : aS} {s_Text_stringEnd : aS} {s_Text_at : aS} {s_Text_isWordByte : aS} {J : aJ} {K : aR} {n : Nat} {L : aL} {S : List Value} {M : aM} : am_run (c_Text_tokenEnd s_Text_numberEnd s_Text_nameEnd s_Text_stringEnd s_Text_at s_Text_isWordByte) k_Text_tokenEnd J K (n + 1) 93 L S M = ai_const 1 94 (am_run (c_Text_tokenEnd s_Text_numberEnd s_Text_nameEnd s_Text_stringEnd s_Text_at s_Text_isWordByte) k_Text_tokenEnd J K n) K 93 L S M := by rfl
theorem r_Text_tokenEnd_94 {s_Text_numberEnd : aS} {s_Text_nameEnd : aS} {s_Text_stringEnd : aS} {s_Text_at : aS} {s_Text_isWordByte : aS} {J : aJ} {K : aR} {n : Nat} {L : aL} {S : List Value} {M : aM} : am_run (c_Text_tokenEnd s_Text_numberEnd s_Text_nameEnd s_Text_stringEnd s_Text_at s_Text_isWordByte) k_Text_tokenEnd J K (n + 1) 94 L S M = ai_iadd 95 (am_run (c_Text_tokenEnd s_Text_numberEnd s_Text_nameEnd s_Text_stringEnd s_Text_at s_Text_isWordByte) k_Text_tokenEnd J K n) K 94 L S M := by rfl
theorem r_Text_tokenEnd_95 {s_Text_numberEnd : aS} {s_Text_nameEnd : aS} {s_Text_stringEnd : aS} {s_Text_at : aS} {s_Text_isWordByte : aS} {J : aJ} {K : aR} {n : Nat} {L : aL} {S : List Value} {M : aM} : am_run (c_Text_tokenEnd s_Text_numberEnd s_Text_nameEnd s_Text_stringEnd s_Text_at s_Text_isWordByte) k_Text_tokenEnd J K (n + 1) 95 L S M = ai_callv2 2 s_Text_at 98 (am_run (c_Text_tokenEnd s_Text_numberEnd s_Text_nameEnd s_Text_stringEnd s_Text_at s_Text_isWordByte) k_Text_tokenEnd J K n) K 95 L S M := by rfl
theorem r_Text_tokenEnd_98 {s_Text_numberEnd : aS} {s_Text_nameEnd : aS} {s_Text_stringEnd : aS} {s_Text_at : aS} {s_Text_isWordByte : aS} {J : aJ} {K : aR} {n : Nat} {L : aL} {S : List Value} {M : aM} : am_run (c_Text_tokenEnd s_Text_numberEnd s_Text_nameEnd s_Text_stringEnd s_Text_at s_Text_isWordByte) k_Text_tokenEnd J K (n + 1) 98 L S M = ai_calls1 s_Text_isWordByte 101 (am_run (c_Text_tokenEnd s_Text_numberEnd s_Text_nameEnd s_Text_stringEnd s_Text_at s_Text_isWordByte) k_Text_tokenEnd J K n) K 98 L S M := by rfl
theorem r_Text_tokenEnd_101 {s_Text_numberEnd : aS} {s_Text_nameEnd : aS} {s_Text_stringEnd : aS} {s_Text_at : aS} {s_Text_isWordByte : aS} {J : aJ} {K : aR} {n : Nat} {L : aL} {S : List Value} {M : aM} : am_run (c_Text_tokenEnd s_Text_numberEnd s_Text_nameEnd s_Text_stringEnd s_Text_at s_Text_isWordByte) k_Text_tokenEnd J K (n + 1) 101 L S M = ai_ifeq 108 104 (am_run (c_Text_tokenEnd s_Text_numberEnd s_Text_nameEnd s_Text_stringEnd s_Text_at s_Text_isWordByte) k_Text_tokenEnd J K n) K 101 L S M := by rfl
theorem r_Text_tokenEnd_104 {s_Text_numberEnd : aS} {s_Text_nameEnd : aS} {s_Text_stringEnd : aS} {s_Text_at : aS} {s_Text_isWordByte : aS} {J : aJ} {K : aR} {n : Nat} {L : aL} {S : List Value} {M : aM} : am_run (c_Text_tokenEnd s_Text_numberEnd s_Text_nameEnd s_Text_stringEnd s_Text_at s_Text_isWordByte) k_Text_tokenEnd J K (n + 1) 104 L S M = ai_const (-1) 105 (am_run (c_Text_tokenEnd s_Text_numberEnd s_Text_nameEnd s_Text_stringEnd s_Text_at s_Text_isWordByte) k_Text_tokenEnd J K n) K 104 L S M := by rfl
theorem r_Text_tokenEnd_105 {s_Text_numberEnd : aS} {s_Text_nameEnd : aS} {s_Text_stringEnd : aS} {s_Text_at : aS} {s_Text_isWordByte : aS} {J : aJ} {K : aR} {n : Nat} {L : aL} {S : List Value} {M : aM} : am_run (c_Text_tokenEnd s_Text_numberEnd s_Text_nameEnd s_Text_stringEnd s_Text_at s_Text_isWordByte) k_Text_tokenEnd J K (n + 1) 105 L S M = ai_goto 111 (am_run (c_Text_tokenEnd s_Text_numberEnd s_Text_nameEnd s_Text_stringEnd s_Text_at s_Text_isWordByte) k_Text_tokenEnd J K n) K 105 L S M := by rfl
theorem r_Text_tokenEnd_108 {s_Text_numberEnd : aS} {s_Text_nameEnd : aS} {s_Text_stringEnd : aS} {s_Text_at : aS} {s_Text_isWordByte : aS} {J : aJ} {K : aR} {n : Nat} {L : aL} {S : List Value} {M : aM} : am_run (c_Text_tokenEnd s_Text_numberEnd s_Text_nameEnd s_Text_stringEnd s_Text_at s_Text_isWordByte) k_Text_tokenEnd J K (n + 1) 108 L S M = ai_iload 1 109 (am_run (c_Text_tokenEnd s_Text_numberEnd s_Text_nameEnd s_Text_stringEnd s_Text_at s_Text_isWordByte) k_Text_tokenEnd J K n) K 108 L S M := by rfl
theorem r_Text_tokenEnd_109 {s_Text_numberEnd : aS} {s_Text_nameEnd : aS} {s_Text_stringEnd : aS} {s_Text_at : aS} {s_Text_isWordByte : aS} {J : aJ} {K : aR} {n : Nat} {L : aL} {S : List Value} {M : aM} : am_run (c_Text_tokenEnd s_Text_numberEnd s_Text_nameEnd s_Text_stringEnd s_Text_at s_Text_isWordByte) k_Text_tokenEnd J K (n + 1) 109 L S M = ai_const 1 110 (am_run (c_Text_tokenEnd s_Text_numberEnd s_Text_nameEnd s_Text_stringEnd s_Text_at s_Text_isWordByte) k_Text_tokenEnd J K n) K 109 L S M := by rfl
theorem r_Text_tokenEnd_110 {s_Text_numberEnd : aS} {s_Text_nameEnd : aS} {s_Text_stringEnd : aS} {s_Text_at : aS} {s_Text_isWordByte : aS} {J : aJ} {K : aR} {n : Nat} {L : aL} {S : List Value} {M : aM} : am_run (c_Text_tokenEnd s_Text_numberEnd s_Text_nameEnd s_Text_stringEnd s_Text_at s_Text_isWordByte) k_Text_tokenEnd J K (n + 1) 110 L S M = ai_iadd 111 (am_run (c_Text_tokenEnd s_Text_numberEnd s_Text_nameEnd s_Text_stringEnd s_Text_at s_Text_isWordByte) k_Text_tokenEnd J K n) K 110 L S M := by rfl
theorem r_Text_tokenEnd_111 {s_Text_numberEnd : aS} {s_Text_nameEnd : aS} {s_Text_stringEnd : aS} {s_Text_at : aS} {s_Text_isWordByte : aS} {J : aJ} {K : aR} {n : Nat} {L : aL} {S : List Value} {M : aM} : am_run (c_Text_tokenEnd s_Text_numberEnd s_Text_nameEnd s_Text_stringEnd s_Text_at s_Text_isWordByte) k_Text_tokenEnd J K (n + 1) 111 L S M = ai_iret (am_run (c_Text_tokenEnd s_Text_numberEnd s_Text_nameEnd s_Text_stringEnd s_Text_at s_Text_isWordByte) k_Text_tokenEnd J K n) K 111 L S M := by rfl
theorem r_Text_tokenEnd_112 {s_Text_numberEnd : aS} {s_Text_nameEnd : aS} {s_Text_stringEnd : aS} {s_Text_at : aS} {s_Text_isWordByte : aS} {J : aJ} {K : aR} {n : Nat} {L : aL} {S : List Value} {M : aM} : am_run (c_Text_tokenEnd s_Text_numberEnd s_Text_nameEnd s_Text_stringEnd s_Text_at s_Text_isWordByte) k_Text_tokenEnd J K (n + 1) 112 L S M = ai_const (-1) 113 (am_run (c_Text_tokenEnd s_Text_numberEnd s_Text_nameEnd s_Text_stringEnd s_Text_at s_Text_isWordByte) k_Text_tokenEnd J K n) K 112 L S M := by rfl
theorem r_Text_tokenEnd_113 {s_Text_numberEnd : aS} {s_Text_nameEnd : aS} {s_Text_stringEnd : aS} {s_Text_at : aS} {s_Text_isWordByte : aS} {J : aJ} {K : aR} {n : Nat} {L : aL} {S : List Value} {M : aM} : am_run (c_Text_tokenEnd s_Text_numberEnd s_Text_nameEnd s_Text_stringEnd s_Text_at s_Text_isWordByte) k_Text_tokenEnd J K (n + 1) 113 L S M = ai_iret (am_run (c_Text_tokenEnd s_Text_numberEnd s_Text_nameEnd s_Text_stringEnd s_Text_at s_Text_isWordByte) k_Text_tokenEnd J K n) K 113 L S M := by rfl
theorem r_Text_tokenEnd_114 {s_Text_numberEnd : aS} {s_Text_nameEnd : aS} {s_Text_stringEnd : aS} {s_Text_at : aS} {s_Text_isWordByte : aS} {J : aJ} {K : aR} {n : Nat} {L : aL} {S : List Value} {M : aM} : am_run (c_Text_tokenEnd s_Text_numberEnd s_Text_nameEnd s_Text_stringEnd s_Text_at s_Text_isWordByte) k_Text_tokenEnd J K (n + 1) 114 L S M = ai_iload 1 115 (am_run (c_Text_tokenEnd s_Text_numberEnd s_Text_nameEnd s_Text_stringEnd s_Text_at s_Text_isWordByte) k_Text_tokenEnd J K n) K 114 L S M := by rfl
theorem r_Text_tokenEnd_115 {s_Text_numberEnd : aS} {s_Text_nameEnd : aS} {s_Text_stringEnd : aS} {s_Text_at : aS} {s_Text_isWordByte : aS} {J : aJ} {K : aR} {n : Nat} {L : aL} {S : List Value} {M : aM} : am_run (c_Text_tokenEnd s_Text_numberEnd s_Text_nameEnd s_Text_stringEnd s_Text_at s_Text_isWordByte) k_Text_tokenEnd J K (n + 1) 115 L S M = ai_const 1 116 (am_run (c_Text_tokenEnd s_Text_numberEnd s_Text_nameEnd s_Text_stringEnd s_Text_at s_Text_isWordByte) k_Text_tokenEnd J K n) K 115 L S M := by rfl
theorem r_Text_tokenEnd_116 {s_Text_numberEnd : aS} {s_Text_nameEnd : aS} {s_Text_stringEnd : aS} {s_Text_at : aS} {s_Text_isWordByte : aS} {J : aJ} {K : aR} {n : Nat} {L : aL} {S : List Value} {M : aM} : am_run (c_Text_tokenEnd s_Text_numberEnd s_Text_nameEnd s_Text_stringEnd s_Text_at s_Text_isWordByte) k_Text_tokenEnd J K (n + 1) 116 L S M = ai_iadd 117 (am_run (c_Text_tokenEnd s_Text_numberEnd s_Text_nameEnd s_Text_stringEnd s_Text_at s_Text_isWordByte) k_Text_tokenEnd J K n) K 116 L S M := by rfl
theorem r_Text_tokenEnd_117 {s_Text_numberEnd : aS} {s_Text_nameEnd : aS} {s_Text_stringEnd : aS} {s_Text_at : aS} {s_Text_isWordByte : aS} {J : aJ} {K : aR} {n : Nat} {L : aL} {S : List Value} {M : aM} : am_run (c_Text_tokenEnd s_Text_numberEnd s_Text_nameEnd s_Text_stringEnd s_Text_at s_Text_isWordByte) k_Text_tokenEnd J K (n + 1) 117 L S M = ai_iret (am_run (c_Text_tokenEnd s_Text_numberEnd s_Text_nameEnd s_Text_stringEnd s_Text_at s_Text_isWordByte) k_Text_tokenEnd J K n) K 117 L S M := by rfl
def c_Text_numberEnd (s_Text_at : aS) (s_Text_wordEnd : aS) (s_Text_isDigit : aS) : List (Nat × aI) := [
  (0, ai_aload 0 1),
  (1, ai_iload 1 2),
  (2, ai_callv2 2 s_Text_at 5),
  (5, ai_const 45 7),
  (7, ai_cmpne 16 10),
  (10, ai_iload 1 11),
  (11, ai_const 1 12),
  (12, ai_iadd 13),
  (13, ai_goto 17),
  (16, ai_iload 1 17),
  (17, ai_istore 2 18),
  (18, ai_aload 0 19),
  (19, ai_iload 2 20),
  (20, ai_callv2 2 s_Text_wordEnd 23),
  (23, ai_istore 3 24),
  (24, ai_iload 3 25),
  (25, ai_iload 2 26),
  (26, ai_isub 27),
  (27, ai_const 1 28),
  (28, ai_cmplt 39 31),
  (31, ai_iload 3 32),
  (32, ai_iload 2 33),
  (33, ai_isub 34),
  (34, ai_const 9 36),
  (36, ai_cmple 41 39),
  (39, ai_const (-1) 40),
  (40, ai_iret),
  (41, ai_iload 2 42),
  (42, ai_istore 4 44),
  (44, ai_iload 4 46),
  (46, ai_iload 3 47),
  (47, ai_cmpge 70 50),
  (50, ai_aload 0 51),
  (51, ai_iload 4 53),
  (53, ai_callv2 2 s_Text_at 56),
  (56, ai_calls1 s_Text_isDigit 59),
  (59, ai_ifne 64 62),
  (62, ai_const (-1) 63),
  (63, ai_iret),
  (64, ai_iinc 4 1 67),
  (67, ai_goto 44),
  (70, ai_iload 3 71),
  (71, ai_iret)]
set_option maxRecDepth 100000 in
set_option maxHeartbeats 4000000 in
theorem tb_Text_numberEnd {G : aG} {d : Nat} {s_Text_at : aS} {d_Text_at : Nat} (h_Text_at : am_Sp G Y_Text_at d_Text_at s_Text_at) (l_Text_at : d_Text_at < d) {s_Text_wordEnd : aS} {d_Text_wordEnd : Nat} (h_Text_wordEnd : am_Sp G Y_Text_wordEnd d_Text_wordEnd s_Text_wordEnd) (l_Text_wordEnd : d_Text_wordEnd < d) {s_Text_isDigit : aS} {d_Text_isDigit : Nat} (h_Text_isDigit : am_Sp G Y_Text_isDigit d_Text_isDigit s_Text_isDigit) (l_Text_isDigit : d_Text_isDigit < d) : am_tab G Y_Text_numberEnd d (c_Text_numberEnd s_Text_at s_Text_wordEnd s_Text_isDigit) := by
  intro K p e s m args below meth c C
  exact ⟨as_aload_n C (pc := 0) (q := 0) (by decide +kernel) rfl rfl,
    as_iload_n C (pc := 1) (q := 1) (by decide +kernel) rfl rfl,
    as_callv2 C (pc := 2) h_Text_at (T := T_Text) (N := 2) rfl w_270 w_71 w_269 w_5 w_267 hy_Text_at (am_rm_of l_Text_at (by decide)) (by decide +kernel) rfl,
    as_bipush C (pc := 5) (n := 45) (by decide +kernel) (by decide +kernel) rfl,
    as_cmpne C (pc := 7) (off := 9) (by decide +kernel) (by decide) rfl,
    as_iload_n C (pc := 10) (q := 1) (by decide +kernel) rfl rfl,
    as_iconst C (pc := 11) (n := 1) (by decide +kernel) (by decide +kernel) rfl,
    as_iadd C (pc := 12) (by decide +kernel) rfl,
    as_goto C (pc := 13) (off := 4) (by decide +kernel) (by decide),
    as_iload_n C (pc := 16) (q := 1) (by decide +kernel) rfl rfl,
    as_istore_n C (pc := 17) (q := 2) (by decide +kernel) rfl (by decide) rfl,
    as_aload_n C (pc := 18) (q := 0) (by decide +kernel) rfl rfl,
    as_iload_n C (pc := 19) (q := 2) (by decide +kernel) rfl rfl,
    as_callv2 C (pc := 20) h_Text_wordEnd (T := T_Text) (N := 2) rfl w_292 w_71 w_291 w_9 w_289 hy_Text_wordEnd (am_rm_of l_Text_wordEnd (by decide)) (by decide +kernel) rfl,
    as_istore_n C (pc := 23) (q := 3) (by decide +kernel) rfl (by decide) rfl,
    as_iload_n C (pc := 24) (q := 3) (by decide +kernel) rfl rfl,
    as_iload_n C (pc := 25) (q := 2) (by decide +kernel) rfl rfl,
    as_isub C (pc := 26) (by decide +kernel) rfl,
    as_iconst C (pc := 27) (n := 1) (by decide +kernel) (by decide +kernel) rfl,
    as_cmplt C (pc := 28) (off := 11) (by decide +kernel) (by decide) rfl,
    as_iload_n C (pc := 31) (q := 3) (by decide +kernel) rfl rfl,
    as_iload_n C (pc := 32) (q := 2) (by decide +kernel) rfl rfl,
    as_isub C (pc := 33) (by decide +kernel) rfl,
    as_bipush C (pc := 34) (n := 9) (by decide +kernel) (by decide +kernel) rfl,
    as_cmple C (pc := 36) (off := 5) (by decide +kernel) (by decide) rfl,
    as_iconst C (pc := 39) (n := (-1)) (by decide +kernel) (by decide +kernel) rfl,
    as_iret C (pc := 40) rfl (by decide +kernel),
    as_iload_n C (pc := 41) (q := 2) (by decide +kernel) rfl rfl,
    as_istore C (pc := 42) (k := 4) (by decide +kernel) (by decide) rfl,
    as_iload C (pc := 44) (k := 4) (by decide +kernel) rfl,
    as_iload_n C (pc := 46) (q := 3) (by decide +kernel) rfl rfl,
    as_cmpge C (pc := 47) (off := 23) (by decide +kernel) (by decide) rfl,
    as_aload_n C (pc := 50) (q := 0) (by decide +kernel) rfl rfl,
    as_iload C (pc := 51) (k := 4) (by decide +kernel) rfl,
    as_callv2 C (pc := 53) h_Text_at (T := T_Text) (N := 2) rfl w_270 w_71 w_269 w_5 w_267 hy_Text_at (am_rm_of l_Text_at (by decide)) (by decide +kernel) rfl,
    as_calls1 C (pc := 56) h_Text_isDigit w_277 w_71 w_276 w_275 hy_Text_isDigit (am_rm_of l_Text_isDigit (by decide)) (by decide +kernel) rfl,
    as_ifne C (pc := 59) (off := 5) (by decide +kernel) (by decide) rfl,
    as_iconst C (pc := 62) (n := (-1)) (by decide +kernel) (by decide +kernel) rfl,
    as_iret C (pc := 63) rfl (by decide +kernel),
    as_iinc C (pc := 64) (k := 4) (n := 1) (by decide +kernel) (by decide +kernel) (by decide) rfl,
    as_goto C (pc := 67) (off := (-23)) (by decide +kernel) (by decide),
    as_iload_n C (pc := 70) (q := 3) (by decide +kernel) rfl rfl,
    as_iret C (pc := 71) rfl (by decide +kernel), trivial⟩
abbrev k_Text_numberEnd : List Nat := [44]
theorem q_Text_numberEnd_44 {s_Text_at : aS} {s_Text_wordEnd : aS} {s_Text_isDigit : aS} : am_at (c_Text_numberEnd s_Text_at s_Text_wordEnd s_Text_isDigit) 44 = ai_iload 4 46 := by rfl
theorem r_Text_numberEnd_0 {s_Text_at : aS} {s_Text_wordEnd : aS} {s_Text_isDigit : aS} {J : aJ} {K : aR} {n : Nat} {L : aL} {S : List Value} {M : aM} : am_run (c_Text_numberEnd s_Text_at s_Text_wordEnd s_Text_isDigit) k_Text_numberEnd J K (n + 1) 0 L S M = ai_aload 0 1 (am_run (c_Text_numberEnd s_Text_at s_Text_wordEnd s_Text_isDigit) k_Text_numberEnd J K n) K 0 L S M := by rfl
theorem r_Text_numberEnd_1 {s_Text_at : aS} {s_Text_wordEnd : aS} {s_Text_isDigit : aS} {J : aJ} {K : aR} {n : Nat} {L : aL} {S : List Value} {M : aM} : am_run (c_Text_numberEnd s_Text_at s_Text_wordEnd s_Text_isDigit) k_Text_numberEnd J K (n + 1) 1 L S M = ai_iload 1 2 (am_run (c_Text_numberEnd s_Text_at s_Text_wordEnd s_Text_isDigit) k_Text_numberEnd J K n) K 1 L S M := by rfl
theorem r_Text_numberEnd_2 {s_Text_at : aS} {s_Text_wordEnd : aS} {s_Text_isDigit : aS} {J : aJ} {K : aR} {n : Nat} {L : aL} {S : List Value} {M : aM} : am_run (c_Text_numberEnd s_Text_at s_Text_wordEnd s_Text_isDigit) k_Text_numberEnd J K (n + 1) 2 L S M = ai_callv2 2 s_Text_at 5 (am_run (c_Text_numberEnd s_Text_at s_Text_wordEnd s_Text_isDigit) k_Text_numberEnd J K n) K 2 L S M := by rfl
theorem r_Text_numberEnd_5 {s_Text_at : aS} {s_Text_wordEnd : aS} {s_Text_isDigit : aS} {J : aJ} {K : aR} {n : Nat} {L : aL} {S : List Value} {M : aM} : am_run (c_Text_numberEnd s_Text_at s_Text_wordEnd s_Text_isDigit) k_Text_numberEnd J K (n + 1) 5 L S M = ai_const 45 7 (am_run (c_Text_numberEnd s_Text_at s_Text_wordEnd s_Text_isDigit) k_Text_numberEnd J K n) K 5 L S M := by rfl
theorem r_Text_numberEnd_7 {s_Text_at : aS} {s_Text_wordEnd : aS} {s_Text_isDigit : aS} {J : aJ} {K : aR} {n : Nat} {L : aL} {S : List Value} {M : aM} : am_run (c_Text_numberEnd s_Text_at s_Text_wordEnd s_Text_isDigit) k_Text_numberEnd J K (n + 1) 7 L S M = ai_cmpne 16 10 (am_run (c_Text_numberEnd s_Text_at s_Text_wordEnd s_Text_isDigit) k_Text_numberEnd J K n) K 7 L S M := by rfl
theorem r_Text_numberEnd_10 {s_Text_at : aS} {s_Text_wordEnd : aS} {s_Text_isDigit : aS} {J : aJ} {K : aR} {n : Nat} {L : aL} {S : List Value} {M : aM} : am_run (c_Text_numberEnd s_Text_at s_Text_wordEnd s_Text_isDigit) k_Text_numberEnd J K (n + 1) 10 L S M = ai_iload 1 11 (am_run (c_Text_numberEnd s_Text_at s_Text_wordEnd s_Text_isDigit) k_Text_numberEnd J K n) K 10 L S M := by rfl
theorem r_Text_numberEnd_11 {s_Text_at : aS} {s_Text_wordEnd : aS} {s_Text_isDigit : aS} {J : aJ} {K : aR} {n : Nat} {L : aL} {S : List Value} {M : aM} : am_run (c_Text_numberEnd s_Text_at s_Text_wordEnd s_Text_isDigit) k_Text_numberEnd J K (n + 1) 11 L S M = ai_const 1 12 (am_run (c_Text_numberEnd s_Text_at s_Text_wordEnd s_Text_isDigit) k_Text_numberEnd J K n) K 11 L S M := by rfl
theorem r_Text_numberEnd_12 {s_Text_at : aS} {s_Text_wordEnd : aS} {s_Text_isDigit : aS} {J : aJ} {K : aR} {n : Nat} {L : aL} {S : List Value} {M : aM} : am_run (c_Text_numberEnd s_Text_at s_Text_wordEnd s_Text_isDigit) k_Text_numberEnd J K (n + 1) 12 L S M = ai_iadd 13 (am_run (c_Text_numberEnd s_Text_at s_Text_wordEnd s_Text_isDigit) k_Text_numberEnd J K n) K 12 L S M := by rfl
theorem r_Text_numberEnd_13 {s_Text_at : aS} {s_Text_wordEnd : aS} {s_Text_isDigit : aS} {J : aJ} {K : aR} {n : Nat} {L : aL} {S : List Value} {M : aM} : am_run (c_Text_numberEnd s_Text_at s_Text_wordEnd s_Text_isDigit) k_Text_numberEnd J K (n + 1) 13 L S M = ai_goto 17 (am_run (c_Text_numberEnd s_Text_at s_Text_wordEnd s_Text_isDigit) k_Text_numberEnd J K n) K 13 L S M := by rfl
theorem r_Text_numberEnd_16 {s_Text_at : aS} {s_Text_wordEnd : aS} {s_Text_isDigit : aS} {J : aJ} {K : aR} {n : Nat} {L : aL} {S : List Value} {M : aM} : am_run (c_Text_numberEnd s_Text_at s_Text_wordEnd s_Text_isDigit) k_Text_numberEnd J K (n + 1) 16 L S M = ai_iload 1 17 (am_run (c_Text_numberEnd s_Text_at s_Text_wordEnd s_Text_isDigit) k_Text_numberEnd J K n) K 16 L S M := by rfl
theorem r_Text_numberEnd_17 {s_Text_at : aS} {s_Text_wordEnd : aS} {s_Text_isDigit : aS} {J : aJ} {K : aR} {n : Nat} {L : aL} {S : List Value} {M : aM} : am_run (c_Text_numberEnd s_Text_at s_Text_wordEnd s_Text_isDigit) k_Text_numberEnd J K (n + 1) 17 L S M = ai_istore 2 18 (am_run (c_Text_numberEnd s_Text_at s_Text_wordEnd s_Text_isDigit) k_Text_numberEnd J K n) K 17 L S M := by rfl
theorem r_Text_numberEnd_18 {s_Text_at : aS} {s_Text_wordEnd : aS} {s_Text_isDigit : aS} {J : aJ} {K : aR} {n : Nat} {L : aL} {S : List Value} {M : aM} : am_run (c_Text_numberEnd s_Text_at s_Text_wordEnd s_Text_isDigit) k_Text_numberEnd J K (n + 1) 18 L S M = ai_aload 0 19 (am_run (c_Text_numberEnd s_Text_at s_Text_wordEnd s_Text_isDigit) k_Text_numberEnd J K n) K 18 L S M := by rfl
theorem r_Text_numberEnd_19 {s_Text_at : aS} {s_Text_wordEnd : aS} {s_Text_isDigit : aS} {J : aJ} {K : aR} {n : Nat} {L : aL} {S : List Value} {M : aM} : am_run (c_Text_numberEnd s_Text_at s_Text_wordEnd s_Text_isDigit) k_Text_numberEnd J K (n + 1) 19 L S M = ai_iload 2 20 (am_run (c_Text_numberEnd s_Text_at s_Text_wordEnd s_Text_isDigit) k_Text_numberEnd J K n) K 19 L S M := by rfl
theorem r_Text_numberEnd_20 {s_Text_at : aS} {s_Text_wordEnd : aS} {s_Text_isDigit : aS} {J : aJ} {K : aR} {n : Nat} {L : aL} {S : List Value} {M : aM} : am_run (c_Text_numberEnd s_Text_at s_Text_wordEnd s_Text_isDigit) k_Text_numberEnd J K (n + 1) 20 L S M = ai_callv2 2 s_Text_wordEnd 23 (am_run (c_Text_numberEnd s_Text_at s_Text_wordEnd s_Text_isDigit) k_Text_numberEnd J K n) K 20 L S M := by rfl
theorem r_Text_numberEnd_23 {s_Text_at : aS} {s_Text_wordEnd : aS} {s_Text_isDigit : aS} {J : aJ} {K : aR} {n : Nat} {L : aL} {S : List Value} {M : aM} : am_run (c_Text_numberEnd s_Text_at s_Text_wordEnd s_Text_isDigit) k_Text_numberEnd J K (n + 1) 23 L S M = ai_istore 3 24 (am_run (c_Text_numberEnd s_Text_at s_Text_wordEnd s_Text_isDigit) k_Text_numberEnd J K n) K 23 L S M := by rfl
theorem r_Text_numberEnd_24 {s_Text_at : aS} {s_Text_wordEnd : aS} {s_Text_isDigit : aS} {J : aJ} {K : aR} {n : Nat} {L : aL} {S : List Value} {M : aM} : am_run (c_Text_numberEnd s_Text_at s_Text_wordEnd s_Text_isDigit) k_Text_numberEnd J K (n + 1) 24 L S M = ai_iload 3 25 (am_run (c_Text_numberEnd s_Text_at s_Text_wordEnd s_Text_isDigit) k_Text_numberEnd J K n) K 24 L S M := by rfl
theorem r_Text_numberEnd_25 {s_Text_at : aS} {s_Text_wordEnd : aS} {s_Text_isDigit : aS} {J : aJ} {K : aR} {n : Nat} {L : aL} {S : List Value} {M : aM} : am_run (c_Text_numberEnd s_Text_at s_Text_wordEnd s_Text_isDigit) k_Text_numberEnd J K (n + 1) 25 L S M = ai_iload 2 26 (am_run (c_Text_numberEnd s_Text_at s_Text_wordEnd s_Text_isDigit) k_Text_numberEnd J K n) K 25 L S M := by rfl
theorem r_Text_numberEnd_26 {s_Text_at : aS} {s_Text_wordEnd : aS} {s_Text_isDigit : aS} {J : aJ} {K : aR} {n : Nat} {L : aL} {S : List Value} {M : aM} : am_run (c_Text_numberEnd s_Text_at s_Text_wordEnd s_Text_isDigit) k_Text_numberEnd J K (n + 1) 26 L S M = ai_isub 27 (am_run (c_Text_numberEnd s_Text_at s_Text_wordEnd s_Text_isDigit) k_Text_numberEnd J K n) K 26 L S M := by rfl
theorem r_Text_numberEnd_27 {s_Text_at : aS} {s_Text_wordEnd : aS} {s_Text_isDigit : aS} {J : aJ} {K : aR} {n : Nat} {L : aL} {S : List Value} {M : aM} : am_run (c_Text_numberEnd s_Text_at s_Text_wordEnd s_Text_isDigit) k_Text_numberEnd J K (n + 1) 27 L S M = ai_const 1 28 (am_run (c_Text_numberEnd s_Text_at s_Text_wordEnd s_Text_isDigit) k_Text_numberEnd J K n) K 27 L S M := by rfl
theorem r_Text_numberEnd_28 {s_Text_at : aS} {s_Text_wordEnd : aS} {s_Text_isDigit : aS} {J : aJ} {K : aR} {n : Nat} {L : aL} {S : List Value} {M : aM} : am_run (c_Text_numberEnd s_Text_at s_Text_wordEnd s_Text_isDigit) k_Text_numberEnd J K (n + 1) 28 L S M = ai_cmplt 39 31 (am_run (c_Text_numberEnd s_Text_at s_Text_wordEnd s_Text_isDigit) k_Text_numberEnd J K n) K 28 L S M := by rfl
theorem r_Text_numberEnd_31 {s_Text_at : aS} {s_Text_wordEnd : aS} {s_Text_isDigit : aS} {J : aJ} {K : aR} {n : Nat} {L : aL} {S : List Value} {M : aM} : am_run (c_Text_numberEnd s_Text_at s_Text_wordEnd s_Text_isDigit) k_Text_numberEnd J K (n + 1) 31 L S M = ai_iload 3 32 (am_run (c_Text_numberEnd s_Text_at s_Text_wordEnd s_Text_isDigit) k_Text_numberEnd J K n) K 31 L S M := by rfl
theorem r_Text_numberEnd_32 {s_Text_at : aS} {s_Text_wordEnd : aS} {s_Text_isDigit : aS} {J : aJ} {K : aR} {n : Nat} {L : aL} {S : List Value} {M : aM} : am_run (c_Text_numberEnd s_Text_at s_Text_wordEnd s_Text_isDigit) k_Text_numberEnd J K (n + 1) 32 L S M = ai_iload 2 33 (am_run (c_Text_numberEnd s_Text_at s_Text_wordEnd s_Text_isDigit) k_Text_numberEnd J K n) K 32 L S M := by rfl
theorem r_Text_numberEnd_33 {s_Text_at : aS} {s_Text_wordEnd : aS} {s_Text_isDigit : aS} {J : aJ} {K : aR} {n : Nat} {L : aL} {S : List Value} {M : aM} : am_run (c_Text_numberEnd s_Text_at s_Text_wordEnd s_Text_isDigit) k_Text_numberEnd J K (n + 1) 33 L S M = ai_isub 34 (am_run (c_Text_numberEnd s_Text_at s_Text_wordEnd s_Text_isDigit) k_Text_numberEnd J K n) K 33 L S M := by rfl
theorem r_Text_numberEnd_34 {s_Text_at : aS} {s_Text_wordEnd : aS} {s_Text_isDigit : aS} {J : aJ} {K : aR} {n : Nat} {L : aL} {S : List Value} {M : aM} : am_run (c_Text_numberEnd s_Text_at s_Text_wordEnd s_Text_isDigit) k_Text_numberEnd J K (n + 1) 34 L S M = ai_const 9 36 (am_run (c_Text_numberEnd s_Text_at s_Text_wordEnd s_Text_isDigit) k_Text_numberEnd J K n) K 34 L S M := by rfl
theorem r_Text_numberEnd_36 {s_Text_at : aS} {s_Text_wordEnd : aS} {s_Text_isDigit : aS} {J : aJ} {K : aR} {n : Nat} {L : aL} {S : List Value} {M : aM} : am_run (c_Text_numberEnd s_Text_at s_Text_wordEnd s_Text_isDigit) k_Text_numberEnd J K (n + 1) 36 L S M = ai_cmple 41 39 (am_run (c_Text_numberEnd s_Text_at s_Text_wordEnd s_Text_isDigit) k_Text_numberEnd J K n) K 36 L S M := by rfl
theorem r_Text_numberEnd_39 {s_Text_at : aS} {s_Text_wordEnd : aS} {s_Text_isDigit : aS} {J : aJ} {K : aR} {n : Nat} {L : aL} {S : List Value} {M : aM} : am_run (c_Text_numberEnd s_Text_at s_Text_wordEnd s_Text_isDigit) k_Text_numberEnd J K (n + 1) 39 L S M = ai_const (-1) 40 (am_run (c_Text_numberEnd s_Text_at s_Text_wordEnd s_Text_isDigit) k_Text_numberEnd J K n) K 39 L S M := by rfl
theorem r_Text_numberEnd_40 {s_Text_at : aS} {s_Text_wordEnd : aS} {s_Text_isDigit : aS} {J : aJ} {K : aR} {n : Nat} {L : aL} {S : List Value} {M : aM} : am_run (c_Text_numberEnd s_Text_at s_Text_wordEnd s_Text_isDigit) k_Text_numberEnd J K (n + 1) 40 L S M = ai_iret (am_run (c_Text_numberEnd s_Text_at s_Text_wordEnd s_Text_isDigit) k_Text_numberEnd J K n) K 40 L S M := by rfl
theorem r_Text_numberEnd_41 {s_Text_at : aS} {s_Text_wordEnd : aS} {s_Text_isDigit : aS} {J : aJ} {K : aR} {n : Nat} {L : aL} {S : List Value} {M : aM} : am_run (c_Text_numberEnd s_Text_at s_Text_wordEnd s_Text_isDigit) k_Text_numberEnd J K (n + 1) 41 L S M = ai_iload 2 42 (am_run (c_Text_numberEnd s_Text_at s_Text_wordEnd s_Text_isDigit) k_Text_numberEnd J K n) K 41 L S M := by rfl
theorem r_Text_numberEnd_42 {s_Text_at : aS} {s_Text_wordEnd : aS} {s_Text_isDigit : aS} {J : aJ} {K : aR} {n : Nat} {L : aL} {S : List Value} {M : aM} : am_run (c_Text_numberEnd s_Text_at s_Text_wordEnd s_Text_isDigit) k_Text_numberEnd J K (n + 1) 42 L S M = ai_istore 4 44 (am_run (c_Text_numberEnd s_Text_at s_Text_wordEnd s_Text_isDigit) k_Text_numberEnd J K n) K 42 L S M := by rfl
theorem r_Text_numberEnd_44 {s_Text_at : aS} {s_Text_wordEnd : aS} {s_Text_isDigit : aS} {J : aJ} {K : aR} {n : Nat} {L : aL} {S : List Value} {M : aM} : am_run (c_Text_numberEnd s_Text_at s_Text_wordEnd s_Text_isDigit) k_Text_numberEnd J K (n + 1) 44 L S M = J 44 L S M := by rfl
theorem r_Text_numberEnd_46 {s_Text_at : aS} {s_Text_wordEnd : aS} {s_Text_isDigit : aS} {J : aJ} {K : aR} {n : Nat} {L : aL} {S : List Value} {M : aM} : am_run (c_Text_numberEnd s_Text_at s_Text_wordEnd s_Text_isDigit) k_Text_numberEnd J K (n + 1) 46 L S M = ai_iload 3 47 (am_run (c_Text_numberEnd s_Text_at s_Text_wordEnd s_Text_isDigit) k_Text_numberEnd J K n) K 46 L S M := by rfl
theorem r_Text_numberEnd_47 {s_Text_at : aS} {s_Text_wordEnd : aS} {s_Text_isDigit : aS} {J : aJ} {K : aR} {n : Nat} {L : aL} {S : List Value} {M : aM} : am_run (c_Text_numberEnd s_Text_at s_Text_wordEnd s_Text_isDigit) k_Text_numberEnd J K (n + 1) 47 L S M = ai_cmpge 70 50 (am_run (c_Text_numberEnd s_Text_at s_Text_wordEnd s_Text_isDigit) k_Text_numberEnd J K n) K 47 L S M := by rfl
theorem r_Text_numberEnd_50 {s_Text_at : aS} {s_Text_wordEnd : aS} {s_Text_isDigit : aS} {J : aJ} {K : aR} {n : Nat} {L : aL} {S : List Value} {M : aM} : am_run (c_Text_numberEnd s_Text_at s_Text_wordEnd s_Text_isDigit) k_Text_numberEnd J K (n + 1) 50 L S M = ai_aload 0 51 (am_run (c_Text_numberEnd s_Text_at s_Text_wordEnd s_Text_isDigit) k_Text_numberEnd J K n) K 50 L S M := by rfl
theorem r_Text_numberEnd_51 {s_Text_at : aS} {s_Text_wordEnd : aS} {s_Text_isDigit : aS} {J : aJ} {K : aR} {n : Nat} {L : aL} {S : List Value} {M : aM} : am_run (c_Text_numberEnd s_Text_at s_Text_wordEnd s_Text_isDigit) k_Text_numberEnd J K (n + 1) 51 L S M = ai_iload 4 53 (am_run (c_Text_numberEnd s_Text_at s_Text_wordEnd s_Text_isDigit) k_Text_numberEnd J K n) K 51 L S M := by rfl
theorem r_Text_numberEnd_53 {s_Text_at : aS} {s_Text_wordEnd : aS} {s_Text_isDigit : aS} {J : aJ} {K : aR} {n : Nat} {L : aL} {S : List Value} {M : aM} : am_run (c_Text_numberEnd s_Text_at s_Text_wordEnd s_Text_isDigit) k_Text_numberEnd J K (n + 1) 53 L S M = ai_callv2 2 s_Text_at 56 (am_run (c_Text_numberEnd s_Text_at s_Text_wordEnd s_Text_isDigit) k_Text_numberEnd J K n) K 53 L S M := by rfl
theorem r_Text_numberEnd_56 {s_Text_at : aS} {s_Text_wordEnd : aS} {s_Text_isDigit : aS} {J : aJ} {K : aR} {n : Nat} {L : aL} {S : List Value} {M : aM} : am_run (c_Text_numberEnd s_Text_at s_Text_wordEnd s_Text_isDigit) k_Text_numberEnd J K (n + 1) 56 L S M = ai_calls1 s_Text_isDigit 59 (am_run (c_Text_numberEnd s_Text_at s_Text_wordEnd s_Text_isDigit) k_Text_numberEnd J K n) K 56 L S M := by rfl
theorem r_Text_numberEnd_59 {s_Text_at : aS} {s_Text_wordEnd : aS} {s_Text_isDigit : aS} {J : aJ} {K : aR} {n : Nat} {L : aL} {S : List Value} {M : aM} : am_run (c_Text_numberEnd s_Text_at s_Text_wordEnd s_Text_isDigit) k_Text_numberEnd J K (n + 1) 59 L S M = ai_ifne 64 62 (am_run (c_Text_numberEnd s_Text_at s_Text_wordEnd s_Text_isDigit) k_Text_numberEnd J K n) K 59 L S M := by rfl
theorem r_Text_numberEnd_62 {s_Text_at : aS} {s_Text_wordEnd : aS} {s_Text_isDigit : aS} {J : aJ} {K : aR} {n : Nat} {L : aL} {S : List Value} {M : aM} : am_run (c_Text_numberEnd s_Text_at s_Text_wordEnd s_Text_isDigit) k_Text_numberEnd J K (n + 1) 62 L S M = ai_const (-1) 63 (am_run (c_Text_numberEnd s_Text_at s_Text_wordEnd s_Text_isDigit) k_Text_numberEnd J K n) K 62 L S M := by rfl
theorem r_Text_numberEnd_63 {s_Text_at : aS} {s_Text_wordEnd : aS} {s_Text_isDigit : aS} {J : aJ} {K : aR} {n : Nat} {L : aL} {S : List Value} {M : aM} : am_run (c_Text_numberEnd s_Text_at s_Text_wordEnd s_Text_isDigit) k_Text_numberEnd J K (n + 1) 63 L S M = ai_iret (am_run (c_Text_numberEnd s_Text_at s_Text_wordEnd s_Text_isDigit) k_Text_numberEnd J K n) K 63 L S M := by rfl
theorem r_Text_numberEnd_64 {s_Text_at : aS} {s_Text_wordEnd : aS} {s_Text_isDigit : aS} {J : aJ} {K : aR} {n : Nat} {L : aL} {S : List Value} {M : aM} : am_run (c_Text_numberEnd s_Text_at s_Text_wordEnd s_Text_isDigit) k_Text_numberEnd J K (n + 1) 64 L S M = ai_iinc 4 1 67 (am_run (c_Text_numberEnd s_Text_at s_Text_wordEnd s_Text_isDigit) k_Text_numberEnd J K n) K 64 L S M := by rfl
theorem r_Text_numberEnd_67 {s_Text_at : aS} {s_Text_wordEnd : aS} {s_Text_isDigit : aS} {J : aJ} {K : aR} {n : Nat} {L : aL} {S : List Value} {M : aM} : am_run (c_Text_numberEnd s_Text_at s_Text_wordEnd s_Text_isDigit) k_Text_numberEnd J K (n + 1) 67 L S M = ai_goto 44 (am_run (c_Text_numberEnd s_Text_at s_Text_wordEnd s_Text_isDigit) k_Text_numberEnd J K n) K 67 L S M := by rfl
theorem r_Text_numberEnd_70 {s_Text_at : aS} {s_Text_wordEnd : aS} {s_Text_isDigit : aS} {J : aJ} {K : aR} {n : Nat} {L : aL} {S : List Value} {M : aM} : am_run (c_Text_numberEnd s_Text_at s_Text_wordEnd s_Text_isDigit) k_Text_numberEnd J K (n + 1) 70 L S M = ai_iload 3 71 (am_run (c_Text_numberEnd s_Text_at s_Text_wordEnd s_Text_isDigit) k_Text_numberEnd J K n) K 70 L S M := by rfl
theorem r_Text_numberEnd_71 {s_Text_at : aS} {s_Text_wordEnd : aS} {s_Text_isDigit : aS} {J : aJ} {K : aR} {n : Nat} {L : aL} {S : List Value} {M : aM} : am_run (c_Text_numberEnd s_Text_at s_Text_wordEnd s_Text_isDigit) k_Text_numberEnd J K (n + 1) 71 L S M = ai_iret (am_run (c_Text_numberEnd s_Text_at s_Text_wordEnd s_Text_isDigit) k_Text_numberEnd J K n) K 71 L S M := by rfl
def c_Text_nameEnd (s_Text_wordEnd : aS) : List (Nat × aI) := [
  (0, ai_aload 0 1),
  (1, ai_iload 1 2),
  (2, ai_callv2 2 s_Text_wordEnd 5),
  (5, ai_istore 2 6),
  (6, ai_iload 2 7),
  (7, ai_iload 1 8),
  (8, ai_isub 9),
  (9, ai_const 12 11),
  (11, ai_cmpgt 18 14),
  (14, ai_iload 2 15),
  (15, ai_goto 19),
  (18, ai_const (-1) 19),
  (19, ai_iret)]
set_option maxRecDepth 100000 in
set_option maxHeartbeats 4000000 in
theorem tb_Text_nameEnd {G : aG} {d : Nat} {s_Text_wordEnd : aS} {d_Text_wordEnd : Nat} (h_Text_wordEnd : am_Sp G Y_Text_wordEnd d_Text_wordEnd s_Text_wordEnd) (l_Text_wordEnd : d_Text_wordEnd < d) : am_tab G Y_Text_nameEnd d (c_Text_nameEnd s_Text_wordEnd) := by
  intro K p e s m args below meth c C
  exact ⟨as_aload_n C (pc := 0) (q := 0) (by decide +kernel) rfl rfl,
    as_iload_n C (pc := 1) (q := 1) (by decide +kernel) rfl rfl,
    as_callv2 C (pc := 2) h_Text_wordEnd (T := T_Text) (N := 2) rfl w_292 w_71 w_291 w_9 w_289 hy_Text_wordEnd (am_rm_of l_Text_wordEnd (by decide)) (by decide +kernel) rfl,
    as_istore_n C (pc := 5) (q := 2) (by decide +kernel) rfl (by decide) rfl,
    as_iload_n C (pc := 6) (q := 2) (by decide +kernel) rfl rfl,
    as_iload_n C (pc := 7) (q := 1) (by decide +kernel) rfl rfl,
    as_isub C (pc := 8) (by decide +kernel) rfl,
    as_bipush C (pc := 9) (n := 12) (by decide +kernel) (by decide +kernel) rfl,
    as_cmpgt C (pc := 11) (off := 7) (by decide +kernel) (by decide) rfl,
    as_iload_n C (pc := 14) (q := 2) (by decide +kernel) rfl rfl,
    as_goto C (pc := 15) (off := 4) (by decide +kernel) (by decide),
    as_iconst C (pc := 18) (n := (-1)) (by decide +kernel) (by decide +kernel) rfl,
    as_iret C (pc := 19) rfl (by decide +kernel), trivial⟩
abbrev k_Text_nameEnd : List Nat := []
theorem r_Text_nameEnd_0 {s_Text_wordEnd : aS} {J : aJ} {K : aR} {n : Nat} {L : aL} {S : List Value} {M : aM} : am_run (c_Text_nameEnd s_Text_wordEnd) k_Text_nameEnd J K (n + 1) 0 L S M = ai_aload 0 1 (am_run (c_Text_nameEnd s_Text_wordEnd) k_Text_nameEnd J K n) K 0 L S M := by rfl
theorem r_Text_nameEnd_1 {s_Text_wordEnd : aS} {J : aJ} {K : aR} {n : Nat} {L : aL} {S : List Value} {M : aM} : am_run (c_Text_nameEnd s_Text_wordEnd) k_Text_nameEnd J K (n + 1) 1 L S M = ai_iload 1 2 (am_run (c_Text_nameEnd s_Text_wordEnd) k_Text_nameEnd J K n) K 1 L S M := by rfl
theorem r_Text_nameEnd_2 {s_Text_wordEnd : aS} {J : aJ} {K : aR} {n : Nat} {L : aL} {S : List Value} {M : aM} : am_run (c_Text_nameEnd s_Text_wordEnd) k_Text_nameEnd J K (n + 1) 2 L S M = ai_callv2 2 s_Text_wordEnd 5 (am_run (c_Text_nameEnd s_Text_wordEnd) k_Text_nameEnd J K n) K 2 L S M := by rfl
theorem r_Text_nameEnd_5 {s_Text_wordEnd : aS} {J : aJ} {K : aR} {n : Nat} {L : aL} {S : List Value} {M : aM} : am_run (c_Text_nameEnd s_Text_wordEnd) k_Text_nameEnd J K (n + 1) 5 L S M = ai_istore 2 6 (am_run (c_Text_nameEnd s_Text_wordEnd) k_Text_nameEnd J K n) K 5 L S M := by rfl
theorem r_Text_nameEnd_6 {s_Text_wordEnd : aS} {J : aJ} {K : aR} {n : Nat} {L : aL} {S : List Value} {M : aM} : am_run (c_Text_nameEnd s_Text_wordEnd) k_Text_nameEnd J K (n + 1) 6 L S M = ai_iload 2 7 (am_run (c_Text_nameEnd s_Text_wordEnd) k_Text_nameEnd J K n) K 6 L S M := by rfl
theorem r_Text_nameEnd_7 {s_Text_wordEnd : aS} {J : aJ} {K : aR} {n : Nat} {L : aL} {S : List Value} {M : aM} : am_run (c_Text_nameEnd s_Text_wordEnd) k_Text_nameEnd J K (n + 1) 7 L S M = ai_iload 1 8 (am_run (c_Text_nameEnd s_Text_wordEnd) k_Text_nameEnd J K n) K 7 L S M := by rfl
theorem r_Text_nameEnd_8 {s_Text_wordEnd : aS} {J : aJ} {K : aR} {n : Nat} {L : aL} {S : List Value} {M : aM} : am_run (c_Text_nameEnd s_Text_wordEnd) k_Text_nameEnd J K (n + 1) 8 L S M = ai_isub 9 (am_run (c_Text_nameEnd s_Text_wordEnd) k_Text_nameEnd J K n) K 8 L S M := by rfl
theorem r_Text_nameEnd_9 {s_Text_wordEnd : aS} {J : aJ} {K : aR} {n : Nat} {L : aL} {S : List Value} {M : aM} : am_run (c_Text_nameEnd s_Text_wordEnd) k_Text_nameEnd J K (n + 1) 9 L S M = ai_const 12 11 (am_run (c_Text_nameEnd s_Text_wordEnd) k_Text_nameEnd J K n) K 9 L S M := by rfl
theorem r_Text_nameEnd_11 {s_Text_wordEnd : aS} {J : aJ} {K : aR} {n : Nat} {L : aL} {S : List Value} {M : aM} : am_run (c_Text_nameEnd s_Text_wordEnd) k_Text_nameEnd J K (n + 1) 11 L S M = ai_cmpgt 18 14 (am_run (c_Text_nameEnd s_Text_wordEnd) k_Text_nameEnd J K n) K 11 L S M := by rfl
theorem r_Text_nameEnd_14 {s_Text_wordEnd : aS} {J : aJ} {K : aR} {n : Nat} {L : aL} {S : List Value} {M : aM} : am_run (c_Text_nameEnd s_Text_wordEnd) k_Text_nameEnd J K (n + 1) 14 L S M = ai_iload 2 15 (am_run (c_Text_nameEnd s_Text_wordEnd) k_Text_nameEnd J K n) K 14 L S M := by rfl
theorem r_Text_nameEnd_15 {s_Text_wordEnd : aS} {J : aJ} {K : aR} {n : Nat} {L : aL} {S : List Value} {M : aM} : am_run (c_Text_nameEnd s_Text_wordEnd) k_Text_nameEnd J K (n + 1) 15 L S M = ai_goto 19 (am_run (c_Text_nameEnd s_Text_wordEnd) k_Text_nameEnd J K n) K 15 L S M := by rfl
theorem r_Text_nameEnd_18 {s_Text_wordEnd : aS} {J : aJ} {K : aR} {n : Nat} {L : aL} {S : List Value} {M : aM} : am_run (c_Text_nameEnd s_Text_wordEnd) k_Text_nameEnd J K (n + 1) 18 L S M = ai_const (-1) 19 (am_run (c_Text_nameEnd s_Text_wordEnd) k_Text_nameEnd J K n) K 18 L S M := by rfl
theorem r_Text_nameEnd_19 {s_Text_wordEnd : aS} {J : aJ} {K : aR} {n : Nat} {L : aL} {S : List Value} {M : aM} : am_run (c_Text_nameEnd s_Text_wordEnd) k_Text_nameEnd J K (n + 1) 19 L S M = ai_iret (am_run (c_Text_nameEnd s_Text_wordEnd) k_Text_nameEnd J K n) K 19 L S M := by rfl
def c_Text_wordEnd (s_Text_at : aS) (s_Text_isWordByte : aS) : List (Nat × aI) := [
  (0, ai_iload 1 1),
  (1, ai_istore 2 2),
  (2, ai_iload 2 3),
  (3, ai_aload 0 4),
  (4, ai_getf 2 1 7),
  (7, ai_cmpge 27 10),
  (10, ai_aload 0 11),
  (11, ai_iload 2 12),
  (12, ai_callv2 2 s_Text_at 15),
  (15, ai_calls1 s_Text_isWordByte 18),
  (18, ai_ifeq 27 21),
  (21, ai_iinc 2 1 24),
  (24, ai_goto 2),
  (27, ai_iload 2 28),
  (28, ai_iret)]
set_option maxRecDepth 100000 in
set_option maxHeartbeats 4000000 in
theorem tb_Text_wordEnd {G : aG} {d : Nat} {s_Text_at : aS} {d_Text_at : Nat} (h_Text_at : am_Sp G Y_Text_at d_Text_at s_Text_at) (l_Text_at : d_Text_at < d) {s_Text_isWordByte : aS} {d_Text_isWordByte : Nat} (h_Text_isWordByte : am_Sp G Y_Text_isWordByte d_Text_isWordByte s_Text_isWordByte) (l_Text_isWordByte : d_Text_isWordByte < d) : am_tab G Y_Text_wordEnd d (c_Text_wordEnd s_Text_at s_Text_isWordByte) := by
  intro K p e s m args below meth c C
  exact ⟨as_iload_n C (pc := 0) (q := 1) (by decide +kernel) rfl rfl,
    as_istore_n C (pc := 1) (q := 2) (by decide +kernel) rfl (by decide) rfl,
    as_iload_n C (pc := 2) (q := 2) (by decide +kernel) rfl rfl,
    as_aload_n C (pc := 3) (q := 0) (by decide +kernel) rfl rfl,
    as_getf C (pc := 4) (T := T_Text) (N := 2) rfl in_Text (by decide) rfl w_99 (by decide +kernel) rfl,
    as_cmpge C (pc := 7) (off := 20) (by decide +kernel) (by decide) rfl,
    as_aload_n C (pc := 10) (q := 0) (by decide +kernel) rfl rfl,
    as_iload_n C (pc := 11) (q := 2) (by decide +kernel) rfl rfl,
    as_callv2 C (pc := 12) h_Text_at (T := T_Text) (N := 2) rfl w_270 w_71 w_269 w_5 w_267 hy_Text_at (am_rm_of l_Text_at (by decide)) (by decide +kernel) rfl,
    as_calls1 C (pc := 15) h_Text_isWordByte w_280 w_71 w_279 w_278 hy_Text_isWordByte (am_rm_of l_Text_isWordByte (by decide)) (by decide +kernel) rfl,
    as_ifeq C (pc := 18) (off := 9) (by decide +kernel) (by decide) rfl,
    as_iinc C (pc := 21) (k := 2) (n := 1) (by decide +kernel) (by decide +kernel) (by decide) rfl,
    as_goto C (pc := 24) (off := (-22)) (by decide +kernel) (by decide),
    as_iload_n C (pc := 27) (q := 2) (by decide +kernel) rfl rfl,
    as_iret C (pc := 28) rfl (by decide +kernel), trivial⟩
abbrev k_Text_wordEnd : List Nat := [2]
theorem q_Text_wordEnd_2 {s_Text_at : aS} {s_Text_isWordByte : aS} : am_at (c_Text_wordEnd s_Text_at s_Text_isWordByte) 2 = ai_iload 2 3 := by rfl
theorem r_Text_wordEnd_0 {s_Text_at : aS} {s_Text_isWordByte : aS} {J : aJ} {K : aR} {n : Nat} {L : aL} {S : List Value} {M : aM} : am_run (c_Text_wordEnd s_Text_at s_Text_isWordByte) k_Text_wordEnd J K (n + 1) 0 L S M = ai_iload 1 1 (am_run (c_Text_wordEnd s_Text_at s_Text_isWordByte) k_Text_wordEnd J K n) K 0 L S M := by rfl
theorem r_Text_wordEnd_1 {s_Text_at : aS} {s_Text_isWordByte : aS} {J : aJ} {K : aR} {n : Nat} {L : aL} {S : List Value} {M : aM} : am_run (c_Text_wordEnd s_Text_at s_Text_isWordByte) k_Text_wordEnd J K (n + 1) 1 L S M = ai_istore 2 2 (am_run (c_Text_wordEnd s_Text_at s_Text_isWordByte) k_Text_wordEnd J K n) K 1 L S M := by rfl
theorem r_Text_wordEnd_2 {s_Text_at : aS} {s_Text_isWordByte : aS} {J : aJ} {K : aR} {n : Nat} {L : aL} {S : List Value} {M : aM} : am_run (c_Text_wordEnd s_Text_at s_Text_isWordByte) k_Text_wordEnd J K (n + 1) 2 L S M = J 2 L S M := by rfl
theorem r_Text_wordEnd_3 {s_Text_at : aS} {s_Text_isWordByte : aS} {J : aJ} {K : aR} {n : Nat} {L : aL} {S : List Value} {M : aM} : am_run (c_Text_wordEnd s_Text_at s_Text_isWordByte) k_Text_wordEnd J K (n + 1) 3 L S M = ai_aload 0 4 (am_run (c_Text_wordEnd s_Text_at s_Text_isWordByte) k_Text_wordEnd J K n) K 3 L S M := by rfl
theorem r_Text_wordEnd_4 {s_Text_at : aS} {s_Text_isWordByte : aS} {J : aJ} {K : aR} {n : Nat} {L : aL} {S : List Value} {M : aM} : am_run (c_Text_wordEnd s_Text_at s_Text_isWordByte) k_Text_wordEnd J K (n + 1) 4 L S M = ai_getf 2 1 7 (am_run (c_Text_wordEnd s_Text_at s_Text_isWordByte) k_Text_wordEnd J K n) K 4 L S M := by rfl
theorem r_Text_wordEnd_7 {s_Text_at : aS} {s_Text_isWordByte : aS} {J : aJ} {K : aR} {n : Nat} {L : aL} {S : List Value} {M : aM} : am_run (c_Text_wordEnd s_Text_at s_Text_isWordByte) k_Text_wordEnd J K (n + 1) 7 L S M = ai_cmpge 27 10 (am_run (c_Text_wordEnd s_Text_at s_Text_isWordByte) k_Text_wordEnd J K n) K 7 L S M := by rfl
theorem r_Text_wordEnd_10 {s_Text_at : aS} {s_Text_isWordByte : aS} {J : aJ} {K : aR} {n : Nat} {L : aL} {S : List Value} {M : aM} : am_run (c_Text_wordEnd s_Text_at s_Text_isWordByte) k_Text_wordEnd J K (n + 1) 10 L S M = ai_aload 0 11 (am_run (c_Text_wordEnd s_Text_at s_Text_isWordByte) k_Text_wordEnd J K n) K 10 L S M := by rfl
theorem r_Text_wordEnd_11 {s_Text_at : aS} {s_Text_isWordByte : aS} {J : aJ} {K : aR} {n : Nat} {L : aL} {S : List Value} {M : aM} : am_run (c_Text_wordEnd s_Text_at s_Text_isWordByte) k_Text_wordEnd J K (n + 1) 11 L S M = ai_iload 2 12 (am_run (c_Text_wordEnd s_Text_at s_Text_isWordByte) k_Text_wordEnd J K n) K 11 L S M := by rfl
theorem r_Text_wordEnd_12 {s_Text_at : aS} {s_Text_isWordByte : aS} {J : aJ} {K : aR} {n : Nat} {L : aL} {S : List Value} {M : aM} : am_run (c_Text_wordEnd s_Text_at s_Text_isWordByte) k_Text_wordEnd J K (n + 1) 12 L S M = ai_callv2 2 s_Text_at 15 (am_run (c_Text_wordEnd s_Text_at s_Text_isWordByte) k_Text_wordEnd J K n) K 12 L S M := by rfl
theorem r_Text_wordEnd_15 {s_Text_at : aS} {s_Text_isWordByte : aS} {J : aJ} {K : aR} {n : Nat} {L : aL} {S : List Value} {M : aM} : am_run (c_Text_wordEnd s_Text_at s_Text_isWordByte) k_Text_wordEnd J K (n + 1) 15 L S M = ai_calls1 s_Text_isWordByte 18 (am_run (c_Text_wordEnd s_Text_at s_Text_isWordByte) k_Text_wordEnd J K n) K 15 L S M := by rfl
theorem r_Text_wordEnd_18 {s_Text_at : aS} {s_Text_isWordByte : aS} {J : aJ} {K : aR} {n : Nat} {L : aL} {S : List Value} {M : aM} : am_run (c_Text_wordEnd s_Text_at s_Text_isWordByte) k_Text_wordEnd J K (n + 1) 18 L S M = ai_ifeq 27 21 (am_run (c_Text_wordEnd s_Text_at s_Text_isWordByte) k_Text_wordEnd J K n) K 18 L S M := by rfl
theorem r_Text_wordEnd_21 {s_Text_at : aS} {s_Text_isWordByte : aS} {J : aJ} {K : aR} {n : Nat} {L : aL} {S : List Value} {M : aM} : am_run (c_Text_wordEnd s_Text_at s_Text_isWordByte) k_Text_wordEnd J K (n + 1) 21 L S M = ai_iinc 2 1 24 (am_run (c_Text_wordEnd s_Text_at s_Text_isWordByte) k_Text_wordEnd J K n) K 21 L S M := by rfl
theorem r_Text_wordEnd_24 {s_Text_at : aS} {s_Text_isWordByte : aS} {J : aJ} {K : aR} {n : Nat} {L : aL} {S : List Value} {M : aM} : am_run (c_Text_wordEnd s_Text_at s_Text_isWordByte) k_Text_wordEnd J K (n + 1) 24 L S M = ai_goto 2 (am_run (c_Text_wordEnd s_Text_at s_Text_isWordByte) k_Text_wordEnd J K n) K 24 L S M := by rfl
theorem r_Text_wordEnd_27 {s_Text_at : aS} {s_Text_isWordByte : aS} {J : aJ} {K : aR} {n : Nat} {L : aL} {S : List Value} {M : aM} : am_run (c_Text_wordEnd s_Text_at s_Text_isWordByte) k_Text_wordEnd J K (n + 1) 27 L S M = ai_iload 2 28 (am_run (c_Text_wordEnd s_Text_at s_Text_isWordByte) k_Text_wordEnd J K n) K 27 L S M := by rfl
theorem r_Text_wordEnd_28 {s_Text_at : aS} {s_Text_isWordByte : aS} {J : aJ} {K : aR} {n : Nat} {L : aL} {S : List Value} {M : aM} : am_run (c_Text_wordEnd s_Text_at s_Text_isWordByte) k_Text_wordEnd J K (n + 1) 28 L S M = ai_iret (am_run (c_Text_wordEnd s_Text_at s_Text_isWordByte) k_Text_wordEnd J K n) K 28 L S M := by rfl
def c_Text_stringEnd (s_Text_at : aS) : List (Nat × aI) := [
  (0, ai_iload 1 1),
  (1, ai_const 1 2),
  (2, ai_iadd 3),
  (3, ai_istore 2 4),
  (4, ai_const 0 5),
  (5, ai_istore 3 6),
  (6, ai_iload 3 7),
  (7, ai_const 20 9),
  (9, ai_cmpgt 88 12),
  (12, ai_aload 0 13),
  (13, ai_iload 2 14),
  (14, ai_callv2 2 s_Text_at 17),
  (17, ai_istore 4 19),
  (19, ai_iload 4 21),
  (21, ai_const 34 23),
  (23, ai_cmpne 30 26),
  (26, ai_iload 2 27),
  (27, ai_const 1 28),
  (28, ai_iadd 29),
  (29, ai_iret),
  (30, ai_iload 4 32),
  (32, ai_const 92 34),
  (34, ai_cmpne 63 37),
  (37, ai_iinc 2 1 40),
  (40, ai_aload 0 41),
  (41, ai_iload 2 42),
  (42, ai_callv2 2 s_Text_at 45),
  (45, ai_istore 4 47),
  (47, ai_iload 4 49),
  (49, ai_const 34 51),
  (51, ai_cmpeq 63 54),
  (54, ai_iload 4 56),
  (56, ai_const 92 58),
  (58, ai_cmpeq 63 61),
  (61, ai_const (-1) 62),
  (62, ai_iret),
  (63, ai_iload 4 65),
  (65, ai_const 32 67),
  (67, ai_cmplt 77 70),
  (70, ai_iload 4 72),
  (72, ai_const 126 74),
  (74, ai_cmple 79 77),
  (77, ai_const (-1) 78),
  (78, ai_iret),
  (79, ai_iinc 2 1 82),
  (82, ai_iinc 3 1 85),
  (85, ai_goto 6),
  (88, ai_const (-1) 89),
  (89, ai_iret)]
set_option maxRecDepth 100000 in
set_option maxHeartbeats 4000000 in
theorem tb_Text_stringEnd {G : aG} {d : Nat} {s_Text_at : aS} {d_Text_at : Nat} (h_Text_at : am_Sp G Y_Text_at d_Text_at s_Text_at) (l_Text_at : d_Text_at < d) : am_tab G Y_Text_stringEnd d (c_Text_stringEnd s_Text_at) := by
  intro K p e s m args below meth c C
  exact ⟨as_iload_n C (pc := 0) (q := 1) (by decide +kernel) rfl rfl,
    as_iconst C (pc := 1) (n := 1) (by decide +kernel) (by decide +kernel) rfl,
    as_iadd C (pc := 2) (by decide +kernel) rfl,
    as_istore_n C (pc := 3) (q := 2) (by decide +kernel) rfl (by decide) rfl,
    as_iconst C (pc := 4) (n := 0) (by decide +kernel) (by decide +kernel) rfl,
    as_istore_n C (pc := 5) (q := 3) (by decide +kernel) rfl (by decide) rfl,
    as_iload_n C (pc := 6) (q := 3) (by decide +kernel) rfl rfl,
    as_bipush C (pc := 7) (n := 20) (by decide +kernel) (by decide +kernel) rfl,
    as_cmpgt C (pc := 9) (off := 79) (by decide +kernel) (by decide) rfl,
    as_aload_n C (pc := 12) (q := 0) (by decide +kernel) rfl rfl,
    as_iload_n C (pc := 13) (q := 2) (by decide +kernel) rfl rfl,
    as_callv2 C (pc := 14) h_Text_at (T := T_Text) (N := 2) rfl w_270 w_71 w_269 w_5 w_267 hy_Text_at (am_rm_of l_Text_at (by decide)) (by decide +kernel) rfl,
    as_istore C (pc := 17) (k := 4) (by decide +kernel) (by decide) rfl,
    as_iload C (pc := 19) (k := 4) (by decide +kernel) rfl,
    as_bipush C (pc := 21) (n := 34) (by decide +kernel) (by decide +kernel) rfl,
    as_cmpne C (pc := 23) (off := 7) (by decide +kernel) (by decide) rfl,
    as_iload_n C (pc := 26) (q := 2) (by decide +kernel) rfl rfl,
    as_iconst C (pc := 27) (n := 1) (by decide +kernel) (by decide +kernel) rfl,
    as_iadd C (pc := 28) (by decide +kernel) rfl,
    as_iret C (pc := 29) rfl (by decide +kernel),
    as_iload C (pc := 30) (k := 4) (by decide +kernel) rfl,
    as_bipush C (pc := 32) (n := 92) (by decide +kernel) (by decide +kernel) rfl,
    as_cmpne C (pc := 34) (off := 29) (by decide +kernel) (by decide) rfl,
    as_iinc C (pc := 37) (k := 2) (n := 1) (by decide +kernel) (by decide +kernel) (by decide) rfl,
    as_aload_n C (pc := 40) (q := 0) (by decide +kernel) rfl rfl,
    as_iload_n C (pc := 41) (q := 2) (by decide +kernel) rfl rfl,
    as_callv2 C (pc := 42) h_Text_at (T := T_Text) (N := 2) rfl w_270 w_71 w_269 w_5 w_267 hy_Text_at (am_rm_of l_Text_at (by decide)) (by decide +kernel) rfl,
    as_istore C (pc := 45) (k := 4) (by decide +kernel) (by decide) rfl,
    as_iload C (pc := 47) (k := 4) (by decide +kernel) rfl,
    as_bipush C (pc := 49) (n := 34) (by decide +kernel) (by decide +kernel) rfl,
    as_cmpeq C (pc := 51) (off := 12) (by decide +kernel) (by decide) rfl,
    as_iload C (pc := 54) (k := 4) (by decide +kernel) rfl,
    as_bipush C (pc := 56) (n := 92) (by decide +kernel) (by decide +kernel) rfl,
    as_cmpeq C (pc := 58) (off := 5) (by decide +kernel) (by decide) rfl,
    as_iconst C (pc := 61) (n := (-1)) (by decide +kernel) (by decide +kernel) rfl,
    as_iret C (pc := 62) rfl (by decide +kernel),
    as_iload C (pc := 63) (k := 4) (by decide +kernel) rfl,
    as_bipush C (pc := 65) (n := 32) (by decide +kernel) (by decide +kernel) rfl,
    as_cmplt C (pc := 67) (off := 10) (by decide +kernel) (by decide) rfl,
    as_iload C (pc := 70) (k := 4) (by decide +kernel) rfl,
    as_bipush C (pc := 72) (n := 126) (by decide +kernel) (by decide +kernel) rfl,
    as_cmple C (pc := 74) (off := 5) (by decide +kernel) (by decide) rfl,
    as_iconst C (pc := 77) (n := (-1)) (by decide +kernel) (by decide +kernel) rfl,
    as_iret C (pc := 78) rfl (by decide +kernel),
    as_iinc C (pc := 79) (k := 2) (n := 1) (by decide +kernel) (by decide +kernel) (by decide) rfl,
    as_iinc C (pc := 82) (k := 3) (n := 1) (by decide +kernel) (by decide +kernel) (by decide) rfl,
    as_goto C (pc := 85) (off := (-79)) (by decide +kernel) (by decide),
    as_iconst C (pc := 88) (n := (-1)) (by decide +kernel) (by decide +kernel) rfl,
    as_iret C (pc := 89) rfl (by decide +kernel), trivial⟩
abbrev k_Text_stringEnd : List Nat := [6]
theorem q_Text_stringEnd_6 {s_Text_at : aS} : am_at (c_Text_stringEnd s_Text_at) 6 = ai_iload 3 7 := by rfl
theorem r_Text_stringEnd_0 {s_Text_at : aS} {J : aJ} {K : aR} {n : Nat} {L : aL} {S : List Value} {M : aM} : am_run (c_Text_stringEnd s_Text_at) k_Text_stringEnd J K (n + 1) 0 L S M = ai_iload 1 1 (am_run (c_Text_stringEnd s_Text_at) k_Text_stringEnd J K n) K 0 L S M := by rfl
theorem r_Text_stringEnd_1 {s_Text_at : aS} {J : aJ} {K : aR} {n : Nat} {L : aL} {S : List Value} {M : aM} : am_run (c_Text_stringEnd s_Text_at) k_Text_stringEnd J K (n + 1) 1 L S M = ai_const 1 2 (am_run (c_Text_stringEnd s_Text_at) k_Text_stringEnd J K n) K 1 L S M := by rfl
theorem r_Text_stringEnd_2 {s_Text_at : aS} {J : aJ} {K : aR} {n : Nat} {L : aL} {S : List Value} {M : aM} : am_run (c_Text_stringEnd s_Text_at) k_Text_stringEnd J K (n + 1) 2 L S M = ai_iadd 3 (am_run (c_Text_stringEnd s_Text_at) k_Text_stringEnd J K n) K 2 L S M := by rfl
theorem r_Text_stringEnd_3 {s_Text_at : aS} {J : aJ} {K : aR} {n : Nat} {L : aL} {S : List Value} {M : aM} : am_run (c_Text_stringEnd s_Text_at) k_Text_stringEnd J K (n + 1) 3 L S M = ai_istore 2 4 (am_run (c_Text_stringEnd s_Text_at) k_Text_stringEnd J K n) K 3 L S M := by rfl
theorem r_Text_stringEnd_4 {s_Text_at : aS} {J : aJ} {K : aR} {n : Nat} {L : aL} {S : List Value} {M : aM} : am_run (c_Text_stringEnd s_Text_at) k_Text_stringEnd J K (n + 1) 4 L S M = ai_const 0 5 (am_run (c_Text_stringEnd s_Text_at) k_Text_stringEnd J K n) K 4 L S M := by rfl
theorem r_Text_stringEnd_5 {s_Text_at : aS} {J : aJ} {K : aR} {n : Nat} {L : aL} {S : List Value} {M : aM} : am_run (c_Text_stringEnd s_Text_at) k_Text_stringEnd J K (n + 1) 5 L S M = ai_istore 3 6 (am_run (c_Text_stringEnd s_Text_at) k_Text_stringEnd J K n) K 5 L S M := by rfl
theorem r_Text_stringEnd_6 {s_Text_at : aS} {J : aJ} {K : aR} {n : Nat} {L : aL} {S : List Value} {M : aM} : am_run (c_Text_stringEnd s_Text_at) k_Text_stringEnd J K (n + 1) 6 L S M = J 6 L S M := by rfl
theorem r_Text_stringEnd_7 {s_Text_at : aS} {J : aJ} {K : aR} {n : Nat} {L : aL} {S : List Value} {M : aM} : am_run (c_Text_stringEnd s_Text_at) k_Text_stringEnd J K (n + 1) 7 L S M = ai_const 20 9 (am_run (c_Text_stringEnd s_Text_at) k_Text_stringEnd J K n) K 7 L S M := by rfl
theorem r_Text_stringEnd_9 {s_Text_at : aS} {J : aJ} {K : aR} {n : Nat} {L : aL} {S : List Value} {M : aM} : am_run (c_Text_stringEnd s_Text_at) k_Text_stringEnd J K (n + 1) 9 L S M = ai_cmpgt 88 12 (am_run (c_Text_stringEnd s_Text_at) k_Text_stringEnd J K n) K 9 L S M := by rfl
theorem r_Text_stringEnd_12 {s_Text_at : aS} {J : aJ} {K : aR} {n : Nat} {L : aL} {S : List Value} {M : aM} : am_run (c_Text_stringEnd s_Text_at) k_Text_stringEnd J K (n + 1) 12 L S M = ai_aload 0 13 (am_run (c_Text_stringEnd s_Text_at) k_Text_stringEnd J K n) K 12 L S M := by rfl
theorem r_Text_stringEnd_13 {s_Text_at : aS} {J : aJ} {K : aR} {n : Nat} {L : aL} {S : List Value} {M : aM} : am_run (c_Text_stringEnd s_Text_at) k_Text_stringEnd J K (n + 1) 13 L S M = ai_iload 2 14 (am_run (c_Text_stringEnd s_Text_at) k_Text_stringEnd J K n) K 13 L S M := by rfl
theorem r_Text_stringEnd_14 {s_Text_at : aS} {J : aJ} {K : aR} {n : Nat} {L : aL} {S : List Value} {M : aM} : am_run (c_Text_stringEnd s_Text_at) k_Text_stringEnd J K (n + 1) 14 L S M = ai_callv2 2 s_Text_at 17 (am_run (c_Text_stringEnd s_Text_at) k_Text_stringEnd J K n) K 14 L S M := by rfl
theorem r_Text_stringEnd_17 {s_Text_at : aS} {J : aJ} {K : aR} {n : Nat} {L : aL} {S : List Value} {M : aM} : am_run (c_Text_stringEnd s_Text_at) k_Text_stringEnd J K (n + 1) 17 L S M = ai_istore 4 19 (am_run (c_Text_stringEnd s_Text_at) k_Text_stringEnd J K n) K 17 L S M := by rfl
theorem r_Text_stringEnd_19 {s_Text_at : aS} {J : aJ} {K : aR} {n : Nat} {L : aL} {S : List Value} {M : aM} : am_run (c_Text_stringEnd s_Text_at) k_Text_stringEnd J K (n + 1) 19 L S M = ai_iload 4 21 (am_run (c_Text_stringEnd s_Text_at) k_Text_stringEnd J K n) K 19 L S M := by rfl
theorem r_Text_stringEnd_21 {s_Text_at : aS} {J : aJ} {K : aR} {n : Nat} {L : aL} {S : List Value} {M : aM} : am_run (c_Text_stringEnd s_Text_at) k_Text_stringEnd J K (n + 1) 21 L S M = ai_const 34 23 (am_run (c_Text_stringEnd s_Text_at) k_Text_stringEnd J K n) K 21 L S M := by rfl
theorem r_Text_stringEnd_23 {s_Text_at : aS} {J : aJ} {K : aR} {n : Nat} {L : aL} {S : List Value} {M : aM} : am_run (c_Text_stringEnd s_Text_at) k_Text_stringEnd J K (n + 1) 23 L S M = ai_cmpne 30 26 (am_run (c_Text_stringEnd s_Text_at) k_Text_stringEnd J K n) K 23 L S M := by rfl
theorem r_Text_stringEnd_26 {s_Text_at : aS} {J : aJ} {K : aR} {n : Nat} {L : aL} {S : List Value} {M : aM} : am_run (c_Text_stringEnd s_Text_at) k_Text_stringEnd J K (n + 1) 26 L S M = ai_iload 2 27 (am_run (c_Text_stringEnd s_Text_at) k_Text_stringEnd J K n) K 26 L S M := by rfl
theorem r_Text_stringEnd_27 {s_Text_at : aS} {J : aJ} {K : aR} {n : Nat} {L : aL} {S : List Value} {M : aM} : am_run (c_Text_stringEnd s_Text_at) k_Text_stringEnd J K (n + 1) 27 L S M = ai_const 1 28 (am_run (c_Text_stringEnd s_Text_at) k_Text_stringEnd J K n) K 27 L S M := by rfl
theorem r_Text_stringEnd_28 {s_Text_at : aS} {J : aJ} {K : aR} {n : Nat} {L : aL} {S : List Value} {M : aM} : am_run (c_Text_stringEnd s_Text_at) k_Text_stringEnd J K (n + 1) 28 L S M = ai_iadd 29 (am_run (c_Text_stringEnd s_Text_at) k_Text_stringEnd J K n) K 28 L S M := by rfl
theorem r_Text_stringEnd_29 {s_Text_at : aS} {J : aJ} {K : aR} {n : Nat} {L : aL} {S : List Value} {M : aM} : am_run (c_Text_stringEnd s_Text_at) k_Text_stringEnd J K (n + 1) 29 L S M = ai_iret (am_run (c_Text_stringEnd s_Text_at) k_Text_stringEnd J K n) K 29 L S M := by rfl
theorem r_Text_stringEnd_30 {s_Text_at : aS} {J : aJ} {K : aR} {n : Nat} {L : aL} {S : List Value} {M : aM} : am_run (c_Text_stringEnd s_Text_at) k_Text_stringEnd J K (n + 1) 30 L S M = ai_iload 4 32 (am_run (c_Text_stringEnd s_Text_at) k_Text_stringEnd J K n) K 30 L S M := by rfl
theorem r_Text_stringEnd_32 {s_Text_at : aS} {J : aJ} {K : aR} {n : Nat} {L : aL} {S : List Value} {M : aM} : am_run (c_Text_stringEnd s_Text_at) k_Text_stringEnd J K (n + 1) 32 L S M = ai_const 92 34 (am_run (c_Text_stringEnd s_Text_at) k_Text_stringEnd J K n) K 32 L S M := by rfl
theorem r_Text_stringEnd_34 {s_Text_at : aS} {J : aJ} {K : aR} {n : Nat} {L : aL} {S : List Value} {M : aM} : am_run (c_Text_stringEnd s_Text_at) k_Text_stringEnd J K (n + 1) 34 L S M = ai_cmpne 63 37 (am_run (c_Text_stringEnd s_Text_at) k_Text_stringEnd J K n) K 34 L S M := by rfl
theorem r_Text_stringEnd_37 {s_Text_at : aS} {J : aJ} {K : aR} {n : Nat} {L : aL} {S : List Value} {M : aM} : am_run (c_Text_stringEnd s_Text_at) k_Text_stringEnd J K (n + 1) 37 L S M = ai_iinc 2 1 40 (am_run (c_Text_stringEnd s_Text_at) k_Text_stringEnd J K n) K 37 L S M := by rfl
theorem r_Text_stringEnd_40 {s_Text_at : aS} {J : aJ} {K : aR} {n : Nat} {L : aL} {S : List Value} {M : aM} : am_run (c_Text_stringEnd s_Text_at) k_Text_stringEnd J K (n + 1) 40 L S M = ai_aload 0 41 (am_run (c_Text_stringEnd s_Text_at) k_Text_stringEnd J K n) K 40 L S M := by rfl
theorem r_Text_stringEnd_41 {s_Text_at : aS} {J : aJ} {K : aR} {n : Nat} {L : aL} {S : List Value} {M : aM} : am_run (c_Text_stringEnd s_Text_at) k_Text_stringEnd J K (n + 1) 41 L S M = ai_iload 2 42 (am_run (c_Text_stringEnd s_Text_at) k_Text_stringEnd J K n) K 41 L S M := by rfl
theorem r_Text_stringEnd_42 {s_Text_at : aS} {J : aJ} {K : aR} {n : Nat} {L : aL} {S : List Value} {M : aM} : am_run (c_Text_stringEnd s_Text_at) k_Text_stringEnd J K (n + 1) 42 L S M = ai_callv2 2 s_Text_at 45 (am_run (c_Text_stringEnd s_Text_at) k_Text_stringEnd J K n) K 42 L S M := by rfl
theorem r_Text_stringEnd_45 {s_Text_at : aS} {J : aJ} {K : aR} {n : Nat} {L : aL} {S : List Value} {M : aM} : am_run (c_Text_stringEnd s_Text_at) k_Text_stringEnd J K (n + 1) 45 L S M = ai_istore 4 47 (am_run (c_Text_stringEnd s_Text_at) k_Text_stringEnd J K n) K 45 L S M := by rfl
theorem r_Text_stringEnd_47 {s_Text_at : aS} {J : aJ} {K : aR} {n : Nat} {L : aL} {S : List Value} {M : aM} : am_run (c_Text_stringEnd s_Text_at) k_Text_stringEnd J K (n + 1) 47 L S M = ai_iload 4 49 (am_run (c_Text_stringEnd s_Text_at) k_Text_stringEnd J K n) K 47 L S M := by rfl
theorem r_Text_stringEnd_49 {s_Text_at : aS} {J : aJ} {K : aR} {n : Nat} {L : aL} {S : List Value} {M : aM} : am_run (c_Text_stringEnd s_Text_at) k_Text_stringEnd J K (n + 1) 49 L S M = ai_const 34 51 (am_run (c_Text_stringEnd s_Text_at) k_Text_stringEnd J K n) K 49 L S M := by rfl
theorem r_Text_stringEnd_51 {s_Text_at : aS} {J : aJ} {K : aR} {n : Nat} {L : aL} {S : List Value} {M : aM} : am_run (c_Text_stringEnd s_Text_at) k_Text_stringEnd J K (n + 1) 51 L S M = ai_cmpeq 63 54 (am_run (c_Text_stringEnd s_Text_at) k_Text_stringEnd J K n) K 51 L S M := by rfl
theorem r_Text_stringEnd_54 {s_Text_at : aS} {J : aJ} {K : aR} {n : Nat} {L : aL} {S : List Value} {M : aM} : am_run (c_Text_stringEnd s_Text_at) k_Text_stringEnd J K (n + 1) 54 L S M = ai_iload 4 56 (am_run (c_Text_stringEnd s_Text_at) k_Text_stringEnd J K n) K 54 L S M := by rfl
theorem r_Text_stringEnd_56 {s_Text_at : aS} {J : aJ} {K : aR} {n : Nat} {L : aL} {S : List Value} {M : aM} : am_run (c_Text_stringEnd s_Text_at) k_Text_stringEnd J K (n + 1) 56 L S M = ai_const 92 58 (am_run (c_Text_stringEnd s_Text_at) k_Text_stringEnd J K n) K 56 L S M := by rfl
theorem r_Text_stringEnd_58 {s_Text_at : aS} {J : aJ} {K : aR} {n : Nat} {L : aL} {S : List Value} {M : aM} : am_run (c_Text_stringEnd s_Text_at) k_Text_stringEnd J K (n + 1) 58 L S M = ai_cmpeq 63 61 (am_run (c_Text_stringEnd s_Text_at) k_Text_stringEnd J K n) K 58 L S M := by rfl
theorem r_Text_stringEnd_61 {s_Text_at : aS} {J : aJ} {K : aR} {n : Nat} {L : aL} {S : List Value} {M : aM} : am_run (c_Text_stringEnd s_Text_at) k_Text_stringEnd J K (n + 1) 61 L S M = ai_const (-1) 62 (am_run (c_Text_stringEnd s_Text_at) k_Text_stringEnd J K n) K 61 L S M := by rfl
theorem r_Text_stringEnd_62 {s_Text_at : aS} {J : aJ} {K : aR} {n : Nat} {L : aL} {S : List Value} {M : aM} : am_run (c_Text_stringEnd s_Text_at) k_Text_stringEnd J K (n + 1) 62 L S M = ai_iret (am_run (c_Text_stringEnd s_Text_at) k_Text_stringEnd J K n) K 62 L S M := by rfl
theorem r_Text_stringEnd_63 {s_Text_at : aS} {J : aJ} {K : aR} {n : Nat} {L : aL} {S : List Value} {M : aM} : am_run (c_Text_stringEnd s_Text_at) k_Text_stringEnd J K (n + 1) 63 L S M = ai_iload 4 65 (am_run (c_Text_stringEnd s_Text_at) k_Text_stringEnd J K n) K 63 L S M := by rfl
theorem r_Text_stringEnd_65 {s_Text_at : aS} {J : aJ} {K : aR} {n : Nat} {L : aL} {S : List Value} {M : aM} : am_run (c_Text_stringEnd s_Text_at) k_Text_stringEnd J K (n + 1) 65 L S M = ai_const 32 67 (am_run (c_Text_stringEnd s_Text_at) k_Text_stringEnd J K n) K 65 L S M := by rfl
theorem r_Text_stringEnd_67 {s_Text_at : aS} {J : aJ} {K : aR} {n : Nat} {L : aL} {S : List Value} {M : aM} : am_run (c_Text_stringEnd s_Text_at) k_Text_stringEnd J K (n + 1) 67 L S M = ai_cmplt 77 70 (am_run (c_Text_stringEnd s_Text_at) k_Text_stringEnd J K n) K 67 L S M := by rfl
theorem r_Text_stringEnd_70 {s_Text_at : aS} {J : aJ} {K : aR} {n : Nat} {L : aL} {S : List Value} {M : aM} : am_run (c_Text_stringEnd s_Text_at) k_Text_stringEnd J K (n + 1) 70 L S M = ai_iload 4 72 (am_run (c_Text_stringEnd s_Text_at) k_Text_stringEnd J K n) K 70 L S M := by rfl
theorem r_Text_stringEnd_72 {s_Text_at : aS} {J : aJ} {K : aR} {n : Nat} {L : aL} {S : List Value} {M : aM} : am_run (c_Text_stringEnd s_Text_at) k_Text_stringEnd J K (n + 1) 72 L S M = ai_const 126 74 (am_run (c_Text_stringEnd s_Text_at) k_Text_stringEnd J K n) K 72 L S M := by rfl
theorem r_Text_stringEnd_74 {s_Text_at : aS} {J : aJ} {K : aR} {n : Nat} {L : aL} {S : List Value} {M : aM} : am_run (c_Text_stringEnd s_Text_at) k_Text_stringEnd J K (n + 1) 74 L S M = ai_cmple 79 77 (am_run (c_Text_stringEnd s_Text_at) k_Text_stringEnd J K n) K 74 L S M := by rfl
theorem r_Text_stringEnd_77 {s_Text_at : aS} {J : aJ} {K : aR} {n : Nat} {L : aL} {S : List Value} {M : aM} : am_run (c_Text_stringEnd s_Text_at) k_Text_stringEnd J K (n + 1) 77 L S M = ai_const (-1) 78 (am_run (c_Text_stringEnd s_Text_at) k_Text_stringEnd J K n) K 77 L S M := by rfl
theorem r_Text_stringEnd_78 {s_Text_at : aS} {J : aJ} {K : aR} {n : Nat} {L : aL} {S : List Value} {M : aM} : am_run (c_Text_stringEnd s_Text_at) k_Text_stringEnd J K (n + 1) 78 L S M = ai_iret (am_run (c_Text_stringEnd s_Text_at) k_Text_stringEnd J K n) K 78 L S M := by rfl
theorem r_Text_stringEnd_79 {s_Text_at : aS} {J : aJ} {K : aR} {n : Nat} {L : aL} {S : List Value} {M : aM} : am_run (c_Text_stringEnd s_Text_at) k_Text_stringEnd J K (n + 1) 79 L S M = ai_iinc 2 1 82 (am_run (c_Text_stringEnd s_Text_at) k_Text_stringEnd J K n) K 79 L S M := by rfl
theorem r_Text_stringEnd_82 {s_Text_at : aS} {J : aJ} {K : aR} {n : Nat} {L : aL} {S : List Value} {M : aM} : am_run (c_Text_stringEnd s_Text_at) k_Text_stringEnd J K (n + 1) 82 L S M = ai_iinc 3 1 85 (am_run (c_Text_stringEnd s_Text_at) k_Text_stringEnd J K n) K 82 L S M := by rfl
theorem r_Text_stringEnd_85 {s_Text_at : aS} {J : aJ} {K : aR} {n : Nat} {L : aL} {S : List Value} {M : aM} : am_run (c_Text_stringEnd s_Text_at) k_Text_stringEnd J K (n + 1) 85 L S M = ai_goto 6 (am_run (c_Text_stringEnd s_Text_at) k_Text_stringEnd J K n) K 85 L S M := by rfl
theorem r_Text_stringEnd_88 {s_Text_at : aS} {J : aJ} {K : aR} {n : Nat} {L : aL} {S : List Value} {M : aM} : am_run (c_Text_stringEnd s_Text_at) k_Text_stringEnd J K (n + 1) 88 L S M = ai_const (-1) 89 (am_run (c_Text_stringEnd s_Text_at) k_Text_stringEnd J K n) K 88 L S M := by rfl
theorem r_Text_stringEnd_89 {s_Text_at : aS} {J : aJ} {K : aR} {n : Nat} {L : aL} {S : List Value} {M : aM} : am_run (c_Text_stringEnd s_Text_at) k_Text_stringEnd J K (n + 1) 89 L S M = ai_iret (am_run (c_Text_stringEnd s_Text_at) k_Text_stringEnd J K n) K 89 L S M := by rfl
def c_Text_isDigit : List (Nat × aI) := [
  (0, ai_iload 0 1),
  (1, ai_const 48 3),
  (3, ai_cmplt 16 6),
  (6, ai_iload 0 7),
  (7, ai_const 57 9),
  (9, ai_cmpgt 16 12),
  (12, ai_const 1 13),
  (13, ai_goto 17),
  (16, ai_const 0 17),
  (17, ai_zret)]
set_option maxRecDepth 100000 in
set_option maxHeartbeats 4000000 in
theorem tb_Text_isDigit {G : aG} {d : Nat} : am_tab G Y_Text_isDigit d (c_Text_isDigit) := by
  intro K p e s m args below meth c C
  exact ⟨as_iload_n C (pc := 0) (q := 0) (by decide +kernel) rfl rfl,
    as_bipush C (pc := 1) (n := 48) (by decide +kernel) (by decide +kernel) rfl,
    as_cmplt C (pc := 3) (off := 13) (by decide +kernel) (by decide) rfl,
    as_iload_n C (pc := 6) (q := 0) (by decide +kernel) rfl rfl,
    as_bipush C (pc := 7) (n := 57) (by decide +kernel) (by decide +kernel) rfl,
    as_cmpgt C (pc := 9) (off := 7) (by decide +kernel) (by decide) rfl,
    as_iconst C (pc := 12) (n := 1) (by decide +kernel) (by decide +kernel) rfl,
    as_goto C (pc := 13) (off := 4) (by decide +kernel) (by decide),
    as_iconst C (pc := 16) (n := 0) (by decide +kernel) (by decide +kernel) rfl,
    as_zret C (pc := 17) rfl (by decide +kernel), trivial⟩
abbrev k_Text_isDigit : List Nat := []
theorem r_Text_isDigit_0 {J : aJ} {K : aR} {n : Nat} {L : aL} {S : List Value} {M : aM} : am_run (c_Text_isDigit) k_Text_isDigit J K (n + 1) 0 L S M = ai_iload 0 1 (am_run (c_Text_isDigit) k_Text_isDigit J K n) K 0 L S M := by rfl
theorem r_Text_isDigit_1 {J : aJ} {K : aR} {n : Nat} {L : aL} {S : List Value} {M : aM} : am_run (c_Text_isDigit) k_Text_isDigit J K (n + 1) 1 L S M = ai_const 48 3 (am_run (c_Text_isDigit) k_Text_isDigit J K n) K 1 L S M := by rfl
theorem r_Text_isDigit_3 {J : aJ} {K : aR} {n : Nat} {L : aL} {S : List Value} {M : aM} : am_run (c_Text_isDigit) k_Text_isDigit J K (n + 1) 3 L S M = ai_cmplt 16 6 (am_run (c_Text_isDigit) k_Text_isDigit J K n) K 3 L S M := by rfl
theorem r_Text_isDigit_6 {J : aJ} {K : aR} {n : Nat} {L : aL} {S : List Value} {M : aM} : am_run (c_Text_isDigit) k_Text_isDigit J K (n + 1) 6 L S M = ai_iload 0 7 (am_run (c_Text_isDigit) k_Text_isDigit J K n) K 6 L S M := by rfl
theorem r_Text_isDigit_7 {J : aJ} {K : aR} {n : Nat} {L : aL} {S : List Value} {M : aM} : am_run (c_Text_isDigit) k_Text_isDigit J K (n + 1) 7 L S M = ai_const 57 9 (am_run (c_Text_isDigit) k_Text_isDigit J K n) K 7 L S M := by rfl
theorem r_Text_isDigit_9 {J : aJ} {K : aR} {n : Nat} {L : aL} {S : List Value} {M : aM} : am_run (c_Text_isDigit) k_Text_isDigit J K (n + 1) 9 L S M = ai_cmpgt 16 12 (am_run (c_Text_isDigit) k_Text_isDigit J K n) K 9 L S M := by rfl
theorem r_Text_isDigit_12 {J : aJ} {K : aR} {n : Nat} {L : aL} {S : List Value} {M : aM} : am_run (c_Text_isDigit) k_Text_isDigit J K (n + 1) 12 L S M = ai_const 1 13 (am_run (c_Text_isDigit) k_Text_isDigit J K n) K 12 L S M := by rfl
theorem r_Text_isDigit_13 {J : aJ} {K : aR} {n : Nat} {L : aL} {S : List Value} {M : aM} : am_run (c_Text_isDigit) k_Text_isDigit J K (n + 1) 13 L S M = ai_goto 17 (am_run (c_Text_isDigit) k_Text_isDigit J K n) K 13 L S M := by rfl
theorem r_Text_isDigit_16 {J : aJ} {K : aR} {n : Nat} {L : aL} {S : List Value} {M : aM} : am_run (c_Text_isDigit) k_Text_isDigit J K (n + 1) 16 L S M = ai_const 0 17 (am_run (c_Text_isDigit) k_Text_isDigit J K n) K 16 L S M := by rfl
theorem r_Text_isDigit_17 {J : aJ} {K : aR} {n : Nat} {L : aL} {S : List Value} {M : aM} : am_run (c_Text_isDigit) k_Text_isDigit J K (n + 1) 17 L S M = ai_zret (am_run (c_Text_isDigit) k_Text_isDigit J K n) K 17 L S M := by rfl
def c_Text_isWordByte : List (Nat × aI) := [
  (0, ai_iload 0 1),
  (1, ai_const 97 3),
  (3, ai_cmplt 12 6),
  (6, ai_iload 0 7),
  (7, ai_const 122 9),
  (9, ai_cmple 24 12),
  (12, ai_iload 0 13),
  (13, ai_const 48 15),
  (15, ai_cmplt 26 18),
  (18, ai_iload 0 19),
  (19, ai_const 57 21),
  (21, ai_cmpgt 26 24),
  (24, ai_const 1 25),
  (25, ai_zret),
  (26, ai_iload 0 27),
  (27, ai_switch [(33, 164), (34, 166), (35, 166), (36, 166), (37, 166), (38, 166), (39, 166), (40, 166), (41, 166), (42, 164), (43, 164), (44, 166), (45, 164), (46, 166), (47, 164), (48, 166), (49, 166), (50, 166), (51, 166), (52, 166), (53, 166), (54, 166), (55, 166), (56, 166), (57, 166), (58, 166), (59, 166), (60, 164), (61, 164), (62, 164), (63, 164)] 166),
  (164, ai_const 1 165),
  (165, ai_zret),
  (166, ai_const 0 167),
  (167, ai_zret)]
set_option maxRecDepth 100000 in
set_option maxHeartbeats 4000000 in
theorem tb_Text_isWordByte {G : aG} {d : Nat} : am_tab G Y_Text_isWordByte d (c_Text_isWordByte) := by
  intro K p e s m args below meth c C
  exact ⟨as_iload_n C (pc := 0) (q := 0) (by decide +kernel) rfl rfl,
    as_bipush C (pc := 1) (n := 97) (by decide +kernel) (by decide +kernel) rfl,
    as_cmplt C (pc := 3) (off := 9) (by decide +kernel) (by decide) rfl,
    as_iload_n C (pc := 6) (q := 0) (by decide +kernel) rfl rfl,
    as_bipush C (pc := 7) (n := 122) (by decide +kernel) (by decide +kernel) rfl,
    as_cmple C (pc := 9) (off := 15) (by decide +kernel) (by decide) rfl,
    as_iload_n C (pc := 12) (q := 0) (by decide +kernel) rfl rfl,
    as_bipush C (pc := 13) (n := 48) (by decide +kernel) (by decide +kernel) rfl,
    as_cmplt C (pc := 15) (off := 11) (by decide +kernel) (by decide) rfl,
    as_iload_n C (pc := 18) (q := 0) (by decide +kernel) rfl rfl,
    as_bipush C (pc := 19) (n := 57) (by decide +kernel) (by decide +kernel) rfl,
    as_cmpgt C (pc := 21) (off := 5) (by decide +kernel) (by decide) rfl,
    as_iconst C (pc := 24) (n := 1) (by decide +kernel) (by decide +kernel) rfl,
    as_zret C (pc := 25) rfl (by decide +kernel),
    as_iload_n C (pc := 26) (q := 0) (by decide +kernel) rfl rfl,
    as_table C (pc := 27) (dflt := 139) (lo := 33) (hi := 63) (offs := #[137, 139, 139, 139, 139, 139, 139, 139, 139, 137, 137, 139, 137, 139, 137, 139, 139, 139, 139, 139, 139, 139, 139, 139, 139, 139, 139, 137, 137, 137, 137]) (len := 137) (by decide +kernel) (by decide +kernel) (by decide) (by decide),
    as_iconst C (pc := 164) (n := 1) (by decide +kernel) (by decide +kernel) rfl,
    as_zret C (pc := 165) rfl (by decide +kernel),
    as_iconst C (pc := 166) (n := 0) (by decide +kernel) (by decide +kernel) rfl,
    as_zret C (pc := 167) rfl (by decide +kernel), trivial⟩
abbrev k_Text_isWordByte : List Nat := []
theorem r_Text_isWordByte_0 {J : aJ} {K : aR} {n : Nat} {L : aL} {S : List Value} {M : aM} : am_run (c_Text_isWordByte) k_Text_isWordByte J K (n + 1) 0 L S M = ai_iload 0 1 (am_run (c_Text_isWordByte) k_Text_isWordByte J K n) K 0 L S M := by rfl
theorem r_Text_isWordByte_1 {J : aJ} {K : aR} {n : Nat} {L : aL} {S : List Value} {M : aM} : am_run (c_Text_isWordByte) k_Text_isWordByte J K (n + 1) 1 L S M = ai_const 97 3 (am_run (c_Text_isWordByte) k_Text_isWordByte J K n) K 1 L S M := by rfl
theorem r_Text_isWordByte_3 {J : aJ} {K : aR} {n : Nat} {L : aL} {S : List Value} {M : aM} : am_run (c_Text_isWordByte) k_Text_isWordByte J K (n + 1) 3 L S M = ai_cmplt 12 6 (am_run (c_Text_isWordByte) k_Text_isWordByte J K n) K 3 L S M := by rfl
theorem r_Text_isWordByte_6 {J : aJ} {K : aR} {n : Nat} {L : aL} {S : List Value} {M : aM} : am_run (c_Text_isWordByte) k_Text_isWordByte J K (n + 1) 6 L S M = ai_iload 0 7 (am_run (c_Text_isWordByte) k_Text_isWordByte J K n) K 6 L S M := by rfl
theorem r_Text_isWordByte_7 {J : aJ} {K : aR} {n : Nat} {L : aL} {S : List Value} {M : aM} : am_run (c_Text_isWordByte) k_Text_isWordByte J K (n + 1) 7 L S M = ai_const 122 9 (am_run (c_Text_isWordByte) k_Text_isWordByte J K n) K 7 L S M := by rfl
theorem r_Text_isWordByte_9 {J : aJ} {K : aR} {n : Nat} {L : aL} {S : List Value} {M : aM} : am_run (c_Text_isWordByte) k_Text_isWordByte J K (n + 1) 9 L S M = ai_cmple 24 12 (am_run (c_Text_isWordByte) k_Text_isWordByte J K n) K 9 L S M := by rfl
theorem r_Text_isWordByte_12 {J : aJ} {K : aR} {n : Nat} {L : aL} {S : List Value} {M : aM} : am_run (c_Text_isWordByte) k_Text_isWordByte J K (n + 1) 12 L S M = ai_iload 0 13 (am_run (c_Text_isWordByte) k_Text_isWordByte J K n) K 12 L S M := by rfl
theorem r_Text_isWordByte_13 {J : aJ} {K : aR} {n : Nat} {L : aL} {S : List Value} {M : aM} : am_run (c_Text_isWordByte) k_Text_isWordByte J K (n + 1) 13 L S M = ai_const 48 15 (am_run (c_Text_isWordByte) k_Text_isWordByte J K n) K 13 L S M := by rfl
theorem r_Text_isWordByte_15 {J : aJ} {K : aR} {n : Nat} {L : aL} {S : List Value} {M : aM} : am_run (c_Text_isWordByte) k_Text_isWordByte J K (n + 1) 15 L S M = ai_cmplt 26 18 (am_run (c_Text_isWordByte) k_Text_isWordByte J K n) K 15 L S M := by rfl
theorem r_Text_isWordByte_18 {J : aJ} {K : aR} {n : Nat} {L : aL} {S : List Value} {M : aM} : am_run (c_Text_isWordByte) k_Text_isWordByte J K (n + 1) 18 L S M = ai_iload 0 19 (am_run (c_Text_isWordByte) k_Text_isWordByte J K n) K 18 L S M := by rfl
theorem r_Text_isWordByte_19 {J : aJ} {K : aR} {n : Nat} {L : aL} {S : List Value} {M : aM} : am_run (c_Text_isWordByte) k_Text_isWordByte J K (n + 1) 19 L S M = ai_const 57 21 (am_run (c_Text_isWordByte) k_Text_isWordByte J K n) K 19 L S M := by rfl
theorem r_Text_isWordByte_21 {J : aJ} {K : aR} {n : Nat} {L : aL} {S : List Value} {M : aM} : am_run (c_Text_isWordByte) k_Text_isWordByte J K (n + 1) 21 L S M = ai_cmpgt 26 24 (am_run (c_Text_isWordByte) k_Text_isWordByte J K n) K 21 L S M := by rfl
theorem r_Text_isWordByte_24 {J : aJ} {K : aR} {n : Nat} {L : aL} {S : List Value} {M : aM} : am_run (c_Text_isWordByte) k_Text_isWordByte J K (n + 1) 24 L S M = ai_const 1 25 (am_run (c_Text_isWordByte) k_Text_isWordByte J K n) K 24 L S M := by rfl
theorem r_Text_isWordByte_25 {J : aJ} {K : aR} {n : Nat} {L : aL} {S : List Value} {M : aM} : am_run (c_Text_isWordByte) k_Text_isWordByte J K (n + 1) 25 L S M = ai_zret (am_run (c_Text_isWordByte) k_Text_isWordByte J K n) K 25 L S M := by rfl
theorem r_Text_isWordByte_26 {J : aJ} {K : aR} {n : Nat} {L : aL} {S : List Value} {M : aM} : am_run (c_Text_isWordByte) k_Text_isWordByte J K (n + 1) 26 L S M = ai_iload 0 27 (am_run (c_Text_isWordByte) k_Text_isWordByte J K n) K 26 L S M := by rfl
theorem r_Text_isWordByte_27 {J : aJ} {K : aR} {n : Nat} {L : aL} {S : List Value} {M : aM} : am_run (c_Text_isWordByte) k_Text_isWordByte J K (n + 1) 27 L S M = ai_switch [(33, 164), (34, 166), (35, 166), (36, 166), (37, 166), (38, 166), (39, 166), (40, 166), (41, 166), (42, 164), (43, 164), (44, 166), (45, 164), (46, 166), (47, 164), (48, 166), (49, 166), (50, 166), (51, 166), (52, 166), (53, 166), (54, 166), (55, 166), (56, 166), (57, 166), (58, 166), (59, 166), (60, 164), (61, 164), (62, 164), (63, 164)] 166 (am_run (c_Text_isWordByte) k_Text_isWordByte J K n) K 27 L S M := by rfl
theorem r_Text_isWordByte_164 {J : aJ} {K : aR} {n : Nat} {L : aL} {S : List Value} {M : aM} : am_run (c_Text_isWordByte) k_Text_isWordByte J K (n + 1) 164 L S M = ai_const 1 165 (am_run (c_Text_isWordByte) k_Text_isWordByte J K n) K 164 L S M := by rfl
theorem r_Text_isWordByte_165 {J : aJ} {K : aR} {n : Nat} {L : aL} {S : List Value} {M : aM} : am_run (c_Text_isWordByte) k_Text_isWordByte J K (n + 1) 165 L S M = ai_zret (am_run (c_Text_isWordByte) k_Text_isWordByte J K n) K 165 L S M := by rfl
theorem r_Text_isWordByte_166 {J : aJ} {K : aR} {n : Nat} {L : aL} {S : List Value} {M : aM} : am_run (c_Text_isWordByte) k_Text_isWordByte J K (n + 1) 166 L S M = ai_const 0 167 (am_run (c_Text_isWordByte) k_Text_isWordByte J K n) K 166 L S M := by rfl
theorem r_Text_isWordByte_167 {J : aJ} {K : aR} {n : Nat} {L : aL} {S : List Value} {M : aM} : am_run (c_Text_isWordByte) k_Text_isWordByte J K (n + 1) 167 L S M = ai_zret (am_run (c_Text_isWordByte) k_Text_isWordByte J K n) K 167 L S M := by rfl
