section
def c_Text_append : List (Nat × aI) := [
  (0, ai_aload 0 1),
  (1, ai_getf 2 1 4),
  (4, ai_iflt 37 7),
  (7, ai_aload 0 8),
  (8, ai_getf 2 1 11),
  (11, ai_const 400 14),
  (14, ai_cmpge 37 17),
  (17, ai_aload 0 18),
  (18, ai_getf 2 0 21),
  (21, ai_aload 0 22),
  (22, ai_getf 2 1 25),
  (25, ai_iload 1 26),
  (26, ai_iast 27),
  (27, ai_aload 0 28),
  (28, ai_dup 29),
  (29, ai_getf 2 1 32),
  (32, ai_const 1 33),
  (33, ai_iadd 34),
  (34, ai_putf 2 1 37),
  (37, ai_vret)]
set_option maxRecDepth 100000 in
set_option maxHeartbeats 4000000 in
theorem tb_Text_append {G : aG} {d : Nat} : am_tab G Y_Text_append d (c_Text_append) := by
  intro K p e s m args below meth c C
  exact ⟨as_aload_n C (pc := 0) (q := 0) (by decide +kernel) rfl rfl,
    as_getf C (pc := 1) (T := T_Text) (N := 2) rfl in_Text (by decide) rfl w_99 (by decide +kernel) rfl,
    as_iflt C (pc := 4) (off := 33) (by decide +kernel) (by decide) rfl,
    as_aload_n C (pc := 7) (q := 0) (by decide +kernel) rfl rfl,
    as_getf C (pc := 8) (T := T_Text) (N := 2) rfl in_Text (by decide) rfl w_99 (by decide +kernel) rfl,
    as_sipush C (pc := 11) (n := 400) (by decide +kernel) (by decide +kernel) rfl,
    as_cmpge C (pc := 14) (off := 23) (by decide +kernel) (by decide) rfl,
    as_aload_n C (pc := 17) (q := 0) (by decide +kernel) rfl rfl,
    as_getf C (pc := 18) (T := T_Text) (N := 2) rfl in_Text (by decide) rfl w_98 (by decide +kernel) rfl,
    as_aload_n C (pc := 21) (q := 0) (by decide +kernel) rfl rfl,
    as_getf C (pc := 22) (T := T_Text) (N := 2) rfl in_Text (by decide) rfl w_99 (by decide +kernel) rfl,
    as_iload_n C (pc := 25) (q := 1) (by decide +kernel) rfl rfl,
    as_iast C (pc := 26) (by decide +kernel) rfl,
    as_aload_n C (pc := 27) (q := 0) (by decide +kernel) rfl rfl,
    as_dup C (pc := 28) (by decide +kernel) rfl,
    as_getf C (pc := 29) (T := T_Text) (N := 2) rfl in_Text (by decide) rfl w_99 (by decide +kernel) rfl,
    as_iconst C (pc := 32) (n := 1) (by decide +kernel) (by decide +kernel) rfl,
    as_iadd C (pc := 33) (by decide +kernel) rfl,
    as_putf C (pc := 34) t_Text (T := T_Text) (N := 2) rfl in_Text tok_Text nm_Text (by decide) rfl rfl (by decide +kernel) w_99 (by decide +kernel) rfl,
    as_vret C (pc := 37) rfl (by decide +kernel), trivial⟩
abbrev k_Text_append : List Nat := []
theorem r_Text_append_0 {J : aJ} {K : aR} {n : Nat} {L : aL} {S : List Value} {M : aM} : am_run (c_Text_append) k_Text_append J K (n + 1) 0 L S M = ai_aload 0 1 (am_run (c_Text_append) k_Text_append J K n) K 0 L S M := by rfl
theorem r_Text_append_1 {J : aJ} {K : aR} {n : Nat} {L : aL} {S : List Value} {M : aM} : am_run (c_Text_append) k_Text_append J K (n + 1) 1 L S M = ai_getf 2 1 4 (am_run (c_Text_append) k_Text_append J K n) K 1 L S M := by rfl
theorem r_Text_append_4 {J : aJ} {K : aR} {n : Nat} {L : aL} {S : List Value} {M : aM} : am_run (c_Text_append) k_Text_append J K (n + 1) 4 L S M = ai_iflt 37 7 (am_run (c_Text_append) k_Text_append J K n) K 4 L S M := by rfl
theorem r_Text_append_7 {J : aJ} {K : aR} {n : Nat} {L : aL} {S : List Value} {M : aM} : am_run (c_Text_append) k_Text_append J K (n + 1) 7 L S M = ai_aload 0 8 (am_run (c_Text_append) k_Text_append J K n) K 7 L S M := by rfl
theorem r_Text_append_8 {J : aJ} {K : aR} {n : Nat} {L : aL} {S : List Value} {M : aM} : am_run (c_Text_append) k_Text_append J K (n + 1) 8 L S M = ai_getf 2 1 11 (am_run (c_Text_append) k_Text_append J K n) K 8 L S M := by rfl
theorem r_Text_append_11 {J : aJ} {K : aR} {n : Nat} {L : aL} {S : List Value} {M : aM} : am_run (c_Text_append) k_Text_append J K (n + 1) 11 L S M = ai_const 400 14 (am_run (c_Text_append) k_Text_append J K n) K 11 L S M := by rfl
theorem r_Text_append_14 {J : aJ} {K : aR} {n : Nat} {L : aL} {S : List Value} {M : aM} : am_run (c_Text_append) k_Text_append J K (n + 1) 14 L S M = ai_cmpge 37 17 (am_run (c_Text_append) k_Text_append J K n) K 14 L S M := by rfl
theorem r_Text_append_17 {J : aJ} {K : aR} {n : Nat} {L : aL} {S : List Value} {M : aM} : am_run (c_Text_append) k_Text_append J K (n + 1) 17 L S M = ai_aload 0 18 (am_run (c_Text_append) k_Text_append J K n) K 17 L S M := by rfl
theorem r_Text_append_18 {J : aJ} {K : aR} {n : Nat} {L : aL} {S : List Value} {M : aM} : am_run (c_Text_append) k_Text_append J K (n + 1) 18 L S M = ai_getf 2 0 21 (am_run (c_Text_append) k_Text_append J K n) K 18 L S M := by rfl
theorem r_Text_append_21 {J : aJ} {K : aR} {n : Nat} {L : aL} {S : List Value} {M : aM} : am_run (c_Text_append) k_Text_append J K (n + 1) 21 L S M = ai_aload 0 22 (am_run (c_Text_append) k_Text_append J K n) K 21 L S M := by rfl
theorem r_Text_append_22 {J : aJ} {K : aR} {n : Nat} {L : aL} {S : List Value} {M : aM} : am_run (c_Text_append) k_Text_append J K (n + 1) 22 L S M = ai_getf 2 1 25 (am_run (c_Text_append) k_Text_append J K n) K 22 L S M := by rfl
theorem r_Text_append_25 {J : aJ} {K : aR} {n : Nat} {L : aL} {S : List Value} {M : aM} : am_run (c_Text_append) k_Text_append J K (n + 1) 25 L S M = ai_iload 1 26 (am_run (c_Text_append) k_Text_append J K n) K 25 L S M := by rfl
theorem r_Text_append_26 {J : aJ} {K : aR} {n : Nat} {L : aL} {S : List Value} {M : aM} : am_run (c_Text_append) k_Text_append J K (n + 1) 26 L S M = ai_iast 27 (am_run (c_Text_append) k_Text_append J K n) K 26 L S M := by rfl
theorem r_Text_append_27 {J : aJ} {K : aR} {n : Nat} {L : aL} {S : List Value} {M : aM} : am_run (c_Text_append) k_Text_append J K (n + 1) 27 L S M = ai_aload 0 28 (am_run (c_Text_append) k_Text_append J K n) K 27 L S M := by rfl
theorem r_Text_append_28 {J : aJ} {K : aR} {n : Nat} {L : aL} {S : List Value} {M : aM} : am_run (c_Text_append) k_Text_append J K (n + 1) 28 L S M = ai_dup 29 (am_run (c_Text_append) k_Text_append J K n) K 28 L S M := by rfl
theorem r_Text_append_29 {J : aJ} {K : aR} {n : Nat} {L : aL} {S : List Value} {M : aM} : am_run (c_Text_append) k_Text_append J K (n + 1) 29 L S M = ai_getf 2 1 32 (am_run (c_Text_append) k_Text_append J K n) K 29 L S M := by rfl
theorem r_Text_append_32 {J : aJ} {K : aR} {n : Nat} {L : aL} {S : List Value} {M : aM} : am_run (c_Text_append) k_Text_append J K (n + 1) 32 L S M = ai_const 1 33 (am_run (c_Text_append) k_Text_append J K n) K 32 L S M := by rfl
theorem r_Text_append_33 {J : aJ} {K : aR} {n : Nat} {L : aL} {S : List Value} {M : aM} : am_run (c_Text_append) k_Text_append J K (n + 1) 33 L S M = ai_iadd 34 (am_run (c_Text_append) k_Text_append J K n) K 33 L S M := by rfl
theorem r_Text_append_34 {J : aJ} {K : aR} {n : Nat} {L : aL} {S : List Value} {M : aM} : am_run (c_Text_append) k_Text_append J K (n + 1) 34 L S M = ai_putf 2 1 37 (am_run (c_Text_append) k_Text_append J K n) K 34 L S M := by rfl
theorem r_Text_append_37 {J : aJ} {K : aR} {n : Nat} {L : aL} {S : List Value} {M : aM} : am_run (c_Text_append) k_Text_append J K (n + 1) 37 L S M = ai_vret (am_run (c_Text_append) k_Text_append J K n) K 37 L S M := by rfl
def c_Text_at : List (Nat × aI) := [
  (0, ai_iload 1 1),
  (1, ai_iflt 28 4),
  (4, ai_iload 1 5),
  (5, ai_aload 0 6),
  (6, ai_getf 2 1 9),
  (9, ai_cmpge 28 12),
  (12, ai_iload 1 13),
  (13, ai_const 400 16),
  (16, ai_cmpge 28 19),
  (19, ai_aload 0 20),
  (20, ai_getf 2 0 23),
  (23, ai_iload 1 24),
  (24, ai_iald 25),
  (25, ai_goto 29),
  (28, ai_const (-1) 29),
  (29, ai_iret)]
set_option maxRecDepth 100000 in
set_option maxHeartbeats 4000000 in
theorem tb_Text_at {G : aG} {d : Nat} : am_tab G Y_Text_at d (c_Text_at) := by
  intro K p e s m args below meth c C
  exact ⟨as_iload_n C (pc := 0) (q := 1) (by decide +kernel) rfl rfl,
    as_iflt C (pc := 1) (off := 27) (by decide +kernel) (by decide) rfl,
    as_iload_n C (pc := 4) (q := 1) (by decide +kernel) rfl rfl,
    as_aload_n C (pc := 5) (q := 0) (by decide +kernel) rfl rfl,
    as_getf C (pc := 6) (T := T_Text) (N := 2) rfl in_Text (by decide) rfl w_99 (by decide +kernel) rfl,
    as_cmpge C (pc := 9) (off := 19) (by decide +kernel) (by decide) rfl,
    as_iload_n C (pc := 12) (q := 1) (by decide +kernel) rfl rfl,
    as_sipush C (pc := 13) (n := 400) (by decide +kernel) (by decide +kernel) rfl,
    as_cmpge C (pc := 16) (off := 12) (by decide +kernel) (by decide) rfl,
    as_aload_n C (pc := 19) (q := 0) (by decide +kernel) rfl rfl,
    as_getf C (pc := 20) (T := T_Text) (N := 2) rfl in_Text (by decide) rfl w_98 (by decide +kernel) rfl,
    as_iload_n C (pc := 23) (q := 1) (by decide +kernel) rfl rfl,
    as_iald C (pc := 24) (by decide +kernel) rfl,
    as_goto C (pc := 25) (off := 4) (by decide +kernel) (by decide),
    as_iconst C (pc := 28) (n := (-1)) (by decide +kernel) (by decide +kernel) rfl,
    as_iret C (pc := 29) rfl (by decide +kernel), trivial⟩
abbrev k_Text_at : List Nat := []
theorem r_Text_at_0 {J : aJ} {K : aR} {n : Nat} {L : aL} {S : List Value} {M : aM} : am_run (c_Text_at) k_Text_at J K (n + 1) 0 L S M = ai_iload 1 1 (am_run (c_Text_at) k_Text_at J K n) K 0 L S M := by rfl
theorem r_Text_at_1 {J : aJ} {K : aR} {n : Nat} {L : aL} {S : List Value} {M : aM} : am_run (c_Text_at) k_Text_at J K (n + 1) 1 L S M = ai_iflt 28 4 (am_run (c_Text_at) k_Text_at J K n) K 1 L S M := by rfl
theorem r_Text_at_4 {J : aJ} {K : aR} {n : Nat} {L : aL} {S : List Value} {M : aM} : am_run (c_Text_at) k_Text_at J K (n + 1) 4 L S M = ai_iload 1 5 (am_run (c_Text_at) k_Text_at J K n) K 4 L S M := by rfl
theorem r_Text_at_5 {J : aJ} {K : aR} {n : Nat} {L : aL} {S : List Value} {M : aM} : am_run (c_Text_at) k_Text_at J K (n + 1) 5 L S M = ai_aload 0 6 (am_run (c_Text_at) k_Text_at J K n) K 5 L S M := by rfl
theorem r_Text_at_6 {J : aJ} {K : aR} {n : Nat} {L : aL} {S : List Value} {M : aM} : am_run (c_Text_at) k_Text_at J K (n + 1) 6 L S M = ai_getf 2 1 9 (am_run (c_Text_at) k_Text_at J K n) K 6 L S M := by rfl
theorem r_Text_at_9 {J : aJ} {K : aR} {n : Nat} {L : aL} {S : List Value} {M : aM} : am_run (c_Text_at) k_Text_at J K (n + 1) 9 L S M = ai_cmpge 28 12 (am_run (c_Text_at) k_Text_at J K n) K 9 L S M := by rfl
theorem r_Text_at_12 {J : aJ} {K : aR} {n : Nat} {L : aL} {S : List Value} {M : aM} : am_run (c_Text_at) k_Text_at J K (n + 1) 12 L S M = ai_iload 1 13 (am_run (c_Text_at) k_Text_at J K n) K 12 L S M := by rfl
theorem r_Text_at_13 {J : aJ} {K : aR} {n : Nat} {L : aL} {S : List Value} {M : aM} : am_run (c_Text_at) k_Text_at J K (n + 1) 13 L S M = ai_const 400 16 (am_run (c_Text_at) k_Text_at J K n) K 13 L S M := by rfl
theorem r_Text_at_16 {J : aJ} {K : aR} {n : Nat} {L : aL} {S : List Value} {M : aM} : am_run (c_Text_at) k_Text_at J K (n + 1) 16 L S M = ai_cmpge 28 19 (am_run (c_Text_at) k_Text_at J K n) K 16 L S M := by rfl
theorem r_Text_at_19 {J : aJ} {K : aR} {n : Nat} {L : aL} {S : List Value} {M : aM} : am_run (c_Text_at) k_Text_at J K (n + 1) 19 L S M = ai_aload 0 20 (am_run (c_Text_at) k_Text_at J K n) K 19 L S M := by rfl
theorem r_Text_at_20 {J : aJ} {K : aR} {n : Nat} {L : aL} {S : List Value} {M : aM} : am_run (c_Text_at) k_Text_at J K (n + 1) 20 L S M = ai_getf 2 0 23 (am_run (c_Text_at) k_Text_at J K n) K 20 L S M := by rfl
theorem r_Text_at_23 {J : aJ} {K : aR} {n : Nat} {L : aL} {S : List Value} {M : aM} : am_run (c_Text_at) k_Text_at J K (n + 1) 23 L S M = ai_iload 1 24 (am_run (c_Text_at) k_Text_at J K n) K 23 L S M := by rfl
theorem r_Text_at_24 {J : aJ} {K : aR} {n : Nat} {L : aL} {S : List Value} {M : aM} : am_run (c_Text_at) k_Text_at J K (n + 1) 24 L S M = ai_iald 25 (am_run (c_Text_at) k_Text_at J K n) K 24 L S M := by rfl
theorem r_Text_at_25 {J : aJ} {K : aR} {n : Nat} {L : aL} {S : List Value} {M : aM} : am_run (c_Text_at) k_Text_at J K (n + 1) 25 L S M = ai_goto 29 (am_run (c_Text_at) k_Text_at J K n) K 25 L S M := by rfl
theorem r_Text_at_28 {J : aJ} {K : aR} {n : Nat} {L : aL} {S : List Value} {M : aM} : am_run (c_Text_at) k_Text_at J K (n + 1) 28 L S M = ai_const (-1) 29 (am_run (c_Text_at) k_Text_at J K n) K 28 L S M := by rfl
theorem r_Text_at_29 {J : aJ} {K : aR} {n : Nat} {L : aL} {S : List Value} {M : aM} : am_run (c_Text_at) k_Text_at J K (n + 1) 29 L S M = ai_iret (am_run (c_Text_at) k_Text_at J K n) K 29 L S M := by rfl
def c_Text_skipBlanks (s_Text_at : aS) : List (Nat × aI) := [
  (0, ai_const 0 1),
  (1, ai_istore 2 2),
  (2, ai_iload 1 3),
  (3, ai_istore 3 4),
  (4, ai_iload 3 5),
  (5, ai_aload 0 6),
  (6, ai_getf 2 1 9),
  (9, ai_cmpge 69 12),
  (12, ai_aload 0 13),
  (13, ai_iload 3 14),
  (14, ai_callv2 2 s_Text_at 17),
  (17, ai_istore 4 19),
  (19, ai_iload 4 21),
  (21, ai_const 59 23),
  (23, ai_cmpeq 37 26),
  (26, ai_iload 2 27),
  (27, ai_ifeq 41 30),
  (30, ai_iload 4 32),
  (32, ai_const 10 34),
  (34, ai_cmpeq 41 37),
  (37, ai_const 1 38),
  (38, ai_goto 42),
  (41, ai_const 0 42),
  (42, ai_istore 2 43),
  (43, ai_iload 2 44),
  (44, ai_ifne 63 47),
  (47, ai_iload 4 49),
  (49, ai_const 10 51),
  (51, ai_cmpeq 63 54),
  (54, ai_iload 4 56),
  (56, ai_const 32 58),
  (58, ai_cmpeq 63 61),
  (61, ai_iload 3 62),
  (62, ai_iret),
  (63, ai_iinc 3 1 66),
  (66, ai_goto 4),
  (69, ai_iload 3 70),
  (70, ai_iret)]
set_option maxRecDepth 100000 in
set_option maxHeartbeats 4000000 in
theorem tb_Text_skipBlanks {G : aG} {d : Nat} {s_Text_at : aS} {d_Text_at : Nat} (h_Text_at : am_Sp G Y_Text_at d_Text_at s_Text_at) (l_Text_at : d_Text_at < d) : am_tab G Y_Text_skipBlanks d (c_Text_skipBlanks s_Text_at) := by
  intro K p e s m args below meth c C
  exact ⟨as_iconst C (pc := 0) (n := 0) (by decide +kernel) (by decide +kernel) rfl,
    as_istore_n C (pc := 1) (q := 2) (by decide +kernel) rfl (by decide) rfl,
    as_iload_n C (pc := 2) (q := 1) (by decide +kernel) rfl rfl,
    as_istore_n C (pc := 3) (q := 3) (by decide +kernel) rfl (by decide) rfl,
    as_iload_n C (pc := 4) (q := 3) (by decide +kernel) rfl rfl,
    as_aload_n C (pc := 5) (q := 0) (by decide +kernel) rfl rfl,
    as_getf C (pc := 6) (T := T_Text) (N := 2) rfl in_Text (by decide) rfl w_99 (by decide +kernel) rfl,
    as_cmpge C (pc := 9) (off := 60) (by decide +kernel) (by decide) rfl,
    as_aload_n C (pc := 12) (q := 0) (by decide +kernel) rfl rfl,
    as_iload_n C (pc := 13) (q := 3) (by decide +kernel) rfl rfl,
    as_callv2 C (pc := 14) h_Text_at (T := T_Text) (N := 2) rfl w_270 w_71 w_269 w_5 w_267 hy_Text_at (am_rm_of l_Text_at (by decide)) (by decide +kernel) rfl,
    as_istore C (pc := 17) (k := 4) (by decide +kernel) (by decide) rfl,
    as_iload C (pc := 19) (k := 4) (by decide +kernel) rfl,
    as_bipush C (pc := 21) (n := 59) (by decide +kernel) (by decide +kernel) rfl,
    as_cmpeq C (pc := 23) (off := 14) (by decide +kernel) (by decide) rfl,
    as_iload_n C (pc := 26) (q := 2) (by decide +kernel) rfl rfl,
    as_ifeq C (pc := 27) (off := 14) (by decide +kernel) (by decide) rfl,
    as_iload C (pc := 30) (k := 4) (by decide +kernel) rfl,
    as_bipush C (pc := 32) (n := 10) (by decide +kernel) (by decide +kernel) rfl,
    as_cmpeq C (pc := 34) (off := 7) (by decide +kernel) (by decide) rfl,
    as_iconst C (pc := 37) (n := 1) (by decide +kernel) (by decide +kernel) rfl,
    as_goto C (pc := 38) (off := 4) (by decide +kernel) (by decide),
    as_iconst C (pc := 41) (n := 0) (by decide +kernel) (by decide +kernel) rfl,
    as_istore_n C (pc := 42) (q := 2) (by decide +kernel) rfl (by decide) rfl,
    as_iload_n C (pc := 43) (q := 2) (by decide +kernel) rfl rfl,
    as_ifne C (pc := 44) (off := 19) (by decide +kernel) (by decide) rfl,
    as_iload C (pc := 47) (k := 4) (by decide +kernel) rfl,
    as_bipush C (pc := 49) (n := 10) (by decide +kernel) (by decide +kernel) rfl,
    as_cmpeq C (pc := 51) (off := 12) (by decide +kernel) (by decide) rfl,
    as_iload C (pc := 54) (k := 4) (by decide +kernel) rfl,
    as_bipush C (pc := 56) (n := 32) (by decide +kernel) (by decide +kernel) rfl,
    as_cmpeq C (pc := 58) (off := 5) (by decide +kernel) (by decide) rfl,
    as_iload_n C (pc := 61) (q := 3) (by decide +kernel) rfl rfl,
    as_iret C (pc := 62) rfl (by decide +kernel),
    as_iinc C (pc := 63) (k := 3) (n := 1) (by decide +kernel) (by decide +kernel) (by decide) rfl,
    as_goto C (pc := 66) (off := (-62)) (by decide +kernel) (by decide),
    as_iload_n C (pc := 69) (q := 3) (by decide +kernel) rfl rfl,
    as_iret C (pc := 70) rfl (by decide +kernel), trivial⟩
abbrev k_Text_skipBlanks : List Nat := [4]
theorem q_Text_skipBlanks_4 {s_Text_at : aS} : am_at (c_Text_skipBlanks s_Text_at) 4 = ai_iload 3 5 := by rfl
theorem r_Text_skipBlanks_0 {s_Text_at : aS} {J : aJ} {K : aR} {n : Nat} {L : aL} {S : List Value} {M : aM} : am_run (c_Text_skipBlanks s_Text_at) k_Text_skipBlanks J K (n + 1) 0 L S M = ai_const 0 1 (am_run (c_Text_skipBlanks s_Text_at) k_Text_skipBlanks J K n) K 0 L S M := by rfl
theorem r_Text_skipBlanks_1 {s_Text_at : aS} {J : aJ} {K : aR} {n : Nat} {L : aL} {S : List Value} {M : aM} : am_run (c_Text_skipBlanks s_Text_at) k_Text_skipBlanks J K (n + 1) 1 L S M = ai_istore 2 2 (am_run (c_Text_skipBlanks s_Text_at) k_Text_skipBlanks J K n) K 1 L S M := by rfl
theorem r_Text_skipBlanks_2 {s_Text_at : aS} {J : aJ} {K : aR} {n : Nat} {L : aL} {S : List Value} {M : aM} : am_run (c_Text_skipBlanks s_Text_at) k_Text_skipBlanks J K (n + 1) 2 L S M = ai_iload 1 3 (am_run (c_Text_skipBlanks s_Text_at) k_Text_skipBlanks J K n) K 2 L S M := by rfl
theorem r_Text_skipBlanks_3 {s_Text_at : aS} {J : aJ} {K : aR} {n : Nat} {L : aL} {S : List Value} {M : aM} : am_run (c_Text_skipBlanks s_Text_at) k_Text_skipBlanks J K (n + 1) 3 L S M = ai_istore 3 4 (am_run (c_Text_skipBlanks s_Text_at) k_Text_skipBlanks J K n) K 3 L S M := by rfl
theorem r_Text_skipBlanks_4 {s_Text_at : aS} {J : aJ} {K : aR} {n : Nat} {L : aL} {S : List Value} {M : aM} : am_run (c_Text_skipBlanks s_Text_at) k_Text_skipBlanks J K (n + 1) 4 L S M = J 4 L S M := by rfl
theorem r_Text_skipBlanks_5 {s_Text_at : aS} {J : aJ} {K : aR} {n : Nat} {L : aL} {S : List Value} {M : aM} : am_run (c_Text_skipBlanks s_Text_at) k_Text_skipBlanks J K (n + 1) 5 L S M = ai_aload 0 6 (am_run (c_Text_skipBlanks s_Text_at) k_Text_skipBlanks J K n) K 5 L S M := by rfl
theorem r_Text_skipBlanks_6 {s_Text_at : aS} {J : aJ} {K : aR} {n : Nat} {L : aL} {S : List Value} {M : aM} : am_run (c_Text_skipBlanks s_Text_at) k_Text_skipBlanks J K (n + 1) 6 L S M = ai_getf 2 1 9 (am_run (c_Text_skipBlanks s_Text_at) k_Text_skipBlanks J K n) K 6 L S M := by rfl
theorem r_Text_skipBlanks_9 {s_Text_at : aS} {J : aJ} {K : aR} {n : Nat} {L : aL} {S : List Value} {M : aM} : am_run (c_Text_skipBlanks s_Text_at) k_Text_skipBlanks J K (n + 1) 9 L S M = ai_cmpge 69 12 (am_run (c_Text_skipBlanks s_Text_at) k_Text_skipBlanks J K n) K 9 L S M := by rfl
theorem r_Text_skipBlanks_12 {s_Text_at : aS} {J : aJ} {K : aR} {n : Nat} {L : aL} {S : List Value} {M : aM} : am_run (c_Text_skipBlanks s_Text_at) k_Text_skipBlanks J K (n + 1) 12 L S M = ai_aload 0 13 (am_run (c_Text_skipBlanks s_Text_at) k_Text_skipBlanks J K n) K 12 L S M := by rfl
theorem r_Text_skipBlanks_13 {s_Text_at : aS} {J : aJ} {K : aR} {n : Nat} {L : aL} {S : List Value} {M : aM} : am_run (c_Text_skipBlanks s_Text_at) k_Text_skipBlanks J K (n + 1) 13 L S M = ai_iload 3 14 (am_run (c_Text_skipBlanks s_Text_at) k_Text_skipBlanks J K n) K 13 L S M := by rfl
theorem r_Text_skipBlanks_14 {s_Text_at : aS} {J : aJ} {K : aR} {n : Nat} {L : aL} {S : List Value} {M : aM} : am_run (c_Text_skipBlanks s_Text_at) k_Text_skipBlanks J K (n + 1) 14 L S M = ai_callv2 2 s_Text_at 17 (am_run (c_Text_skipBlanks s_Text_at) k_Text_skipBlanks J K n) K 14 L S M := by rfl
theorem r_Text_skipBlanks_17 {s_Text_at : aS} {J : aJ} {K : aR} {n : Nat} {L : aL} {S : List Value} {M : aM} : am_run (c_Text_skipBlanks s_Text_at) k_Text_skipBlanks J K (n + 1) 17 L S M = ai_istore 4 19 (am_run (c_Text_skipBlanks s_Text_at) k_Text_skipBlanks J K n) K 17 L S M := by rfl
theorem r_Text_skipBlanks_19 {s_Text_at : aS} {J : aJ} {K : aR} {n : Nat} {L : aL} {S : List Value} {M : aM} : am_run (c_Text_skipBlanks s_Text_at) k_Text_skipBlanks J K (n + 1) 19 L S M = ai_iload 4 21 (am_run (c_Text_skipBlanks s_Text_at) k_Text_skipBlanks J K n) K 19 L S M := by rfl
theorem r_Text_skipBlanks_21 {s_Text_at : aS} {J : aJ} {K : aR} {n : Nat} {L : aL} {S : List Value} {M : aM} : am_run (c_Text_skipBlanks s_Text_at) k_Text_skipBlanks J K (n + 1) 21 L S M = ai_const 59 23 (am_run (c_Text_skipBlanks s_Text_at) k_Text_skipBlanks J K n) K 21 L S M := by rfl
theorem r_Text_skipBlanks_23 {s_Text_at : aS} {J : aJ} {K : aR} {n : Nat} {L : aL} {S : List Value} {M : aM} : am_run (c_Text_skipBlanks s_Text_at) k_Text_skipBlanks J K (n + 1) 23 L S M = ai_cmpeq 37 26 (am_run (c_Text_skipBlanks s_Text_at) k_Text_skipBlanks J K n) K 23 L S M := by rfl
theorem r_Text_skipBlanks_26 {s_Text_at : aS} {J : aJ} {K : aR} {n : Nat} {L : aL} {S : List Value} {M : aM} : am_run (c_Text_skipBlanks s_Text_at) k_Text_skipBlanks J K (n + 1) 26 L S M = ai_iload 2 27 (am_run (c_Text_skipBlanks s_Text_at) k_Text_skipBlanks J K n) K 26 L S M := by rfl
theorem r_Text_skipBlanks_27 {s_Text_at : aS} {J : aJ} {K : aR} {n : Nat} {L : aL} {S : List Value} {M : aM} : am_run (c_Text_skipBlanks s_Text_at) k_Text_skipBlanks J K (n + 1) 27 L S M = ai_ifeq 41 30 (am_run (c_Text_skipBlanks s_Text_at) k_Text_skipBlanks J K n) K 27 L S M := by rfl
theorem r_Text_skipBlanks_30 {s_Text_at : aS} {J : aJ} {K : aR} {n : Nat} {L : aL} {S : List Value} {M : aM} : am_run (c_Text_skipBlanks s_Text_at) k_Text_skipBlanks J K (n + 1) 30 L S M = ai_iload 4 32 (am_run (c_Text_skipBlanks s_Text_at) k_Text_skipBlanks J K n) K 30 L S M := by rfl
theorem r_Text_skipBlanks_32 {s_Text_at : aS} {J : aJ} {K : aR} {n : Nat} {L : aL} {S : List Value} {M : aM} : am_run (c_Text_skipBlanks s_Text_at) k_Text_skipBlanks J K (n + 1) 32 L S M = ai_const 10 34 (am_run (c_Text_skipBlanks s_Text_at) k_Text_skipBlanks J K n) K 32 L S M := by rfl
theorem r_Text_skipBlanks_34 {s_Text_at : aS} {J : aJ} {K : aR} {n : Nat} {L : aL} {S : List Value} {M : aM} : am_run (c_Text_skipBlanks s_Text_at) k_Text_skipBlanks J K (n + 1) 34 L S M = ai_cmpeq 41 37 (am_run (c_Text_skipBlanks s_Text_at) k_Text_skipBlanks J K n) K 34 L S M := by rfl
theorem r_Text_skipBlanks_37 {s_Text_at : aS} {J : aJ} {K : aR} {n : Nat} {L : aL} {S : List Value} {M : aM} : am_run (c_Text_skipBlanks s_Text_at) k_Text_skipBlanks J K (n + 1) 37 L S M = ai_const 1 38 (am_run (c_Text_skipBlanks s_Text_at) k_Text_skipBlanks J K n) K 37 L S M := by rfl
theorem r_Text_skipBlanks_38 {s_Text_at : aS} {J : aJ} {K : aR} {n : Nat} {L : aL} {S : List Value} {M : aM} : am_run (c_Text_skipBlanks s_Text_at) k_Text_skipBlanks J K (n + 1) 38 L S M = ai_goto 42 (am_run (c_Text_skipBlanks s_Text_at) k_Text_skipBlanks J K n) K 38 L S M := by rfl
theorem r_Text_skipBlanks_41 {s_Text_at : aS} {J : aJ} {K : aR} {n : Nat} {L : aL} {S : List Value} {M : aM} : am_run (c_Text_skipBlanks s_Text_at) k_Text_skipBlanks J K (n + 1) 41 L S M = ai_const 0 42 (am_run (c_Text_skipBlanks s_Text_at) k_Text_skipBlanks J K n) K 41 L S M := by rfl
theorem r_Text_skipBlanks_42 {s_Text_at : aS} {J : aJ} {K : aR} {n : Nat} {L : aL} {S : List Value} {M : aM} : am_run (c_Text_skipBlanks s_Text_at) k_Text_skipBlanks J K (n + 1) 42 L S M = ai_istore 2 43 (am_run (c_Text_skipBlanks s_Text_at) k_Text_skipBlanks J K n) K 42 L S M := by rfl
theorem r_Text_skipBlanks_43 {s_Text_at : aS} {J : aJ} {K : aR} {n : Nat} {L : aL} {S : List Value} {M : aM} : am_run (c_Text_skipBlanks s_Text_at) k_Text_skipBlanks J K (n + 1) 43 L S M = ai_iload 2 44 (am_run (c_Text_skipBlanks s_Text_at) k_Text_skipBlanks J K n) K 43 L S M := by rfl
theorem r_Text_skipBlanks_44 {s_Text_at : aS} {J : aJ} {K : aR} {n : Nat} {L : aL} {S : List Value} {M : aM} : am_run (c_Text_skipBlanks s_Text_at) k_Text_skipBlanks J K (n + 1) 44 L S M = ai_ifne 63 47 (am_run (c_Text_skipBlanks s_Text_at) k_Text_skipBlanks J K n) K 44 L S M := by rfl
theorem r_Text_skipBlanks_47 {s_Text_at : aS} {J : aJ} {K : aR} {n : Nat} {L : aL} {S : List Value} {M : aM} : am_run (c_Text_skipBlanks s_Text_at) k_Text_skipBlanks J K (n + 1) 47 L S M = ai_iload 4 49 (am_run (c_Text_skipBlanks s_Text_at) k_Text_skipBlanks J K n) K 47 L S M := by rfl
theorem r_Text_skipBlanks_49 {s_Text_at : aS} {J : aJ} {K : aR} {n : Nat} {L : aL} {S : List Value} {M : aM} : am_run (c_Text_skipBlanks s_Text_at) k_Text_skipBlanks J K (n + 1) 49 L S M = ai_const 10 51 (am_run (c_Text_skipBlanks s_Text_at) k_Text_skipBlanks J K n) K 49 L S M := by rfl
theorem r_Text_skipBlanks_51 {s_Text_at : aS} {J : aJ} {K : aR} {n : Nat} {L : aL} {S : List Value} {M : aM} : am_run (c_Text_skipBlanks s_Text_at) k_Text_skipBlanks J K (n + 1) 51 L S M = ai_cmpeq 63 54 (am_run (c_Text_skipBlanks s_Text_at) k_Text_skipBlanks J K n) K 51 L S M := by rfl
theorem r_Text_skipBlanks_54 {s_Text_at : aS} {J : aJ} {K : aR} {n : Nat} {L : aL} {S : List Value} {M : aM} : am_run (c_Text_skipBlanks s_Text_at) k_Text_skipBlanks J K (n + 1) 54 L S M = ai_iload 4 56 (am_run (c_Text_skipBlanks s_Text_at) k_Text_skipBlanks J K n) K 54 L S M := by rfl
theorem r_Text_skipBlanks_56 {s_Text_at : aS} {J : aJ} {K : aR} {n : Nat} {L : aL} {S : List Value} {M : aM} : am_run (c_Text_skipBlanks s_Text_at) k_Text_skipBlanks J K (n + 1) 56 L S M = ai_const 32 58 (am_run (c_Text_skipBlanks s_Text_at) k_Text_skipBlanks J K n) K 56 L S M := by rfl
theorem r_Text_skipBlanks_58 {s_Text_at : aS} {J : aJ} {K : aR} {n : Nat} {L : aL} {S : List Value} {M : aM} : am_run (c_Text_skipBlanks s_Text_at) k_Text_skipBlanks J K (n + 1) 58 L S M = ai_cmpeq 63 61 (am_run (c_Text_skipBlanks s_Text_at) k_Text_skipBlanks J K n) K 58 L S M := by rfl
theorem r_Text_skipBlanks_61 {s_Text_at : aS} {J : aJ} {K : aR} {n : Nat} {L : aL} {S : List Value} {M : aM} : am_run (c_Text_skipBlanks s_Text_at) k_Text_skipBlanks J K (n + 1) 61 L S M = ai_iload 3 62 (am_run (c_Text_skipBlanks s_Text_at) k_Text_skipBlanks J K n) K 61 L S M := by rfl
theorem r_Text_skipBlanks_62 {s_Text_at : aS} {J : aJ} {K : aR} {n : Nat} {L : aL} {S : List Value} {M : aM} : am_run (c_Text_skipBlanks s_Text_at) k_Text_skipBlanks J K (n + 1) 62 L S M = ai_iret (am_run (c_Text_skipBlanks s_Text_at) k_Text_skipBlanks J K n) K 62 L S M := by rfl
theorem r_Text_skipBlanks_63 {s_Text_at : aS} {J : aJ} {K : aR} {n : Nat} {L : aL} {S : List Value} {M : aM} : am_run (c_Text_skipBlanks s_Text_at) k_Text_skipBlanks J K (n + 1) 63 L S M = ai_iinc 3 1 66 (am_run (c_Text_skipBlanks s_Text_at) k_Text_skipBlanks J K n) K 63 L S M := by rfl
theorem r_Text_skipBlanks_66 {s_Text_at : aS} {J : aJ} {K : aR} {n : Nat} {L : aL} {S : List Value} {M : aM} : am_run (c_Text_skipBlanks s_Text_at) k_Text_skipBlanks J K (n + 1) 66 L S M = ai_goto 4 (am_run (c_Text_skipBlanks s_Text_at) k_Text_skipBlanks J K n) K 66 L S M := by rfl
theorem r_Text_skipBlanks_69 {s_Text_at : aS} {J : aJ} {K : aR} {n : Nat} {L : aL} {S : List Value} {M : aM} : am_run (c_Text_skipBlanks s_Text_at) k_Text_skipBlanks J K (n + 1) 69 L S M = ai_iload 3 70 (am_run (c_Text_skipBlanks s_Text_at) k_Text_skipBlanks J K n) K 69 L S M := by rfl
theorem r_Text_skipBlanks_70 {s_Text_at : aS} {J : aJ} {K : aR} {n : Nat} {L : aL} {S : List Value} {M : aM} : am_run (c_Text_skipBlanks s_Text_at) k_Text_skipBlanks J K (n + 1) 70 L S M = ai_iret (am_run (c_Text_skipBlanks s_Text_at) k_Text_skipBlanks J K n) K 70 L S M := by rfl
def c_Text_sortAt (s_Text_at : aS) (s_Text_isDigit : aS) (s_Text_isWordByte : aS) : List (Nat × aI) := [
  (0, ai_aload 0 1),
  (1, ai_iload 1 2),
  (2, ai_callv2 2 s_Text_at 5),
  (5, ai_istore 2 6),
  (6, ai_iload 2 7),
  (7, ai_switch [((-1), 64), (34, 79), (39, 73), (40, 67), (41, 70), (46, 76)] 81),
  (64, ai_const 10 66),
  (66, ai_iret),
  (67, ai_const 6 69),
  (69, ai_iret),
  (70, ai_const 7 72),
  (72, ai_iret),
  (73, ai_const 8 75),
  (75, ai_iret),
  (76, ai_const 9 78),
  (78, ai_iret),
  (79, ai_const 3 80),
  (80, ai_iret),
  (81, ai_iload 2 82),
  (82, ai_const 45 84),
  (84, ai_cmpeq 94 87),
  (87, ai_iload 2 88),
  (88, ai_calls1 s_Text_isDigit 91),
  (91, ai_ifeq 96 94),
  (94, ai_const 1 95),
  (95, ai_iret),
  (96, ai_iload 2 97),
  (97, ai_calls1 s_Text_isWordByte 100),
  (100, ai_ifeq 107 103),
  (103, ai_const 2 104),
  (104, ai_goto 109),
  (107, ai_const 11 109),
  (109, ai_iret)]
set_option maxRecDepth 100000 in
set_option maxHeartbeats 4000000 in
theorem tb_Text_sortAt {G : aG} {d : Nat} {s_Text_at : aS} {d_Text_at : Nat} (h_Text_at : am_Sp G Y_Text_at d_Text_at s_Text_at) (l_Text_at : d_Text_at < d) {s_Text_isDigit : aS} {d_Text_isDigit : Nat} (h_Text_isDigit : am_Sp G Y_Text_isDigit d_Text_isDigit s_Text_isDigit) (l_Text_isDigit : d_Text_isDigit < d) {s_Text_isWordByte : aS} {d_Text_isWordByte : Nat} (h_Text_isWordByte : am_Sp G Y_Text_isWordByte d_Text_isWordByte s_Text_isWordByte) (l_Text_isWordByte : d_Text_isWordByte < d) : am_tab G Y_Text_sortAt d (c_Text_sortAt s_Text_at s_Text_isDigit s_Text_isWordByte) := by
  intro K p e s m args below meth c C
  exact ⟨as_aload_n C (pc := 0) (q := 0) (by decide +kernel) rfl rfl,
    as_iload_n C (pc := 1) (q := 1) (by decide +kernel) rfl rfl,
    as_callv2 C (pc := 2) h_Text_at (T := T_Text) (N := 2) rfl w_270 w_71 w_269 w_5 w_267 hy_Text_at (am_rm_of l_Text_at (by decide)) (by decide +kernel) rfl,
    as_istore_n C (pc := 5) (q := 2) (by decide +kernel) rfl (by decide) rfl,
    as_iload_n C (pc := 6) (q := 2) (by decide +kernel) rfl rfl,
    as_lookup C (pc := 7) (dflt := 74) (ps := #[((-1), 57), (34, 72), (39, 66), (40, 60), (41, 63), (46, 69)]) (len := 57) (by decide +kernel) (by decide +kernel) (by decide +kernel) (by decide),
    as_bipush C (pc := 64) (n := 10) (by decide +kernel) (by decide +kernel) rfl,
    as_iret C (pc := 66) rfl (by decide +kernel),
    as_bipush C (pc := 67) (n := 6) (by decide +kernel) (by decide +kernel) rfl,
    as_iret C (pc := 69) rfl (by decide +kernel),
    as_bipush C (pc := 70) (n := 7) (by decide +kernel) (by decide +kernel) rfl,
    as_iret C (pc := 72) rfl (by decide +kernel),
    as_bipush C (pc := 73) (n := 8) (by decide +kernel) (by decide +kernel) rfl,
    as_iret C (pc := 75) rfl (by decide +kernel),
    as_bipush C (pc := 76) (n := 9) (by decide +kernel) (by decide +kernel) rfl,
    as_iret C (pc := 78) rfl (by decide +kernel),
    as_iconst C (pc := 79) (n := 3) (by decide +kernel) (by decide +kernel) rfl,
    as_iret C (pc := 80) rfl (by decide +kernel),
    as_iload_n C (pc := 81) (q := 2) (by decide +kernel) rfl rfl,
    as_bipush C (pc := 82) (n := 45) (by decide +kernel) (by decide +kernel) rfl,
    as_cmpeq C (pc := 84) (off := 10) (by decide +kernel) (by decide) rfl,
    as_iload_n C (pc := 87) (q := 2) (by decide +kernel) rfl rfl,
    as_calls1 C (pc := 88) h_Text_isDigit w_277 w_71 w_276 w_275 hy_Text_isDigit (am_rm_of l_Text_isDigit (by decide)) (by decide +kernel) rfl,
    as_ifeq C (pc := 91) (off := 5) (by decide +kernel) (by decide) rfl,
    as_iconst C (pc := 94) (n := 1) (by decide +kernel) (by decide +kernel) rfl,
    as_iret C (pc := 95) rfl (by decide +kernel),
    as_iload_n C (pc := 96) (q := 2) (by decide +kernel) rfl rfl,
    as_calls1 C (pc := 97) h_Text_isWordByte w_280 w_71 w_279 w_278 hy_Text_isWordByte (am_rm_of l_Text_isWordByte (by decide)) (by decide +kernel) rfl,
    as_ifeq C (pc := 100) (off := 7) (by decide +kernel) (by decide) rfl,
    as_iconst C (pc := 103) (n := 2) (by decide +kernel) (by decide +kernel) rfl,
    as_goto C (pc := 104) (off := 5) (by decide +kernel) (by decide),
    as_bipush C (pc := 107) (n := 11) (by decide +kernel) (by decide +kernel) rfl,
    as_iret C (pc := 109) rfl (by decide +kernel), trivial⟩
abbrev k_Text_sortAt : List Nat := []
theorem r_Text_sortAt_0 {s_Text_at : aS} {s_Text_isDigit : aS} {s_Text_isWordByte : aS} {J : aJ} {K : aR} {n : Nat} {L : aL} {S : List Value} {M : aM} : am_run (c_Text_sortAt s_Text_at s_Text_isDigit s_Text_isWordByte) k_Text_sortAt J K (n + 1) 0 L S M = ai_aload 0 1 (am_run (c_Text_sortAt s_Text_at s_Text_isDigit s_Text_isWordByte) k_Text_sortAt J K n) K 0 L S M := by rfl
theorem r_Text_sortAt_1 {s_Text_at : aS} {s_Text_isDigit : aS} {s_Text_isWordByte : aS} {J : aJ} {K : aR} {n : Nat} {L : aL} {S : List Value} {M : aM} : am_run (c_Text_sortAt s_Text_at s_Text_isDigit s_Text_isWordByte) k_Text_sortAt J K (n + 1) 1 L S M = ai_iload 1 2 (am_run (c_Text_sortAt s_Text_at s_Text_isDigit s_Text_isWordByte) k_Text_sortAt J K n) K 1 L S M := by rfl
theorem r_Text_sortAt_2 {s_Text_at : aS} {s_Text_isDigit : aS} {s_Text_isWordByte : aS} {J : aJ} {K : aR} {n : Nat} {L : aL} {S : List Value} {M : aM} : am_run (c_Text_sortAt s_Text_at s_Text_isDigit s_Text_isWordByte) k_Text_sortAt J K (n + 1) 2 L S M = ai_callv2 2 s_Text_at 5 (am_run (c_Text_sortAt s_Text_at s_Text_isDigit s_Text_isWordByte) k_Text_sortAt J K n) K 2 L S M := by rfl
theorem r_Text_sortAt_5 {s_Text_at : aS} {s_Text_isDigit : aS} {s_Text_isWordByte : aS} {J : aJ} {K : aR} {n : Nat} {L : aL} {S : List Value} {M : aM} : am_run (c_Text_sortAt s_Text_at s_Text_isDigit s_Text_isWordByte) k_Text_sortAt J K (n + 1) 5 L S M = ai_istore 2 6 (am_run (c_Text_sortAt s_Text_at s_Text_isDigit s_Text_isWordByte) k_Text_sortAt J K n) K 5 L S M := by rfl
theorem r_Text_sortAt_6 {s_Text_at : aS} {s_Text_isDigit : aS} {s_Text_isWordByte : aS} {J : aJ} {K : aR} {n : Nat} {L : aL} {S : List Value} {M : aM} : am_run (c_Text_sortAt s_Text_at s_Text_isDigit s_Text_isWordByte) k_Text_sortAt J K (n + 1) 6 L S M = ai_iload 2 7 (am_run (c_Text_sortAt s_Text_at s_Text_isDigit s_Text_isWordByte) k_Text_sortAt J K n) K 6 L S M := by rfl
theorem r_Text_sortAt_7 {s_Text_at : aS} {s_Text_isDigit : aS} {s_Text_isWordByte : aS} {J : aJ} {K : aR} {n : Nat} {L : aL} {S : List Value} {M : aM} : am_run (c_Text_sortAt s_Text_at s_Text_isDigit s_Text_isWordByte) k_Text_sortAt J K (n + 1) 7 L S M = ai_switch [((-1), 64), (34, 79), (39, 73), (40, 67), (41, 70), (46, 76)] 81 (am_run (c_Text_sortAt s_Text_at s_Text_isDigit s_Text_isWordByte) k_Text_sortAt J K n) K 7 L S M := by rfl
theorem r_Text_sortAt_64 {s_Text_at : aS} {s_Text_isDigit : aS} {s_Text_isWordByte : aS} {J : aJ} {K : aR} {n : Nat} {L : aL} {S : List Value} {M : aM} : am_run (c_Text_sortAt s_Text_at s_Text_isDigit s_Text_isWordByte) k_Text_sortAt J K (n + 1) 64 L S M = ai_const 10 66 (am_run (c_Text_sortAt s_Text_at s_Text_isDigit s_Text_isWordByte) k_Text_sortAt J K n) K 64 L S M := by rfl
theorem r_Text_sortAt_66 {s_Text_at : aS} {s_Text_isDigit : aS} {s_Text_isWordByte : aS} {J : aJ} {K : aR} {n : Nat} {L : aL} {S : List Value} {M : aM} : am_run (c_Text_sortAt s_Text_at s_Text_isDigit s_Text_isWordByte) k_Text_sortAt J K (n + 1) 66 L S M = ai_iret (am_run (c_Text_sortAt s_Text_at s_Text_isDigit s_Text_isWordByte) k_Text_sortAt J K n) K 66 L S M := by rfl
theorem r_Text_sortAt_67 {s_Text_at : aS} {s_Text_isDigit : aS} {s_Text_isWordByte : aS} {J : aJ} {K : aR} {n : Nat} {L : aL} {S : List Value} {M : aM} : am_run (c_Text_sortAt s_Text_at s_Text_isDigit s_Text_isWordByte) k_Text_sortAt J K (n + 1) 67 L S M = ai_const 6 69 (am_run (c_Text_sortAt s_Text_at s_Text_isDigit s_Text_isWordByte) k_Text_sortAt J K n) K 67 L S M := by rfl
theorem r_Text_sortAt_69 {s_Text_at : aS} {s_Text_isDigit : aS} {s_Text_isWordByte : aS} {J : aJ} {K : aR} {n : Nat} {L : aL} {S : List Value} {M : aM} : am_run (c_Text_sortAt s_Text_at s_Text_isDigit s_Text_isWordByte) k_Text_sortAt J K (n + 1) 69 L S M = ai_iret (am_run (c_Text_sortAt s_Text_at s_Text_isDigit s_Text_isWordByte) k_Text_sortAt J K n) K 69 L S M := by rfl
theorem r_Text_sortAt_70 {s_Text_at : aS} {s_Text_isDigit : aS} {s_Text_isWordByte : aS} {J : aJ} {K : aR} {n : Nat} {L : aL} {S : List Value} {M : aM} : am_run (c_Text_sortAt s_Text_at s_Text_isDigit s_Text_isWordByte) k_Text_sortAt J K (n + 1) 70 L S M = ai_const 7 72 (am_run (c_Text_sortAt s_Text_at s_Text_isDigit s_Text_isWordByte) k_Text_sortAt J K n) K 70 L S M := by rfl
theorem r_Text_sortAt_72 {s_Text_at : aS} {s_Text_isDigit : aS} {s_Text_isWordByte : aS} {J : aJ} {K : aR} {n : Nat} {L : aL} {S : List Value} {M : aM} : am_run (c_Text_sortAt s_Text_at s_Text_isDigit s_Text_isWordByte) k_Text_sortAt J K (n + 1) 72 L S M = ai_iret (am_run (c_Text_sortAt s_Text_at s_Text_isDigit s_Text_isWordByte) k_Text_sortAt J K n) K 72 L S M := by rfl
theorem r_Text_sortAt_73 {s_Text_at : aS} {s_Text_isDigit : aS} {s_Text_isWordByte : aS} {J : aJ} {K : aR} {n : Nat} {L : aL} {S : List Value} {M : aM} : am_run (c_Text_sortAt s_Text_at s_Text_isDigit s_Text_isWordByte) k_Text_sortAt J K (n + 1) 73 L S M = ai_const 8 75 (am_run (c_Text_sortAt s_Text_at s_Text_isDigit s_Text_isWordByte) k_Text_sortAt J K n) K 73 L S M := by rfl
theorem r_Text_sortAt_75 {s_Text_at : aS} {s_Text_isDigit : aS} {s_Text_isWordByte : aS} {J : aJ} {K : aR} {n : Nat} {L : aL} {S : List Value} {M : aM} : am_run (c_Text_sortAt s_Text_at s_Text_isDigit s_Text_isWordByte) k_Text_sortAt J K (n + 1) 75 L S M = ai_iret (am_run (c_Text_sortAt s_Text_at s_Text_isDigit s_Text_isWordByte) k_Text_sortAt J K n) K 75 L S M := by rfl
theorem r_Text_sortAt_76 {s_Text_at : aS} {s_Text_isDigit : aS} {s_Text_isWordByte : aS} {J : aJ} {K : aR} {n : Nat} {L : aL} {S : List Value} {M : aM} : am_run (c_Text_sortAt s_Text_at s_Text_isDigit s_Text_isWordByte) k_Text_sortAt J K (n + 1) 76 L S M = ai_const 9 78 (am_run (c_Text_sortAt s_Text_at s_Text_isDigit s_Text_isWordByte) k_Text_sortAt J K n) K 76 L S M := by rfl
theorem r_Text_sortAt_78 {s_Text_at : aS} {s_Text_isDigit : aS} {s_Text_isWordByte : aS} {J : aJ} {K : aR} {n : Nat} {L : aL} {S : List Value} {M : aM} : am_run (c_Text_sortAt s_Text_at s_Text_isDigit s_Text_isWordByte) k_Text_sortAt J K (n + 1) 78 L S M = ai_iret (am_run (c_Text_sortAt s_Text_at s_Text_isDigit s_Text_isWordByte) k_Text_sortAt J K n) K 78 L S M := by rfl
theorem r_Text_sortAt_79 {s_Text_at : aS} {s_Text_isDigit : aS} {s_Text_isWordByte : aS} {J : aJ} {K : aR} {n : Nat} {L : aL} {S : List Value} {M : aM} : am_run (c_Text_sortAt s_Text_at s_Text_isDigit s_Text_isWordByte) k_Text_sortAt J K (n + 1) 79 L S M = ai_const 3 80 (am_run (c_Text_sortAt s_Text_at s_Text_isDigit s_Text_isWordByte) k_Text_sortAt J K n) K 79 L S M := by rfl
theorem r_Text_sortAt_80 {s_Text_at : aS} {s_Text_isDigit : aS} {s_Text_isWordByte : aS} {J : aJ} {K : aR} {n : Nat} {L : aL} {S : List Value} {M : aM} : am_run (c_Text_sortAt s_Text_at s_Text_isDigit s_Text_isWordByte) k_Text_sortAt J K (n + 1) 80 L S M = ai_iret (am_run (c_Text_sortAt s_Text_at s_Text_isDigit s_Text_isWordByte) k_Text_sortAt J K n) K 80 L S M := by rfl
theorem r_Text_sortAt_81 {s_Text_at : aS} {s_Text_isDigit : aS} {s_Text_isWordByte : aS} {J : aJ} {K : aR} {n : Nat} {L : aL} {S : List Value} {M : aM} : am_run (c_Text_sortAt s_Text_at s_Text_isDigit s_Text_isWordByte) k_Text_sortAt J K (n + 1) 81 L S M = ai_iload 2 82 (am_run (c_Text_sortAt s_Text_at s_Text_isDigit s_Text_isWordByte) k_Text_sortAt J K n) K 81 L S M := by rfl
theorem r_Text_sortAt_82 {s_Text_at : aS} {s_Text_isDigit : aS} {s_Text_isWordByte : aS} {J : aJ} {K : aR} {n : Nat} {L : aL} {S : List Value} {M : aM} : am_run (c_Text_sortAt s_Text_at s_Text_isDigit s_Text_isWordByte) k_Text_sortAt J K (n + 1) 82 L S M = ai_const 45 84 (am_run (c_Text_sortAt s_Text_at s_Text_isDigit s_Text_isWordByte) k_Text_sortAt J K n) K 82 L S M := by rfl
theorem r_Text_sortAt_84 {s_Text_at : aS} {s_Text_isDigit : aS} {s_Text_isWordByte : aS} {J : aJ} {K : aR} {n : Nat} {L : aL} {S : List Value} {M : aM} : am_run (c_Text_sortAt s_Text_at s_Text_isDigit s_Text_isWordByte) k_Text_sortAt J K (n + 1) 84 L S M = ai_cmpeq 94 87 (am_run (c_Text_sortAt s_Text_at s_Text_isDigit s_Text_isWordByte) k_Text_sortAt J K n) K 84 L S M := by rfl
theorem r_Text_sortAt_87 {s_Text_at : aS} {s_Text_isDigit : aS} {s_Text_isWordByte : aS} {J : aJ} {K : aR} {n : Nat} {L : aL} {S : List Value} {M : aM} : am_run (c_Text_sortAt s_Text_at s_Text_isDigit s_Text_isWordByte) k_Text_sortAt J K (n + 1) 87 L S M = ai_iload 2 88 (am_run (c_Text_sortAt s_Text_at s_Text_isDigit s_Text_isWordByte) k_Text_sortAt J K n) K 87 L S M := by rfl
theorem r_Text_sortAt_88 {s_Text_at : aS} {s_Text_isDigit : aS} {s_Text_isWordByte : aS} {J : aJ} {K : aR} {n : Nat} {L : aL} {S : List Value} {M : aM} : am_run (c_Text_sortAt s_Text_at s_Text_isDigit s_Text_isWordByte) k_Text_sortAt J K (n + 1) 88 L S M = ai_calls1 s_Text_isDigit 91 (am_run (c_Text_sortAt s_Text_at s_Text_isDigit s_Text_isWordByte) k_Text_sortAt J K n) K 88 L S M := by rfl
theorem r_Text_sortAt_91 {s_Text_at : aS} {s_Text_isDigit : aS} {s_Text_isWordByte : aS} {J : aJ} {K : aR} {n : Nat} {L : aL} {S : List Value} {M : aM} : am_run (c_Text_sortAt s_Text_at s_Text_isDigit s_Text_isWordByte) k_Text_sortAt J K (n + 1) 91 L S M = ai_ifeq 96 94 (am_run (c_Text_sortAt s_Text_at s_Text_isDigit s_Text_isWordByte) k_Text_sortAt J K n) K 91 L S M := by rfl
theorem r_Text_sortAt_94 {s_Text_at : aS} {s_Text_isDigit : aS} {s_Text_isWordByte : aS} {J : aJ} {K : aR} {n : Nat} {L : aL} {S : List Value} {M : aM} : am_run (c_Text_sortAt s_Text_at s_Text_isDigit s_Text_isWordByte) k_Text_sortAt J K (n + 1) 94 L S M = ai_const 1 95 (am_run (c_Text_sortAt s_Text_at s_Text_isDigit s_Text_isWordByte) k_Text_sortAt J K n) K 94 L S M := by rfl
theorem r_Text_sortAt_95 {s_Text_at : aS} {s_Text_isDigit : aS} {s_Text_isWordByte : aS} {J : aJ} {K : aR} {n : Nat} {L : aL} {S : List Value} {M : aM} : am_run (c_Text_sortAt s_Text_at s_Text_isDigit s_Text_isWordByte) k_Text_sortAt J K (n + 1) 95 L S M = ai_iret (am_run (c_Text_sortAt s_Text_at s_Text_isDigit s_Text_isWordByte) k_Text_sortAt J K n) K 95 L S M := by rfl
theorem r_Text_sortAt_96 {s_Text_at : aS} {s_Text_isDigit : aS} {s_Text_isWordByte : aS} {J : aJ} {K : aR} {n : Nat} {L : aL} {S : List Value} {M : aM} : am_run (c_Text_sortAt s_Text_at s_Text_isDigit s_Text_isWordByte) k_Text_sortAt J K (n + 1) 96 L S M = ai_iload 2 97 (am_run (c_Text_sortAt s_Text_at s_Text_isDigit s_Text_isWordByte) k_Text_sortAt J K n) K 96 L S M := by rfl
theorem r_Text_sortAt_97 {s_Text_at : aS} {s_Text_isDigit : aS} {s_Text_isWordByte : aS} {J : aJ} {K : aR} {n : Nat} {L : aL} {S : List Value} {M : aM} : am_run (c_Text_sortAt s_Text_at s_Text_isDigit s_Text_isWordByte) k_Text_sortAt J K (n + 1) 97 L S M = ai_calls1 s_Text_isWordByte 100 (am_run (c_Text_sortAt s_Text_at s_Text_isDigit s_Text_isWordByte) k_Text_sortAt J K n) K 97 L S M := by rfl
theorem r_Text_sortAt_100 {s_Text_at : aS} {s_Text_isDigit : aS} {s_Text_isWordByte : aS} {J : aJ} {K : aR} {n : Nat} {L : aL} {S : List Value} {M : aM} : am_run (c_Text_sortAt s_Text_at s_Text_isDigit s_Text_isWordByte) k_Text_sortAt J K (n + 1) 100 L S M = ai_ifeq 107 103 (am_run (c_Text_sortAt s_Text_at s_Text_isDigit s_Text_isWordByte) k_Text_sortAt J K n) K 100 L S M := by rfl
theorem r_Text_sortAt_103 {s_Text_at : aS} {s_Text_isDigit : aS} {s_Text_isWordByte : aS} {J : aJ} {K : aR} {n : Nat} {L : aL} {S : List Value} {M : aM} : am_run (c_Text_sortAt s_Text_at s_Text_isDigit s_Text_isWordByte) k_Text_sortAt J K (n + 1) 103 L S M = ai_const 2 104 (am_run (c_Text_sortAt s_Text_at s_Text_isDigit s_Text_isWordByte) k_Text_sortAt J K n) K 103 L S M := by rfl
theorem r_Text_sortAt_104 {s_Text_at : aS} {s_Text_isDigit : aS} {s_Text_isWordByte : aS} {J : aJ} {K : aR} {n : Nat} {L : aL} {S : List Value} {M : aM} : am_run (c_Text_sortAt s_Text_at s_Text_isDigit s_Text_isWordByte) k_Text_sortAt J K (n + 1) 104 L S M = ai_goto 109 (am_run (c_Text_sortAt s_Text_at s_Text_isDigit s_Text_isWordByte) k_Text_sortAt J K n) K 104 L S M := by rfl
theorem r_Text_sortAt_107 {s_Text_at : aS} {s_Text_isDigit : aS} {s_Text_isWordByte : aS} {J : aJ} {K : aR} {n : Nat} {L : aL} {S : List Value} {M : aM} : am_run (c_Text_sortAt s_Text_at s_Text_isDigit s_Text_isWordByte) k_Text_sortAt J K (n + 1) 107 L S M = ai_const 11 109 (am_run (c_Text_sortAt s_Text_at s_Text_isDigit s_Text_isWordByte) k_Text_sortAt J K n) K 107 L S M := by rfl
theorem r_Text_sortAt_109 {s_Text_at : aS} {s_Text_isDigit : aS} {s_Text_isWordByte : aS} {J : aJ} {K : aR} {n : Nat} {L : aL} {S : List Value} {M : aM} : am_run (c_Text_sortAt s_Text_at s_Text_isDigit s_Text_isWordByte) k_Text_sortAt J K (n + 1) 109 L S M = ai_iret (am_run (c_Text_sortAt s_Text_at s_Text_isDigit s_Text_isWordByte) k_Text_sortAt J K n) K 109 L S M := by rfl
def c_Text_tokenEnd (s_Text_numberEnd : aS) (s_Text_nameEnd : aS) (s_Text_stringEnd : aS) (s_Text_at : aS) (s_Text_isWordByte : aS) : List (Nat × aI) := [
  (0, ai_iload 2 1),
  (1, ai_switch [(1, 60), (2, 66), (3, 72), (4, 114), (5, 114), (6, 114), (7, 114), (8, 114), (9, 78), (10, 114), (11, 112)] 114),
  (60, ai_aload 0 61),
  (61, ai_iload 1 62),
  (62, ai_callv2 2 s_Text_numberEnd 65),
  (65, ai_iret),
  (66, ai_aload 0 67),
  (67, ai_iload 1 68),
  (68, ai_callv2 2 s_Text_nameEnd 71),
  (71, ai_iret),
  (72, ai_aload 0 73),
  (73, ai_iload 1 74),
  (74, ai_callv2 2 s_Text_stringEnd 77),
  (77, ai_iret),
  (78, ai_aload 0 79),
  (79, ai_iload 1 80),
  (80, ai_const 1 81),
  (81, ai_isub 82),
  (82, ai_callv2 2 s_Text_at 85),
  (85, ai_calls1 s_Text_isWordByte 88),
  (88, ai_ifne 104 91),
  (91, ai_aload 0 92),
  (92, ai_iload 1 93),
  (93, ai_const 1 94),
  (94, ai_iadd 95),
  (95, ai_callv2 2 s_Text_at 98),
  (98, ai_calls1 s_Text_isWordByte 101),
  (101, ai_ifeq 108 104),
  (104, ai_const (-1) 105),
  (105, ai_goto 111),
  (108, ai_iload 1 109),
  (109, ai_const 1 110),
  (110, ai_iadd 111),
  (111, ai_iret),
  (112, ai_const (-1) 113),
  (113, ai_iret),
  (114, ai_iload 1 115),
  (115, ai_const 1 116),
  (116, ai_iadd 117),
  (117, ai_iret)]
set_option maxRecDepth 100000 in
set_option maxHeartbeats 4000000 in
theorem tb_Text_tokenEnd {G : aG} {d : Nat} {s_Text_numberEnd : aS} {d_Text_numberEnd : Nat} (h_Text_numberEnd : am_Sp G Y_Text_numberEnd d_Text_numberEnd s_Text_numberEnd) (l_Text_numberEnd : d_Text_numberEnd < d) {s_Text_nameEnd : aS} {d_Text_nameEnd : Nat} (h_Text_nameEnd : am_Sp G Y_Text_nameEnd d_Text_nameEnd s_Text_nameEnd) (l_Text_nameEnd : d_Text_nameEnd < d) {s_Text_stringEnd : aS} {d_Text_stringEnd : Nat} (h_Text_stringEnd : am_Sp G Y_Text_stringEnd d_Text_stringEnd s_Text_stringEnd) (l_Text_stringEnd : d_Text_stringEnd < d) {s_Text_at : aS} {d_Text_at : Nat} (h_Text_at : am_Sp G Y_Text_at d_Text_at s_Text_at) (l_Text_at : d_Text_at < d) {s_Text_isWordByte : aS} {d_Text_isWordByte : Nat} (h_Text_isWordByte : am_Sp G Y_Text_isWordByte d_Text_isWordByte s_Text_isWordByte) (l_Text_isWordByte : d_Text_isWordByte < d) : am_tab G Y_Text_tokenEnd d (c_Text_tokenEnd s_Text_numberEnd s_Text_nameEnd s_Text_stringEnd s_Text_at s_Text_isWordByte) := by
  intro K p e s m args below meth c C
  exact ⟨as_iload_n C (pc := 0) (q := 2) (by decide +kernel) rfl rfl,
    as_table C (pc := 1) (dflt := 113) (lo := 1) (hi := 11) (offs := #[59, 65, 71, 113, 113, 113, 113, 113, 77, 113, 111]) (len := 59) (by decide +kernel) (by decide +kernel) (by decide) (by decide),
    as_aload_n C (pc := 60) (q := 0) (by decide +kernel) rfl rfl,
    as_iload_n C (pc := 61) (q := 1) (by decide +kernel) rfl rfl,
    as_callv2 C (pc := 62) h_Text_numberEnd (T := T_Text) (N := 2) rfl w_288 w_71 w_287 w_8 w_285 hy_Text_numberEnd (am_rm_of l_Text_numberEnd (by decide)) (by decide +kernel) rfl,
    as_iret C (pc := 65) rfl (by decide +kernel),
    as_aload_n C (pc := 66) (q := 0) (by decide +kernel) rfl rfl,
    as_iload_n C (pc := 67) (q := 1) (by decide +kernel) rfl rfl,
    as_callv2 C (pc := 68) h_Text_nameEnd (T := T_Text) (N := 2) rfl w_296 w_71 w_295 w_10 w_293 hy_Text_nameEnd (am_rm_of l_Text_nameEnd (by decide)) (by decide +kernel) rfl,
    as_iret C (pc := 71) rfl (by decide +kernel),
    as_aload_n C (pc := 72) (q := 0) (by decide +kernel) rfl rfl,
    as_iload_n C (pc := 73) (q := 1) (by decide +kernel) rfl rfl,
    as_callv2 C (pc := 74) h_Text_stringEnd (T := T_Text) (N := 2) rfl w_300 w_71 w_299 w_11 w_297 hy_Text_stringEnd (am_rm_of l_Text_stringEnd (by decide)) (by decide +kernel) rfl,
    as_iret C (pc := 77) rfl (by decide +kernel),
    as_aload_n C (pc := 78) (q := 0) (by decide +kernel) rfl rfl,
    as_iload_n C (pc := 79) (q := 1) (by decide +kernel) rfl rfl,
    as_iconst C (pc := 80) (n := 1) (by decide +kernel) (by decide +kernel) rfl,
    as_isub C (pc := 81) (by decide +kernel) rfl,
    as_callv2 C (pc := 82) h_Text_at (T := T_Text) (N := 2) rfl w_270 w_71 w_269 w_5 w_267 hy_Text_at (am_rm_of l_Text_at (by decide)) (by decide +kernel) rfl,
    as_calls1 C (pc := 85) h_Text_isWordByte w_280 w_71 w_279 w_278 hy_Text_isWordByte (am_rm_of l_Text_isWordByte (by decide)) (by decide +kernel) rfl,
    as_ifne C (pc := 88) (off := 16) (by decide +kernel) (by decide) rfl,
    as_aload_n C (pc := 91) (q := 0) (by decide +kernel) rfl rfl,
    as_iload_n C (pc := 92) (q := 1) (by decide +kernel) rfl rfl,
    as_iconst C (pc := 93) (n := 1) (by decide +kernel) (by decide +kernel) rfl,
    as_iadd C (pc := 94) (by decide +kernel) rfl,
    as_callv2 C (pc := 95) h_Text_at (T := T_Text) (N := 2) rfl w_270 w_71 w_269 w_5 w_267 hy_Text_at (am_rm_of l_Text_at (by decide)) (by decide +kernel) rfl,
    as_calls1 C (pc := 98) h_Text_isWordByte w_280 w_71 w_279 w_278 hy_Text_isWordByte (am_rm_of l_Text_isWordByte (by decide)) (by decide +kernel) rfl,
    as_ifeq C (pc := 101) (off := 7) (by decide +kernel) (by decide) rfl,
    as_iconst C (pc := 104) (n := (-1)) (by decide +kernel) (by decide +kernel) rfl,
    as_goto C (pc := 105) (off := 6) (by decide +kernel) (by decide),
    as_iload_n C (pc := 108) (q := 1) (by decide +kernel) rfl rfl,
    as_iconst C (pc := 109) (n := 1) (by decide +kernel) (by decide +kernel) rfl,
    as_iadd C (pc := 110) (by decide +kernel) rfl,
    as_iret C (pc := 111) rfl (by decide +kernel),
    as_iconst C (pc := 112) (n := (-1)) (by decide +kernel) (by decide +kernel) rfl,
    as_iret C (pc := 113) rfl (by decide +kernel),
    as_iload_n C (pc := 114) (q := 1) (by decide +kernel) rfl rfl,
    as_iconst C (pc := 115) (n := 1) (by decide +kernel) (by decide +kernel) rfl,
    as_iadd C (pc := 116) (by decide +kernel) rfl,
    as_iret C (pc := 117) rfl (by decide +kernel), trivial⟩
abbrev k_Text_tokenEnd : List Nat := []
theorem r_Text_tokenEnd_0 {s_Text_numberEnd : aS} {s_Text_nameEnd : aS} {s_Text_stringEnd : aS} {s_Text_at : aS} {s_Text_isWordByte : aS} {J : aJ} {K : aR} {n : Nat} {L : aL} {S : List Value} {M : aM} : am_run (c_Text_tokenEnd s_Text_numberEnd s_Text_nameEnd s_Text_stringEnd s_Text_at s_Text_isWordByte) k_Text_tokenEnd J K (n + 1) 0 L S M = ai_iload 2 1 (am_run (c_Text_tokenEnd s_Text_numberEnd s_Text_nameEnd s_Text_stringEnd s_Text_at s_Text_isWordByte) k_Text_tokenEnd J K n) K 0 L S M := by rfl
theorem r_Text_tokenEnd_1 {s_Text_numberEnd : aS} {s_Text_nameEnd : aS} {s_Text_stringEnd : aS} {s_Text_at : aS} {s_Text_isWordByte : aS} {J : aJ} {K : aR} {n : Nat} {L : aL} {S : List Value} {M : aM} : am_run (c_Text_tokenEnd s_Text_numberEnd s_Text_nameEnd s_Text_stringEnd s_Text_at s_Text_isWordByte) k_Text_tokenEnd J K (n + 1) 1 L S M = ai_switch [(1, 60), (2, 66), (3, 72), (4, 114), (5, 114), (6, 114), (7, 114), (8, 114), (9, 78), (10, 114), (11, 112)] 114 (am_run (c_Text_tokenEnd s_Text_numberEnd s_Text_nameEnd s_Text_stringEnd s_Text_at s_Text_isWordByte) k_Text_tokenEnd J K n) K 1 L S M := by rfl
theorem r_Text_tokenEnd_60 {s_Text_numberEnd : aS} {s_Text_nameEnd : aS} {s_Text_stringEnd : aS} {s_Text_at : aS} {s_Text_isWordByte : aS} {J : aJ} {K : aR} {n : Nat} {L : aL} {S : List Value} {M : aM} : am_run (c_Text_tokenEnd s_Text_numberEnd s_Text_nameEnd s_Text_stringEnd s_Text_at s_Text_isWordByte) k_Text_tokenEnd J K (n + 1) 60 L S M = ai_aload 0 61 (am_run (c_Text_tokenEnd s_Text_numberEnd s_Text_nameEnd s_Text_stringEnd s_Text_at s_Text_isWordByte) k_Text_tokenEnd J K n) K 60 L S M := by rfl
theorem r_Text_tokenEnd_61 {s_Text_numberEnd : aS} {s_Text_nameEnd : aS} {s_Text_stringEnd : aS} {s_Text_at : aS} {s_Text_isWordByte : aS} {J : aJ} {K : aR} {n : Nat} {L : aL} {S : List Value} {M : aM} : am_run (c_Text_tokenEnd s_Text_numberEnd s_Text_nameEnd s_Text_stringEnd s_Text_at s_Text_isWordByte) k_Text_tokenEnd J K (n + 1) 61 L S M = ai_iload 1 62 (am_run (c_Text_tokenEnd s_Text_numberEnd s_Text_nameEnd s_Text_stringEnd s_Text_at s_Text_isWordByte) k_Text_tokenEnd J K n) K 61 L S M := by rfl
theorem r_Text_tokenEnd_62 {s_Text_numberEnd : aS} {s_Text_nameEnd : aS} {s_Text_stringEnd : aS} {s_Text_at : aS} {s_Text_isWordByte : aS} {J : aJ} {K : aR} {n : Nat} {L : aL} {S : List Value} {M : aM} : am_run (c_Text_tokenEnd s_Text_numberEnd s_Text_nameEnd s_Text_stringEnd s_Text_at s_Text_isWordByte) k_Text_tokenEnd J K (n + 1) 62 L S M = ai_callv2 2 s_Text_numberEnd 65 (am_run (c_Text_tokenEnd s_Text_numberEnd s_Text_nameEnd s_Text_stringEnd s_Text_at s_Text_isWordByte) k_Text_tokenEnd J K n) K 62 L S M := by rfl
theorem r_Text_tokenEnd_65 {s_Text_numberEnd : aS} {s_Text_nameEnd : aS} {s_Text_stringEnd : aS} {s_Text_at : aS} {s_Text_isWordByte : aS} {J : aJ} {K : aR} {n : Nat} {L : aL} {S : List Value} {M : aM} : am_run (c_Text_tokenEnd s_Text_numberEnd s_Text_nameEnd s_Text_stringEnd s_Text_at s_Text_isWordByte) k_Text_tokenEnd J K (n + 1) 65 L S M = ai_iret (am_run (c_Text_tokenEnd s_Text_numberEnd s_Text_nameEnd s_Text_stringEnd s_Text_at s_Text_isWordByte) k_Text_tokenEnd J K n) K 65 L S M := by rfl
theorem r_Text_tokenEnd_66 {s_Text_numberEnd : aS} {s_Text_nameEnd : aS} {s_Text_stringEnd : aS} {s_Text_at : aS} {s_Text_isWordByte : aS} {J : aJ} {K : aR} {n : Nat} {L : aL} {S : List Value} {M : aM} : am_run (c_Text_tokenEnd s_Text_numberEnd s_Text_nameEnd s_Text_stringEnd s_Text_at s_Text_isWordByte) k_Text_tokenEnd J K (n + 1) 66 L S M = ai_aload 0 67 (am_run (c_Text_tokenEnd s_Text_numberEnd s_Text_nameEnd s_Text_stringEnd s_Text_at s_Text_isWordByte) k_Text_tokenEnd J K n) K 66 L S M := by rfl
theorem r_Text_tokenEnd_67 {s_Text_numberEnd : aS} {s_Text_nameEnd : aS} {s_Text_stringEnd : aS} {s_Text_at : aS} {s_Text_isWordByte : aS} {J : aJ} {K : aR} {n : Nat} {L : aL} {S : List Value} {M : aM} : am_run (c_Text_tokenEnd s_Text_numberEnd s_Text_nameEnd s_Text_stringEnd s_Text_at s_Text_isWordByte) k_Text_tokenEnd J K (n + 1) 67 L S M = ai_iload 1 68 (am_run (c_Text_tokenEnd s_Text_numberEnd s_Text_nameEnd s_Text_stringEnd s_Text_at s_Text_isWordByte) k_Text_tokenEnd J K n) K 67 L S M := by rfl
theorem r_Text_tokenEnd_68 {s_Text_numberEnd : aS} {s_Text_nameEnd : aS} {s_Text_stringEnd : aS} {s_Text_at : aS} {s_Text_isWordByte : aS} {J : aJ} {K : aR} {n : Nat} {L : aL} {S : List Value} {M : aM} : am_run (c_Text_tokenEnd s_Text_numberEnd s_Text_nameEnd s_Text_stringEnd s_Text_at s_Text_isWordByte) k_Text_tokenEnd J K (n + 1) 68 L S M = ai_callv2 2 s_Text_nameEnd 71 (am_run (c_Text_tokenEnd s_Text_numberEnd s_Text_nameEnd s_Text_stringEnd s_Text_at s_Text_isWordByte) k_Text_tokenEnd J K n) K 68 L S M := by rfl
theorem r_Text_tokenEnd_71 {s_Text_numberEnd : aS} {s_Text_nameEnd : aS} {s_Text_stringEnd : aS} {s_Text_at : aS} {s_Text_isWordByte : aS} {J : aJ} {K : aR} {n : Nat} {L : aL} {S : List Value} {M : aM} : am_run (c_Text_tokenEnd s_Text_numberEnd s_Text_nameEnd s_Text_stringEnd s_Text_at s_Text_isWordByte) k_Text_tokenEnd J K (n + 1) 71 L S M = ai_iret (am_run (c_Text_tokenEnd s_Text_numberEnd s_Text_nameEnd s_Text_stringEnd s_Text_at s_Text_isWordByte) k_Text_tokenEnd J K n) K 71 L S M := by rfl
theorem r_Text_tokenEnd_72 {s_Text_numberEnd : aS} {s_Text_nameEnd : aS} {s_Text_stringEnd : aS} {s_Text_at : aS} {s_Text_isWordByte : aS} {J : aJ} {K : aR} {n : Nat} {L : aL} {S : List Value} {M : aM} : am_run (c_Text_tokenEnd s_Text_numberEnd s_Text_nameEnd s_Text_stringEnd s_Text_at s_Text_isWordByte) k_Text_tokenEnd J K (n + 1) 72 L S M = ai_aload 0 73 (am_run (c_Text_tokenEnd s_Text_numberEnd s_Text_nameEnd s_Text_stringEnd s_Text_at s_Text_isWordByte) k_Text_tokenEnd J K n) K 72 L S M := by rfl
theorem r_Text_tokenEnd_73 {s_Text_numberEnd : aS} {s_Text_nameEnd : aS} {s_Text_stringEnd : aS} {s_Text_at : aS} {s_Text_isWordByte : aS} {J : aJ} {K : aR} {n : Nat} {L : aL} {S : List Value} {M : aM} : am_run (c_Text_tokenEnd s_Text_numberEnd s_Text_nameEnd s_Text_stringEnd s_Text_at s_Text_isWordByte) k_Text_tokenEnd J K (n + 1) 73 L S M = ai_iload 1 74 (am_run (c_Text_tokenEnd s_Text_numberEnd s_Text_nameEnd s_Text_stringEnd s_Text_at s_Text_isWordByte) k_Text_tokenEnd J K n) K 73 L S M := by rfl
theorem r_Text_tokenEnd_74 {s_Text_numberEnd : aS} {s_Text_nameEnd : aS} {s_Text_stringEnd : aS} {s_Text_at : aS} {s_Text_isWordByte : aS} {J : aJ} {K : aR} {n : Nat} {L : aL} {S : List Value} {M : aM} : am_run (c_Text_tokenEnd s_Text_numberEnd s_Text_nameEnd s_Text_stringEnd s_Text_at s_Text_isWordByte) k_Text_tokenEnd J K (n + 1) 74 L S M = ai_callv2 2 s_Text_stringEnd 77 (am_run (c_Text_tokenEnd s_Text_numberEnd s_Text_nameEnd s_Text_stringEnd s_Text_at s_Text_isWordByte) k_Text_tokenEnd J K n) K 74 L S M := by rfl
theorem r_Text_tokenEnd_77 {s_Text_numberEnd : aS} {s_Text_nameEnd : aS} {s_Text_stringEnd : aS} {s_Text_at : aS} {s_Text_isWordByte : aS} {J : aJ} {K : aR} {n : Nat} {L : aL} {S : List Value} {M : aM} : am_run (c_Text_tokenEnd s_Text_numberEnd s_Text_nameEnd s_Text_stringEnd s_Text_at s_Text_isWordByte) k_Text_tokenEnd J K (n + 1) 77 L S M = ai_iret (am_run (c_Text_tokenEnd s_Text_numberEnd s_Text_nameEnd s_Text_stringEnd s_Text_at s_Text_isWordByte) k_Text_tokenEnd J K n) K 77 L S M := by rfl
theorem r_Text_tokenEnd_78 {s_Text_numberEnd : aS} {s_Text_nameEnd : aS} {s_Text_stringEnd : aS} {s_Text_at : aS} {s_Text_isWordByte : aS} {J : aJ} {K : aR} {n : Nat} {L : aL} {S : List Value} {M : aM} : am_run (c_Text_tokenEnd s_Text_numberEnd s_Text_nameEnd s_Text_stringEnd s_Text_at s_Text_isWordByte) k_Text_tokenEnd J K (n + 1) 78 L S M = ai_aload 0 79 (am_run (c_Text_tokenEnd s_Text_numberEnd s_Text_nameEnd s_Text_stringEnd s_Text_at s_Text_isWordByte) k_Text_tokenEnd J K n) K 78 L S M := by rfl
theorem r_Text_tokenEnd_79 {s_Text_numberEnd : aS} {s_Text_nameEnd : aS} {s_Text_stringEnd : aS} {s_Text_at : aS} {s_Text_isWordByte : aS} {J : aJ} {K : aR} {n : Nat} {L : aL} {S : List Value} {M : aM} : am_run (c_Text_tokenEnd s_Text_numberEnd s_Text_nameEnd s_Text_stringEnd s_Text_at s_Text_isWordByte) k_Text_tokenEnd J K (n + 1) 79 L S M = ai_iload 1 80 (am_run (c_Text_tokenEnd s_Text_numberEnd s_Text_nameEnd s_Text_stringEnd s_Text_at s_Text_isWordByte) k_Text_tokenEnd J K n) K 79 L S M := by rfl
theorem r_Text_tokenEnd_80 {s_Text_numberEnd : aS} {s_Text_nameEnd : aS} {s_Text_stringEnd : aS} {s_Text_at : aS} {s_Text_isWordByte : aS} {J : aJ} {K : aR} {n : Nat} {L : aL} {S : List Value} {M : aM} : am_run (c_Text_tokenEnd s_Text_numberEnd s_Text_nameEnd s_Text_stringEnd s_Text_at s_Text_isWordByte) k_Text_tokenEnd J K (n + 1) 80 L S M = ai_const 1 81 (am_run (c_Text_tokenEnd s_Text_numberEnd s_Text_nameEnd s_Text_stringEnd s_Text_at s_Text_isWordByte) k_Text_tokenEnd J K n) K 80 L S M := by rfl
theorem r_Text_tokenEnd_81 {s_Text_numberEnd : aS} {s_Text_nameEnd : aS} {s_Text_stringEnd : aS} {s_Text_at : aS} {s_Text_isWordByte : aS} {J : aJ} {K : aR} {n : Nat} {L : aL} {S : List Value} {M : aM} : am_run (c_Text_tokenEnd s_Text_numberEnd s_Text_nameEnd s_Text_stringEnd s_Text_at s_Text_isWordByte) k_Text_tokenEnd J K (n + 1) 81 L S M = ai_isub 82 (am_run (c_Text_tokenEnd s_Text_numberEnd s_Text_nameEnd s_Text_stringEnd s_Text_at s_Text_isWordByte) k_Text_tokenEnd J K n) K 81 L S M := by rfl
theorem r_Text_tokenEnd_82 {s_Text_numberEnd : aS} {s_Text_nameEnd : aS} {s_Text_stringEnd : aS} {s_Text_at : aS} {s_Text_isWordByte : aS} {J : aJ} {K : aR} {n : Nat} {L : aL} {S : List Value} {M : aM} : am_run (c_Text_tokenEnd s_Text_numberEnd s_Text_nameEnd s_Text_stringEnd s_Text_at s_Text_isWordByte) k_Text_tokenEnd J K (n + 1) 82 L S M = ai_callv2 2 s_Text_at 85 (am_run (c_Text_tokenEnd s_Text_numberEnd s_Text_nameEnd s_Text_stringEnd s_Text_at s_Text_isWordByte) k_Text_tokenEnd J K n) K 82 L S M := by rfl
theorem r_Text_tokenEnd_85 {s_Text_numberEnd : aS} {s_Text_nameEnd : aS} {s_Text_stringEnd : aS} {s_Text_at : aS} {s_Text_isWordByte : aS} {J : aJ} {K : aR} {n : Nat} {L : aL} {S : List Value} {M : aM} : am_run (c_Text_tokenEnd s_Text_numberEnd s_Text_nameEnd s_Text_stringEnd s_Text_at s_Text_isWordByte) k_Text_tokenEnd J K (n + 1) 85 L S M = ai_calls1 s_Text_isWordByte 88 (am_run (c_Text_tokenEnd s_Text_numberEnd s_Text_nameEnd s_Text_stringEnd s_Text_at s_Text_isWordByte) k_Text_tokenEnd J K n) K 85 L S M := by rfl
theorem r_Text_tokenEnd_88 {s_Text_numberEnd : aS} {s_Text_nameEnd : aS} {s_Text_stringEnd : aS} {s_Text_at : aS} {s_Text_isWordByte : aS} {J : aJ} {K : aR} {n : Nat} {L : aL} {S : List Value} {M : aM} : am_run (c_Text_tokenEnd s_Text_numberEnd s_Text_nameEnd s_Text_stringEnd s_Text_at s_Text_isWordByte) k_Text_tokenEnd J K (n + 1) 88 L S M = ai_ifne 104 91 (am_run (c_Text_tokenEnd s_Text_numberEnd s_Text_nameEnd s_Text_stringEnd s_Text_at s_Text_isWordByte) k_Text_tokenEnd J K n) K 88 L S M := by rfl
theorem r_Text_tokenEnd_91 {s_Text_numberEnd : aS} {s_Text_nameEnd : aS} {s_Text_stringEnd : aS} {s_Text_at : aS} {s_Text_isWordByte : aS} {J : aJ} {K : aR} {n : Nat} {L : aL} {S : List Value} {M : aM} : am_run (c_Text_tokenEnd s_Text_numberEnd s_Text_nameEnd s_Text_stringEnd s_Text_at s_Text_isWordByte) k_Text_tokenEnd J K (n + 1) 91 L S M = ai_aload 0 92 (am_run (c_Text_tokenEnd s_Text_numberEnd s_Text_nameEnd s_Text_stringEnd s_Text_at s_Text_isWordByte) k_Text_tokenEnd J K n) K 91 L S M := by rfl
theorem r_Text_tokenEnd_92 {s_Text_numberEnd : aS} {s_Text_nameEnd : aS} {s_Text_stringEnd : aS} {s_Text_at : aS} {s_Text_isWordByte : aS} {J : aJ} {K : aR} {n : Nat} {L : aL} {S : List Value} {M : aM} : am_run (c_Text_tokenEnd s_Text_numberEnd s_Text_nameEnd s_Text_stringEnd s_Text_at s_Text_isWordByte) k_Text_tokenEnd J K (n + 1) 92 L S M = ai_iload 1 93 (am_run (c_Text_tokenEnd s_Text_numberEnd s_Text_nameEnd s_Text_stringEnd s_Text_at s_Text_isWordByte) k_Text_tokenEnd J K n) K 92 L S M := by rfl
theorem r_Text_tokenEnd_93 {s_Text_numberEnd : aS} {s_Text_nameEnd : aS} {s_Text_stringEnd : aS} {s_Text_at : aS} {s_Text_isWordByte : aS} {J : aJ} {K : aR} {n : Nat} {L : aL} {S : List Value} {M : aM} : am_run (c_Text_tokenEnd s_Text_numberEnd s_Text_nameEnd s_Text_stringEnd s_Text_at s_Text_isWordByte) k_Text_tokenEnd J K (n + 1) 93 L S M = ai_const 1 94 (am_run (c_Text_tokenEnd s_Text_numberEnd s_Text_nameEnd s_Text_stringEnd s_Text_at s_Text_isWordByte) k_Text_tokenEnd J K n) K 93 L S M := by rfl
theorem r_Text_tokenEnd_94 {s_Text_numberEnd : aS} {s_Text_nameEnd : aS} {s_Text_stringEnd : aS} {s_Text_at : aS} {s_Text_isWordByte : aS} {J : aJ} {K : aR} {n : Nat} {L : aL} {S : List Value} {M : aM} : am_run (c_Text_tokenEnd s_Text_numberEnd s_Text_nameEnd s_Text_stringEnd s_Text_at s_Text_isWordByte) k_Text_tokenEnd J K (n + 1) 94 L S M = ai_iadd 95 (am_run (c_Text_tokenEnd s_Text_numberEnd s_Text_nameEnd s_Text_stringEnd s_Text_at s_Text_isWordByte) k_Text_tokenEnd J K n) K 94 L S M := by rfl
theorem r_Text_tokenEnd_95 {s_Text_numberEnd : aS} {s_Text_nameEnd : aS} {s_Text_stringEnd : aS} {s_Text_at : aS} {s_Text_isWordByte : aS} {J : aJ} {K : aR} {n : Nat} {L : aL} {S : List Value} {M : aM} : am_run (c_Text_tokenEnd s_Text_numberEnd s_Text_nameEnd s_Text_stringEnd s_Text_at s_Text_isWordByte) k_Text_tokenEnd J K (n + 1) 95 L S M = ai_callv2 2 s_Text_at 98 (am_run (c_Text_tokenEnd s_Text_numberEnd s_Text_nameEnd s_Text_stringEnd s_Text_at s_Text_isWordByte) k_Text_tokenEnd J K n) K 95 L S M := by rfl
theorem r_Text_tokenEnd_98 {s_Text_numberEnd : aS} {s_Text_nameEnd : aS} {s_Text_stringEnd : aS} {s_Text_at : aS} {s_Text_isWordByte : aS} {J : aJ} {K : aR} {n : Nat} {L : aL} {S : List Value} {M : aM} : am_run (c_Text_tokenEnd s_Text_numberEnd s_Text_nameEnd s_Text_stringEnd s_Text_at s_Text_isWordByte) k_Text_tokenEnd J K (n + 1) 98 L S M = ai_calls1 s_Text_isWordByte 101 (am_run (c_Text_tokenEnd s_Text_numberEnd s_Text_nameEnd s_Text_stringEnd s_Text_at s_Text_isWordByte) k_Text_tokenEnd J K n) K 98 L S M := by rfl
theorem r_Text_tokenEnd_101 {s_Text_numberEnd : aS} {s_Text_nameEnd : aS} {s_Text_stringEnd : aS} {s_Text_at : aS} {s_Text_isWordByte : aS} {J : aJ} {K : aR} {n : Nat} {L : aL} {S : List Value} {M : aM} : am_run (c_Text_tokenEnd s_Text_numberEnd s_Text_nameEnd s_Text_stringEnd s_Text_at s_Text_isWordByte) k_Text_tokenEnd J K (n + 1) 101 L S M = ai_ifeq 108 104 (am_run (c_Text_tokenEnd s_Text_numberEnd s_Text_nameEnd s_Text_stringEnd s_Text_at s_Text_isWordByte) k_Text_tokenEnd J K n) K 101 L S M := by rfl
theorem r_Text_tokenEnd_104 {s_Text_numberEnd : aS} {s_Text_nameEnd : aS} {s_Text_stringEnd : aS} {s_Text_at : aS} {s_Text_isWordByte : aS} {J : aJ} {K : aR} {n : Nat} {L : aL} {S : List Value} {M : aM} : am_run (c_Text_tokenEnd s_Text_numberEnd s_Text_nameEnd s_Text_stringEnd s_Text_at s_Text_isWordByte) k_Text_tokenEnd J K (n + 1) 104 L S M = ai_const (-1) 105 (am_run (c_Text_tokenEnd s_Text_numberEnd s_Text_nameEnd s_Text_stringEnd s_Text_at s_Text_isWordByte) k_Text_tokenEnd J K n) K 104 L S M := by rfl
theorem r_Text_tokenEnd_105 {s_Text_numberEnd : aS} {s_Text_nameEnd : aS} {s_Text_stringEnd : aS} {s_Text_at : aS} {s_Text_isWordByte : aS} {J : aJ} {K : aR} {n : Nat} {L : aL} {S : List Value} {M : aM} : am_run (c_Text_tokenEnd s_Text_numberEnd s_Text_nameEnd s_Text_stringEnd s_Text_at s_Text_isWordByte) k_Text_tokenEnd J K (n + 1) 105 L S M = ai_goto 111 (am_run (c_Text_tokenEnd s_Text_numberEnd s_Text_nameEnd s_Text_stringEnd s_Text_at s_Text_isWordByte) k_Text_tokenEnd J K n) K 105 L S M := by rfl
theorem r_Text_tokenEnd_108 {s_Text_numberEnd : aS} {s_Text_nameEnd : aS} {s_Text_stringEnd : aS} {s_Text_at : aS} {s_Text_isWordByte : aS} {J : aJ} {K : aR} {n : Nat} {L : aL} {S : List Value} {M : aM} : am_run (c_Text_tokenEnd s_Text_numberEnd s_Text_nameEnd s_Text_stringEnd s_Text_at s_Text_isWordByte) k_Text_tokenEnd J K (n + 1) 108 L S M = ai_iload 1 109 (am_run (c_Text_tokenEnd s_Text_numberEnd s_Text_nameEnd s_Text_stringEnd s_Text_at s_Text_isWordByte) k_Text_tokenEnd J K n) K 108 L S M := by rfl
theorem r_Text_tokenEnd_109 {s_Text_numberEnd : aS} {s_Text_nameEnd : aS} {s_Text_stringEnd : aS} {s_Text_at : aS} {s_Text_isWordByte : aS} {J : aJ} {K : aR} {n : Nat} {L : aL} {S : List Value} {M : aM} : am_run (c_Text_tokenEnd s_Text_numberEnd s_Text_nameEnd s_Text_stringEnd s_Text_at s_Text_isWordByte) k_Text_tokenEnd J K (n + 1) 109 L S M = ai_const 1 110 (am_run (c_Text_tokenEnd s_Text_numberEnd s_Text_nameEnd s_Text_stringEnd s_Text_at s_Text_isWordByte) k_Text_tokenEnd J K n) K 109 L S M := by rfl
theorem r_Text_tokenEnd_110 {s_Text_numberEnd : aS} {s_Text_nameEnd : aS} {s_Text_stringEnd : aS} {s_Text_at : aS} {s_Text_isWordByte : aS} {J : aJ} {K : aR} {n : Nat} {L : aL} {S : List Value} {M : aM} : am_run (c_Text_tokenEnd s_Text_numberEnd s_Text_nameEnd s_Text_stringEnd s_Text_at s_Text_isWordByte) k_Text_tokenEnd J K (n + 1) 110 L S M = ai_iadd 111 (am_run (c_Text_tokenEnd s_Text_numberEnd s_Text_nameEnd s_Text_stringEnd s_Text_at s_Text_isWordByte) k_Text_tokenEnd J K n) K 110 L S M := by rfl
theorem r_Text_tokenEnd_111 {s_Text_numberEnd : aS} {s_Text_nameEnd : aS} {s_Text_stringEnd : aS} {s_Text_at : aS} {s_Text_isWordByte : aS} {J : aJ} {K : aR} {n : Nat} {L : aL} {S : List Value} {M : aM} : am_run (c_Text_tokenEnd s_Text_numberEnd s_Text_nameEnd s_Text_stringEnd s_Text_at s_Text_isWordByte) k_Text_tokenEnd J K (n + 1) 111 L S M = ai_iret (am_run (c_Text_tokenEnd s_Text_numberEnd s_Text_nameEnd s_Text_stringEnd s_Text_at s_Text_isWordByte) k_Text_tokenEnd J K n) K 111 L S M := by rfl
theorem r_Text_tokenEnd_112 {s_Text_numberEnd : aS} {s_Text_nameEnd : aS} {s_Text_stringEnd : aS} {s_Text_at : aS} {s_Text_isWordByte : aS} {J : aJ} {K : aR} {n : Nat} {L : aL} {S : List Value} {M : aM} : am_run (c_Text_tokenEnd s_Text_numberEnd s_Text_nameEnd s_Text_stringEnd s_Text_at s_Text_isWordByte) k_Text_tokenEnd J K (n + 1) 112 L S M = ai_const (-1) 113 (am_run (c_Text_tokenEnd s_Text_numberEnd s_Text_nameEnd s_Text_stringEnd s_Text_at s_Text_isWordByte) k_Text_tokenEnd J K n) K 112 L S M := by rfl
theorem r_Text_tokenEnd_113 {s_Text_numberEnd : aS} {s_Text_nameEnd : aS} {s_Text_stringEnd : aS} {s_Text_at : aS} {s_Text_isWordByte : aS} {J : aJ} {K : aR} {n : Nat} {L : aL} {S : List Value} {M : aM} : am_run (c_Text_tokenEnd s_Text_numberEnd s_Text_nameEnd s_Text_stringEnd s_Text_at s_Text_isWordByte) k_Text_tokenEnd J K (n + 1) 113 L S M = ai_iret (am_run (c_Text_tokenEnd s_Text_numberEnd s_Text_nameEnd s_Text_stringEnd s_Text_at s_Text_isWordByte) k_Text_tokenEnd J K n) K 113 L S M := by rfl
theorem r_Text_tokenEnd_114 {s_Text_numberEnd : aS} {s_Text_nameEnd : aS} {s_Text_stringEnd : aS} {s_Text_at : aS} {s_Text_isWordByte : aS} {J : aJ} {K : aR} {n : Nat} {L : aL} {S : List Value} {M : aM} : am_run (c_Text_tokenEnd s_Text_numberEnd s_Text_nameEnd s_Text_stringEnd s_Text_at s_Text_isWordByte) k_Text_tokenEnd J K (n + 1) 114 L S M = ai_iload 1 115 (am_run (c_Text_tokenEnd s_Text_numberEnd s_Text_nameEnd s_Text_stringEnd s_Text_at s_Text_isWordByte) k_Text_tokenEnd J K n) K 114 L S M := by rfl
theorem r_Text_tokenEnd_115 {s_Text_numberEnd : aS} {s_Text_nameEnd : aS} {s_Text_stringEnd : aS} {s_Text_at : aS} {s_Text_isWordByte : aS} {J : aJ} {K : aR} {n : Nat} {L : aL} {S : List Value} {M : aM} : am_run (c_Text_tokenEnd s_Text_numberEnd s_Text_nameEnd s_Text_stringEnd s_Text_at s_Text_isWordByte) k_Text_tokenEnd J K (n + 1) 115 L S M = ai_const 1 116 (am_run (c_Text_tokenEnd s_Text_numberEnd s_Text_nameEnd s_Text_stringEnd s_Text_at s_Text_isWordByte) k_Text_tokenEnd J K n) K 115 L S M := by rfl
theorem r_Text_tokenEnd_116 {s_Text_numberEnd : aS} {s_Text_nameEnd : aS} {s_Text_stringEnd : aS} {s_Text_at : aS} {s_Text_isWordByte : aS} {J : aJ} {K : aR} {n : Nat} {L : aL} {S : List Value} {M : aM} : am_run (c_Text_tokenEnd s_Text_numberEnd s_Text_nameEnd s_Text_stringEnd s_Text_at s_Text_isWordByte) k_Text_tokenEnd J K (n + 1) 116 L S M = ai_iadd 117 (am_run (c_Text_tokenEnd s_Text_numberEnd s_Text_nameEnd s_Text_stringEnd s_Text_at s_Text_isWordByte) k_Text_tokenEnd J K n) K 116 L S M := by rfl
theorem r_Text_tokenEnd_117 {s_Text_numberEnd : aS} {s_Text_nameEnd : aS} {s_Text_stringEnd : aS} {s_Text_at : aS} {s_Text_isWordByte : aS} {J : aJ} {K : aR} {n : Nat} {L : aL} {S : List Value} {M : aM} : am_run (c_Text_tokenEnd s_Text_numberEnd s_Text_nameEnd s_Text_stringEnd s_Text_at s_Text_isWordByte) k_Text_tokenEnd J K (n + 1) 117 L S M = ai_iret (am_run (c_Text_tokenEnd s_Text_numberEnd s_Text_nameEnd s_Text_stringEnd s_Text_at s_Text_isWordByte) k_Text_tokenEnd J K n) K 117 L S M := by rfl
def c_Text_numberEnd (s_Text_at : aS) (s_Text_wordEnd : aS) (s_Text_isDigit : aS) : List (Nat × aI) := [
  (0, ai_aload 0 1),
  (1, ai_iload 1 2),
  (2, ai_callv2 2 s_Text_at 5),
  (5, ai_const 45 7),
  (7, ai_cmpne 16 10),
  (10, ai_iload 1 11),
  (11, ai_const 1 12),
  (12, ai_iadd 13),
  (13, ai_goto 17),
  (16, ai_iload 1 17),
  (17, ai_istore 2 18),
  (18, ai_aload 0 19),
  (19, ai_iload 2 20),
  (20, ai_callv2 2 s_Text_wordEnd 23),
  (23, ai_istore 3 24),
  (24, ai_iload 3 25),
  (25, ai_iload 2 26),
  (26, ai_isub 27),
  (27, ai_const 1 28),
  (28, ai_cmplt 39 31),
  (31, ai_iload 3 32),
  (32, ai_iload 2 33),
  (33, ai_isub 34),
  (34, ai_const 9 36),
  (36, ai_cmple 41 39),
  (39, ai_const (-1) 40),
  (40, ai_iret),
  (41, ai_iload 2 42),
  (42, ai_istore 4 44),
  (44, ai_iload 4 46),
  (46, ai_iload 3 47),
  (47, ai_cmpge 70 50),
  (50, ai_aload 0 51),
  (51, ai_iload 4 53),
  (53, ai_callv2 2 s_Text_at 56),
  (56, ai_calls1 s_Text_isDigit 59),
  (59, ai_ifne 64 62),
  (62, ai_const (-1) 63),
  (63, ai_iret),
  (64, ai_iinc 4 1 67),
  (67, ai_goto 44),
  (70, ai_iload 3 71),
  (71, ai_iret)]
set_option maxRecDepth 100000 in
set_option maxHeartbeats 4000000 in
theorem tb_Text_numberEnd {G : aG} {d : Nat} {s_Text_at : aS} {d_Text_at : Nat} (h_Text_at : am_Sp G Y_Text_at d_Text_at s_Text_at) (l_Text_at : d_Text_at < d) {s_Text_wordEnd : aS} {d_Text_wordEnd : Nat} (h_Text_wordEnd : am_Sp G Y_Text_wordEnd d_Text_wordEnd s_Text_wordEnd) (l_Text_wordEnd : d_Text_wordEnd < d) {s_Text_isDigit : aS} {d_Text_isDigit : Nat} (h_Text_isDigit : am_Sp G Y_Text_isDigit d_Text_isDigit s_Text_isDigit) (l_Text_isDigit : d_Text_isDigit < d) : am_tab G Y_Text_numberEnd d (c_Text_numberEnd s_Text_at s_Text_wordEnd s_Text_isDigit) := by
  intro K p e s m args below meth c C
  exact ⟨as_aload_n C (pc := 0) (q := 0) (by decide +kernel) rfl rfl,
    as_iload_n C (pc := 1) (q := 1) (by decide +kernel) rfl rfl,
    as_callv2 C (pc := 2) h_Text_at (T := T_Text) (N := 2) rfl w_270 w_71 w_269 w_5 w_267 hy_Text_at (am_rm_of l_Text_at (by decide)) (by decide +kernel) rfl,
    as_bipush C (pc := 5) (n := 45) (by decide +kernel) (by decide +kernel) rfl,
    as_cmpne C (pc := 7) (off := 9) (by decide +kernel) (by decide) rfl,
    as_iload_n C (pc := 10) (q := 1) (by decide +kernel) rfl rfl,
    as_iconst C (pc := 11) (n := 1) (by decide +kernel) (by decide +kernel) rfl,
    as_iadd C (pc := 12) (by decide +kernel) rfl,
    as_goto C (pc := 13) (off := 4) (by decide +kernel) (by decide),
    as_iload_n C (pc := 16) (q := 1) (by decide +kernel) rfl rfl,
    as_istore_n C (pc := 17) (q := 2) (by decide +kernel) rfl (by decide) rfl,
    as_aload_n C (pc := 18) (q := 0) (by decide +kernel) rfl rfl,
    as_iload_n C (pc := 19) (q := 2) (by decide +kernel) rfl rfl,
    as_callv2 C (pc := 20) h_Text_wordEnd (T := T_Text) (N := 2) rfl w_292 w_71 w_291 w_9 w_289 hy_Text_wordEnd (am_rm_of l_Text_wordEnd (by decide)) (by decide +kernel) rfl,
    as_istore_n C (pc := 23) (q := 3) (by decide +kernel) rfl (by decide) rfl,
    as_iload_n C (pc := 24) (q := 3) (by decide +kernel) rfl rfl,
    as_iload_n C (pc := 25) (q := 2) (by decide +kernel) rfl rfl,
    as_isub C (pc := 26) (by decide +kernel) rfl,
    as_iconst C (pc := 27) (n := 1) (by decide +kernel) (by decide +kernel) rfl,
    as_cmplt C (pc := 28) (off := 11) (by decide +kernel) (by decide) rfl,
    as_iload_n C (pc := 31) (q := 3) (by decide +kernel) rfl rfl,
    as_iload_n C (pc := 32) (q := 2) (by decide +kernel) rfl rfl,
    as_isub C (pc := 33) (by decide +kernel) rfl,
    as_bipush C (pc := 34) (n := 9) (by decide +kernel) (by decide +kernel) rfl,
    as_cmple C (pc := 36) (off := 5) (by decide +kernel) (by decide) rfl,
    as_iconst C (pc := 39) (n := (-1)) (by decide +kernel) (by decide +kernel) rfl,
    as_iret C (pc := 40) rfl (by decide +kernel),
    as_iload_n C (pc := 41) (q := 2) (by decide +kernel) rfl rfl,
    as_istore C (pc := 42) (k := 4) (by decide +kernel) (by decide) rfl,
    as_iload C (pc := 44) (k := 4) (by decide +kernel) rfl,
    as_iload_n C (pc := 46) (q := 3) (by decide +kernel) rfl rfl,
    as_cmpge C (pc := 47) (off := 23) (by decide +kernel) (by decide) rfl,
    as_aload_n C (pc := 50) (q := 0) (by decide +kernel) rfl rfl,
    as_iload C (pc := 51) (k := 4) (by decide +kernel) rfl,
    as_callv2 C (pc := 53) h_Text_at (T := T_Text) (N := 2) rfl w_270 w_71 w_269 w_5 w_267 hy_Text_at (am_rm_of l_Text_at (by decide)) (by decide +kernel) rfl,
    as_calls1 C (pc := 56) h_Text_isDigit w_277 w_71 w_276 w_275 hy_Text_isDigit (am_rm_of l_Text_isDigit (by decide)) (by decide +kernel) rfl,
    as_ifne C (pc := 59) (off := 5) (by decide +kernel) (by decide) rfl,
    as_iconst C (pc := 62) (n := (-1)) (by decide +kernel) (by decide +kernel) rfl,
    as_iret C (pc := 63) rfl (by decide +kernel),
    as_iinc C (pc := 64) (k := 4) (n := 1) (by decide +kernel) (by decide +kernel) (by decide) rfl,
    as_goto C (pc := 67) (off := (-23)) (by decide +kernel) (by decide),
    as_iload_n C (pc := 70) (q := 3) (by decide +kernel) rfl rfl,
    as_iret C (pc := 71) rfl (by decide +kernel), trivial⟩
abbrev k_Text_numberEnd : List Nat := [44]
theorem q_Text_numberEnd_44 {s_Text_at : aS} {s_Text_wordEnd : aS} {s_Text_isDigit : aS} : am_at (c_Text_numberEnd s_Text_at s_Text_wordEnd s_Text_isDigit) 44 = ai_iload 4 46 := by rfl
theorem r_Text_numberEnd_0 {s_Text_at : aS} {s_Text_wordEnd : aS} {s_Text_isDigit : aS} {J : aJ} {K : aR} {n : Nat} {L : aL} {S : List Value} {M : aM} : am_run (c_Text_numberEnd s_Text_at s_Text_wordEnd s_Text_isDigit) k_Text_numberEnd J K (n + 1) 0 L S M = ai_aload 0 1 (am_run (c_Text_numberEnd s_Text_at s_Text_wordEnd s_Text_isDigit) k_Text_numberEnd J K n) K 0 L S M := by rfl
theorem r_Text_numberEnd_1 {s_Text_at : aS} {s_Text_wordEnd : aS} {s_Text_isDigit : aS} {J : aJ} {K : aR} {n : Nat} {L : aL} {S : List Value} {M : aM} : am_run (c_Text_numberEnd s_Text_at s_Text_wordEnd s_Text_isDigit) k_Text_numberEnd J K (n + 1) 1 L S M = ai_iload 1 2 (am_run (c_Text_numberEnd s_Text_at s_Text_wordEnd s_Text_isDigit) k_Text_numberEnd J K n) K 1 L S M := by rfl
theorem r_Text_numberEnd_2 {s_Text_at : aS} {s_Text_wordEnd : aS} {s_Text_isDigit : aS} {J : aJ} {K : aR} {n : Nat} {L : aL} {S : List Value} {M : aM} : am_run (c_Text_numberEnd s_Text_at s_Text_wordEnd s_Text_isDigit) k_Text_numberEnd J K (n + 1) 2 L S M = ai_callv2 2 s_Text_at 5 (am_run (c_Text_numberEnd s_Text_at s_Text_wordEnd s_Text_isDigit) k_Text_numberEnd J K n) K 2 L S M := by rfl
theorem r_Text_numberEnd_5 {s_Text_at : aS} {s_Text_wordEnd : aS} {s_Text_isDigit : aS} {J : aJ} {K : aR} {n : Nat} {L : aL} {S : List Value} {M : aM} : am_run (c_Text_numberEnd s_Text_at s_Text_wordEnd s_Text_isDigit) k_Text_numberEnd J K (n + 1) 5 L S M = ai_const 45 7 (am_run (c_Text_numberEnd s_Text_at s_Text_wordEnd s_Text_isDigit) k_Text_numberEnd J K n) K 5 L S M := by rfl
theorem r_Text_numberEnd_7 {s_Text_at : aS} {s_Text_wordEnd : aS} {s_Text_isDigit : aS} {J : aJ} {K : aR} {n : Nat} {L : aL} {S : List Value} {M : aM} : am_run (c_Text_numberEnd s_Text_at s_Text_wordEnd s_Text_isDigit) k_Text_numberEnd J K (n + 1) 7 L S M = ai_cmpne 16 10 (am_run (c_Text_numberEnd s_Text_at s_Text_wordEnd s_Text_isDigit) k_Text_numberEnd J K n) K 7 L S M := by rfl
theorem r_Text_numberEnd_10 {s_Text_at : aS} {s_Text_wordEnd : aS} {s_Text_isDigit : aS} {J : aJ} {K : aR} {n : Nat} {L : aL} {S : List Value} {M : aM} : am_run (c_Text_numberEnd s_Text_at s_Text_wordEnd s_Text_isDigit) k_Text_numberEnd J K (n + 1) 10 L S M = ai_iload 1 11 (am_run (c_Text_numberEnd s_Text_at s_Text_wordEnd s_Text_isDigit) k_Text_numberEnd J K n) K 10 L S M := by rfl
theorem r_Text_numberEnd_11 {s_Text_at : aS} {s_Text_wordEnd : aS} {s_Text_isDigit : aS} {J : aJ} {K : aR} {n : Nat} {L : aL} {S : List Value} {M : aM} : am_run (c_Text_numberEnd s_Text_at s_Text_wordEnd s_Text_isDigit) k_Text_numberEnd J K (n + 1) 11 L S M = ai_const 1 12 (am_run (c_Text_numberEnd s_Text_at s_Text_wordEnd s_Text_isDigit) k_Text_numberEnd J K n) K 11 L S M := by rfl
theorem r_Text_numberEnd_12 {s_Text_at : aS} {s_Text_wordEnd : aS} {s_Text_isDigit : aS} {J : aJ} {K : aR} {n : Nat} {L : aL} {S : List Value} {M : aM} : am_run (c_Text_numberEnd s_Text_at s_Text_wordEnd s_Text_isDigit) k_Text_numberEnd J K (n + 1) 12 L S M = ai_iadd 13 (am_run (c_Text_numberEnd s_Text_at s_Text_wordEnd s_Text_isDigit) k_Text_numberEnd J K n) K 12 L S M := by rfl
theorem r_Text_numberEnd_13 {s_Text_at : aS} {s_Text_wordEnd : aS} {s_Text_isDigit : aS} {J : aJ} {K : aR} {n : Nat} {L : aL} {S : List Value} {M : aM} : am_run (c_Text_numberEnd s_Text_at s_Text_wordEnd s_Text_isDigit) k_Text_numberEnd J K (n + 1) 13 L S M = ai_goto 17 (am_run (c_Text_numberEnd s_Text_at s_Text_wordEnd s_Text_isDigit) k_Text_numberEnd J K n) K 13 L S M := by rfl
theorem r_Text_numberEnd_16 {s_Text_at : aS} {s_Text_wordEnd : aS} {s_Text_isDigit : aS} {J : aJ} {K : aR} {n : Nat} {L : aL} {S : List Value} {M : aM} : am_run (c_Text_numberEnd s_Text_at s_Text_wordEnd s_Text_isDigit) k_Text_numberEnd J K (n + 1) 16 L S M = ai_iload 1 17 (am_run (c_Text_numberEnd s_Text_at s_Text_wordEnd s_Text_isDigit) k_Text_numberEnd J K n) K 16 L S M := by rfl
theorem r_Text_numberEnd_17 {s_Text_at : aS} {s_Text_wordEnd : aS} {s_Text_isDigit : aS} {J : aJ} {K : aR} {n : Nat} {L : aL} {S : List Value} {M : aM} : am_run (c_Text_numberEnd s_Text_at s_Text_wordEnd s_Text_isDigit) k_Text_numberEnd J K (n + 1) 17 L S M = ai_istore 2 18 (am_run (c_Text_numberEnd s_Text_at s_Text_wordEnd s_Text_isDigit) k_Text_numberEnd J K n) K 17 L S M := by rfl
theorem r_Text_numberEnd_18 {s_Text_at : aS} {s_Text_wordEnd : aS} {s_Text_isDigit : aS} {J : aJ} {K : aR} {n : Nat} {L : aL} {S : List Value} {M : aM} : am_run (c_Text_numberEnd s_Text_at s_Text_wordEnd s_Text_isDigit) k_Text_numberEnd J K (n + 1) 18 L S M = ai_aload 0 19 (am_run (c_Text_numberEnd s_Text_at s_Text_wordEnd s_Text_isDigit) k_Text_numberEnd J K n) K 18 L S M := by rfl
theorem r_Text_numberEnd_19 {s_Text_at : aS} {s_Text_wordEnd : aS} {s_Text_isDigit : aS} {J : aJ} {K : aR} {n : Nat} {L : aL} {S : List Value} {M : aM} : am_run (c_Text_numberEnd s_Text_at s_Text_wordEnd s_Text_isDigit) k_Text_numberEnd J K (n + 1) 19 L S M = ai_iload 2 20 (am_run (c_Text_numberEnd s_Text_at s_Text_wordEnd s_Text_isDigit) k_Text_numberEnd J K n) K 19 L S M := by rfl
theorem r_Text_numberEnd_20 {s_Text_at : aS} {s_Text_wordEnd : aS} {s_Text_isDigit : aS} {J : aJ} {K : aR} {n : Nat} {L : aL} {S : List Value} {M : aM} : am_run (c_Text_numberEnd s_Text_at s_Text_wordEnd s_Text_isDigit) k_Text_numberEnd J K (n + 1) 20 L S M = ai_callv2 2 s_Text_wordEnd 23 (am_run (c_Text_numberEnd s_Text_at s_Text_wordEnd s_Text_isDigit) k_Text_numberEnd J K n) K 20 L S M := by rfl
theorem r_Text_numberEnd_23 {s_Text_at : aS} {s_Text_wordEnd : aS} {s_Text_isDigit : aS} {J : aJ} {K : aR} {n : Nat} {L : aL} {S : List Value} {M : aM} : am_run (c_Text_numberEnd s_Text_at s_Text_wordEnd s_Text_isDigit) k_Text_numberEnd J K (n + 1) 23 L S M = ai_istore 3 24 (am_run (c_Text_numberEnd s_Text_at s_Text_wordEnd s_Text_isDigit) k_Text_numberEnd J K n) K 23 L S M := by rfl
theorem r_Text_numberEnd_24 {s_Text_at : aS} {s_Text_wordEnd : aS} {s_Text_isDigit : aS} {J : aJ} {K : aR} {n : Nat} {L : aL} {S : List Value} {M : aM} : am_run (c_Text_numberEnd s_Text_at s_Text_wordEnd s_Text_isDigit) k_Text_numberEnd J K (n + 1) 24 L S M = ai_iload 3 25 (am_run (c_Text_numberEnd s_Text_at s_Text_wordEnd s_Text_isDigit) k_Text_numberEnd J K n) K 24 L S M := by rfl
theorem r_Text_numberEnd_25 {s_Text_at : aS} {s_Text_wordEnd : aS} {s_Text_isDigit : aS} {J : aJ} {K : aR} {n : Nat} {L : aL} {S : List Value} {M : aM} : am_run (c_Text_numberEnd s_Text_at s_Text_wordEnd s_Text_isDigit) k_Text_numberEnd J K (n + 1) 25 L S M = ai_iload 2 26 (am_run (c_Text_numberEnd s_Text_at s_Text_wordEnd s_Text_isDigit) k_Text_numberEnd J K n) K 25 L S M := by rfl
theorem r_Text_numberEnd_26 {s_Text_at : aS} {s_Text_wordEnd : aS} {s_Text_isDigit : aS} {J : aJ} {K : aR} {n : Nat} {L : aL} {S : List Value} {M : aM} : am_run (c_Text_numberEnd s_Text_at s_Text_wordEnd s_Text_isDigit) k_Text_numberEnd J K (n + 1) 26 L S M = ai_isub 27 (am_run (c_Text_numberEnd s_Text_at s_Text_wordEnd s_Text_isDigit) k_Text_numberEnd J K n) K 26 L S M := by rfl
theorem r_Text_numberEnd_27 {s_Text_at : aS} {s_Text_wordEnd : aS} {s_Text_isDigit : aS} {J : aJ} {K : aR} {n : Nat} {L : aL} {S : List Value} {M : aM} : am_run (c_Text_numberEnd s_Text_at s_Text_wordEnd s_Text_isDigit) k_Text_numberEnd J K (n + 1) 27 L S M = ai_const 1 28 (am_run (c_Text_numberEnd s_Text_at s_Text_wordEnd s_Text_isDigit) k_Text_numberEnd J K n) K 27 L S M := by rfl
theorem r_Text_numberEnd_28 {s_Text_at : aS} {s_Text_wordEnd : aS} {s_Text_isDigit : aS} {J : aJ} {K : aR} {n : Nat} {L : aL} {S : List Value} {M : aM} : am_run (c_Text_numberEnd s_Text_at s_Text_wordEnd s_Text_isDigit) k_Text_numberEnd J K (n + 1) 28 L S M = ai_cmplt 39 31 (am_run (c_Text_numberEnd s_Text_at s_Text_wordEnd s_Text_isDigit) k_Text_numberEnd J K n) K 28 L S M := by rfl
theorem r_Text_numberEnd_31 {s_Text_at : aS} {s_Text_wordEnd : aS} {s_Text_isDigit : aS} {J : aJ} {K : aR} {n : Nat} {L : aL} {S : List Value} {M : aM} : am_run (c_Text_numberEnd s_Text_at s_Text_wordEnd s_Text_isDigit) k_Text_numberEnd J K (n + 1) 31 L S M = ai_iload 3 32 (am_run (c_Text_numberEnd s_Text_at s_Text_wordEnd s_Text_isDigit) k_Text_numberEnd J K n) K 31 L S M := by rfl
theorem r_Text_numberEnd_32 {s_Text_at : aS} {s_Text_wordEnd : aS} {s_Text_isDigit : aS} {J : aJ} {K : aR} {n : Nat} {L : aL} {S : List Value} {M : aM} : am_run (c_Text_numberEnd s_Text_at s_Text_wordEnd s_Text_isDigit) k_Text_numberEnd J K (n + 1) 32 L S M = ai_iload 2 33 (am_run (c_Text_numberEnd s_Text_at s_Text_wordEnd s_Text_isDigit) k_Text_numberEnd J K n) K 32 L S M := by rfl
theorem r_Text_numberEnd_33 {s_Text_at : aS} {s_Text_wordEnd : aS} {s_Text_isDigit : aS} {J : aJ} {K : aR} {n : Nat} {L : aL} {S : List Value} {M : aM} : am_run (c_Text_numberEnd s_Text_at s_Text_wordEnd s_Text_isDigit) k_Text_numberEnd J K (n + 1) 33 L S M = ai_isub 34 (am_run (c_Text_numberEnd s_Text_at s_Text_wordEnd s_Text_isDigit) k_Text_numberEnd J K n) K 33 L S M := by rfl
theorem r_Text_numberEnd_34 {s_Text_at : aS} {s_Text_wordEnd : aS} {s_Text_isDigit : aS} {J : aJ} {K : aR} {n : Nat} {L : aL} {S : List Value} {M : aM} : am_run (c_Text_numberEnd s_Text_at s_Text_wordEnd s_Text_isDigit) k_Text_numberEnd J K (n + 1) 34 L S M = ai_const 9 36 (am_run (c_Text_numberEnd s_Text_at s_Text_wordEnd s_Text_isDigit) k_Text_numberEnd J K n) K 34 L S M := by rfl
theorem r_Text_numberEnd_36 {s_Text_at : aS} {s_Text_wordEnd : aS} {s_Text_isDigit : aS} {J : aJ} {K : aR} {n : Nat} {L : aL} {S : List Value} {M : aM} : am_run (c_Text_numberEnd s_Text_at s_Text_wordEnd s_Text_isDigit) k_Text_numberEnd J K (n + 1) 36 L S M = ai_cmple 41 39 (am_run (c_Text_numberEnd s_Text_at s_Text_wordEnd s_Text_isDigit) k_Text_numberEnd J K n) K 36 L S M := by rfl
theorem r_Text_numberEnd_39 {s_Text_at : aS} {s_Text_wordEnd : aS} {s_Text_isDigit : aS} {J : aJ} {K : aR} {n : Nat} {L : aL} {S : List Value} {M : aM} : am_run (c_Text_numberEnd s_Text_at s_Text_wordEnd s_Text_isDigit) k_Text_numberEnd J K (n + 1) 39 L S M = ai_const (-1) 40 (am_run (c_Text_numberEnd s_Text_at s_Text_wordEnd s_Text_isDigit) k_Text_numberEnd J K n) K 39 L S M := by rfl
theorem r_Text_numberEnd_40 {s_Text_at : aS} {s_Text_wordEnd : aS} {s_Text_isDigit : aS} {J : aJ} {K : aR} {n : Nat} {L : aL} {S : List Value} {M : aM} : am_run (c_Text_numberEnd s_Text_at s_Text_wordEnd s_Text_isDigit) k_Text_numberEnd J K (n + 1) 40 L S M = ai_iret (am_run (c_Text_numberEnd s_Text_at s_Text_wordEnd s_Text_isDigit) k_Text_numberEnd J K n) K 40 L S M := by rfl
theorem r_Text_numberEnd_41 {s_Text_at : aS} {s_Text_wordEnd : aS} {s_Text_isDigit : aS} {J : aJ} {K : aR} {n : Nat} {L : aL} {S : List Value} {M : aM} : am_run (c_Text_numberEnd s_Text_at s_Text_wordEnd s_Text_isDigit) k_Text_numberEnd J K (n + 1) 41 L S M = ai_iload 2 42 (am_run (c_Text_numberEnd s_Text_at s_Text_wordEnd s_Text_isDigit) k_Text_numberEnd J K n) K 41 L S M := by rfl
theorem r_Text_numberEnd_42 {s_Text_at : aS} {s_Text_wordEnd : aS} {s_Text_isDigit : aS} {J : aJ} {K : aR} {n : Nat} {L : aL} {S : List Value} {M : aM} : am_run (c_Text_numberEnd s_Text_at s_Text_wordEnd s_Text_isDigit) k_Text_numberEnd J K (n + 1) 42 L S M = ai_istore 4 44 (am_run (c_Text_numberEnd s_Text_at s_Text_wordEnd s_Text_isDigit) k_Text_numberEnd J K n) K 42 L S M := by rfl
theorem r_Text_numberEnd_44 {s_Text_at : aS} {s_Text_wordEnd : aS} {s_Text_isDigit : aS} {J : aJ} {K : aR} {n : Nat} {L : aL} {S : List Value} {M : aM} : am_run (c_Text_numberEnd s_Text_at s_Text_wordEnd s_Text_isDigit) k_Text_numberEnd J K (n + 1) 44 L S M = J 44 L S M := by rfl
theorem r_Text_numberEnd_46 {s_Text_at : aS} {s_Text_wordEnd : aS} {s_Text_isDigit : aS} {J : aJ} {K : aR} {n : Nat} {L : aL} {S : List Value} {M : aM} : am_run (c_Text_numberEnd s_Text_at s_Text_wordEnd s_Text_isDigit) k_Text_numberEnd J K (n + 1) 46 L S M = ai_iload 3 47 (am_run (c_Text_numberEnd s_Text_at s_Text_wordEnd s_Text_isDigit) k_Text_numberEnd J K n) K 46 L S M := by rfl
theorem r_Text_numberEnd_47 {s_Text_at : aS} {s_Text_wordEnd : aS} {s_Text_isDigit : aS} {J : aJ} {K : aR} {n : Nat} {L : aL} {S : List Value} {M : aM} : am_run (c_Text_numberEnd s_Text_at s_Text_wordEnd s_Text_isDigit) k_Text_numberEnd J K (n + 1) 47 L S M = ai_cmpge 70 50 (am_run (c_Text_numberEnd s_Text_at s_Text_wordEnd s_Text_isDigit) k_Text_numberEnd J K n) K 47 L S M := by rfl
theorem r_Text_numberEnd_50 {s_Text_at : aS} {s_Text_wordEnd : aS} {s_Text_isDigit : aS} {J : aJ} {K : aR} {n : Nat} {L : aL} {S : List Value} {M : aM} : am_run (c_Text_numberEnd s_Text_at s_Text_wordEnd s_Text_isDigit) k_Text_numberEnd J K (n + 1) 50 L S M = ai_aload 0 51 (am_run (c_Text_numberEnd s_Text_at s_Text_wordEnd s_Text_isDigit) k_Text_numberEnd J K n) K 50 L S M := by rfl
theorem r_Text_numberEnd_51 {s_Text_at : aS} {s_Text_wordEnd : aS} {s_Text_isDigit : aS} {J : aJ} {K : aR} {n : Nat} {L : aL} {S : List Value} {M : aM} : am_run (c_Text_numberEnd s_Text_at s_Text_wordEnd s_Text_isDigit) k_Text_numberEnd J K (n + 1) 51 L S M = ai_iload 4 53 (am_run (c_Text_numberEnd s_Text_at s_Text_wordEnd s_Text_isDigit) k_Text_numberEnd J K n) K 51 L S M := by rfl
theorem r_Text_numberEnd_53 {s_Text_at : aS} {s_Text_wordEnd : aS} {s_Text_isDigit : aS} {J : aJ} {K : aR} {n : Nat} {L : aL} {S : List Value} {M : aM} : am_run (c_Text_numberEnd s_Text_at s_Text_wordEnd s_Text_isDigit) k_Text_numberEnd J K (n + 1) 53 L S M = ai_callv2 2 s_Text_at 56 (am_run (c_Text_numberEnd s_Text_at s_Text_wordEnd s_Text_isDigit) k_Text_numberEnd J K n) K 53 L S M := by rfl
theorem r_Text_numberEnd_56 {s_Text_at : aS} {s_Text_wordEnd : aS} {s_Text_isDigit : aS} {J : aJ} {K : aR} {n : Nat} {L : aL} {S : List Value} {M : aM} : am_run (c_Text_numberEnd s_Text_at s_Text_wordEnd s_Text_isDigit) k_Text_numberEnd J K (n + 1) 56 L S M = ai_calls1 s_Text_isDigit 59 (am_run (c_Text_numberEnd s_Text_at s_Text_wordEnd s_Text_isDigit) k_Text_numberEnd J K n) K 56 L S M := by rfl
theorem r_Text_numberEnd_59 {s_Text_at : aS} {s_Text_wordEnd : aS} {s_Text_isDigit : aS} {J : aJ} {K : aR} {n : Nat} {L : aL} {S : List Value} {M : aM} : am_run (c_Text_numberEnd s_Text_at s_Text_wordEnd s_Text_isDigit) k_Text_numberEnd J K (n + 1) 59 L S M = ai_ifne 64 62 (am_run (c_Text_numberEnd s_Text_at s_Text_wordEnd s_Text_isDigit) k_Text_numberEnd J K n) K 59 L S M := by rfl
theorem r_Text_numberEnd_62 {s_Text_at : aS} {s_Text_wordEnd : aS} {s_Text_isDigit : aS} {J : aJ} {K : aR} {n : Nat} {L : aL} {S : List Value} {M : aM} : am_run (c_Text_numberEnd s_Text_at s_Text_wordEnd s_Text_isDigit) k_Text_numberEnd J K (n + 1) 62 L S M = ai_const (-1) 63 (am_run (c_Text_numberEnd s_Text_at s_Text_wordEnd s_Text_isDigit) k_Text_numberEnd J K n) K 62 L S M := by rfl
theorem r_Text_numberEnd_63 {s_Text_at : aS} {s_Text_wordEnd : aS} {s_Text_isDigit : aS} {J : aJ} {K : aR} {n : Nat} {L : aL} {S : List Value} {M : aM} : am_run (c_Text_numberEnd s_Text_at s_Text_wordEnd s_Text_isDigit) k_Text_numberEnd J K (n + 1) 63 L S M = ai_iret (am_run (c_Text_numberEnd s_Text_at s_Text_wordEnd s_Text_isDigit) k_Text_numberEnd J K n) K 63 L S M := by rfl
theorem r_Text_numberEnd_64 {s_Text_at : aS} {s_Text_wordEnd : aS} {s_Text_isDigit : aS} {J : aJ} {K : aR} {n : Nat} {L : aL} {S : List Value} {M : aM} : am_run (c_Text_numberEnd s_Text_at s_Text_wordEnd s_Text_isDigit) k_Text_numberEnd J K (n + 1) 64 L S M = ai_iinc 4 1 67 (am_run (c_Text_numberEnd s_Text_at s_Text_wordEnd s_Text_isDigit) k_Text_numberEnd J K n) K 64 L S M := by rfl
theorem r_Text_numberEnd_67 {s_Text_at : aS} {s_Text_wordEnd : aS} {s_Text_isDigit : aS} {J : aJ} {K : aR} {n : Nat} {L : aL} {S : List Value} {M : aM} : am_run (c_Text_numberEnd s_Text_at s_Text_wordEnd s_Text_isDigit) k_Text_numberEnd J K (n + 1) 67 L S M = ai_goto 44 (am_run (c_Text_numberEnd s_Text_at s_Text_wordEnd s_Text_isDigit) k_Text_numberEnd J K n) K 67 L S M := by rfl
theorem r_Text_numberEnd_70 {s_Text_at : aS} {s_Text_wordEnd : aS} {s_Text_isDigit : aS} {J : aJ} {K : aR} {n : Nat} {L : aL} {S : List Value} {M : aM} : am_run (c_Text_numberEnd s_Text_at s_Text_wordEnd s_Text_isDigit) k_Text_numberEnd J K (n + 1) 70 L S M = ai_iload 3 71 (am_run (c_Text_numberEnd s_Text_at s_Text_wordEnd s_Text_isDigit) k_Text_numberEnd J K n) K 70 L S M := by rfl
theorem r_Text_numberEnd_71 {s_Text_at : aS} {s_Text_wordEnd : aS} {s_Text_isDigit : aS} {J : aJ} {K : aR} {n : Nat} {L : aL} {S : List Value} {M : aM} : am_run (c_Text_numberEnd s_Text_at s_Text_wordEnd s_Text_isDigit) k_Text_numberEnd J K (n + 1) 71 L S M = ai_iret (am_run (c_Text_numberEnd s_Text_at s_Text_wordEnd s_Text_isDigit) k_Text_numberEnd J K n) K 71 L S M := by rfl
def c_Text_nameEnd (s_Text_wordEnd : aS) : List (Nat × aI) := [
  (0, ai_aload 0 1),
  (1, ai_iload 1 2),
  (2, ai_callv2 2 s_Text_wordEnd 5),
  (5, ai_istore 2 6),
  (6, ai_iload 2 7),
  (7, ai_iload 1 8),
  (8, ai_isub 9),
  (9, ai_const 12 11),
  (11, ai_cmpgt 18 14),
  (14, ai_iload 2 15),
  (15, ai_goto 19),
  (18, ai_const (-1) 19),
  (19, ai_iret)]
set_option maxRecDepth 100000 in
set_option maxHeartbeats 4000000 in
theorem tb_Text_nameEnd {G : aG} {d : Nat} {s_Text_wordEnd : aS} {d_Text_wordEnd : Nat} (h_Text_wordEnd : am_Sp G Y_Text_wordEnd d_Text_wordEnd s_Text_wordEnd) (l_Text_wordEnd : d_Text_wordEnd < d) : am_tab G Y_Text_nameEnd d (c_Text_nameEnd s_Text_wordEnd) := by
  intro K p e s m args below meth c C
  exact ⟨as_aload_n C (pc := 0) (q := 0) (by decide +kernel) rfl rfl,
    as_iload_n C (pc := 1) (q := 1) (by decide +kernel) rfl rfl,
    as_callv2 C (pc := 2) h_Text_wordEnd (T := T_Text) (N := 2) rfl w_292 w_71 w_291 w_9 w_289 hy_Text_wordEnd (am_rm_of l_Text_wordEnd (by decide)) (by decide +kernel) rfl,
    as_istore_n C (pc := 5) (q := 2) (by decide +kernel) rfl (by decide) rfl,
    as_iload_n C (pc := 6) (q := 2) (by decide +kernel) rfl rfl,
    as_iload_n C (pc := 7) (q := 1) (by decide +kernel) rfl rfl,
    as_isub C (pc := 8) (by decide +kernel) rfl,
    as_bipush C (pc := 9) (n := 12) (by decide +kernel) (by decide +kernel) rfl,
    as_cmpgt C (pc := 11) (off := 7) (by decide +kernel) (by decide) rfl,
    as_iload_n C (pc := 14) (q := 2) (by decide +kernel) rfl rfl,
    as_goto C (pc := 15) (off := 4) (by decide +kernel) (by decide),
    as_iconst C (pc := 18) (n := (-1)) (by decide +kernel) (by decide +kernel) rfl,
    as_iret C (pc := 19) rfl (by decide +kernel), trivial⟩
abbrev k_Text_nameEnd : List Nat := []
theorem r_Text_nameEnd_0 {s_Text_wordEnd : aS} {J : aJ} {K : aR} {n : Nat} {L : aL} {S : List Value} {M : aM} : am_run (c_Text_nameEnd s_Text_wordEnd) k_Text_nameEnd J K (n + 1) 0 L S M = ai_aload 0 1 (am_run (c_Text_nameEnd s_Text_wordEnd) k_Text_nameEnd J K n) K 0 L S M := by rfl
theorem r_Text_nameEnd_1 {s_Text_wordEnd : aS} {J : aJ} {K : aR} {n : Nat} {L : aL} {S : List Value} {M : aM} : am_run (c_Text_nameEnd s_Text_wordEnd) k_Text_nameEnd J K (n + 1) 1 L S M = ai_iload 1 2 (am_run (c_Text_nameEnd s_Text_wordEnd) k_Text_nameEnd J K n) K 1 L S M := by rfl
theorem r_Text_nameEnd_2 {s_Text_wordEnd : aS} {J : aJ} {K : aR} {n : Nat} {L : aL} {S : List Value} {M : aM} : am_run (c_Text_nameEnd s_Text_wordEnd) k_Text_nameEnd J K (n + 1) 2 L S M = ai_callv2 2 s_Text_wordEnd 5 (am_run (c_Text_nameEnd s_Text_wordEnd) k_Text_nameEnd J K n) K 2 L S M := by rfl
theorem r_Text_nameEnd_5 {s_Text_wordEnd : aS} {J : aJ} {K : aR} {n : Nat} {L : aL} {S : List Value} {M : aM} : am_run (c_Text_nameEnd s_Text_wordEnd) k_Text_nameEnd J K (n + 1) 5 L S M = ai_istore 2 6 (am_run (c_Text_nameEnd s_Text_wordEnd) k_Text_nameEnd J K n) K 5 L S M := by rfl
theorem r_Text_nameEnd_6 {s_Text_wordEnd : aS} {J : aJ} {K : aR} {n : Nat} {L : aL} {S : List Value} {M : aM} : am_run (c_Text_nameEnd s_Text_wordEnd) k_Text_nameEnd J K (n + 1) 6 L S M = ai_iload 2 7 (am_run (c_Text_nameEnd s_Text_wordEnd) k_Text_nameEnd J K n) K 6 L S M := by rfl
theorem r_Text_nameEnd_7 {s_Text_wordEnd : aS} {J : aJ} {K : aR} {n : Nat} {L : aL} {S : List Value} {M : aM} : am_run (c_Text_nameEnd s_Text_wordEnd) k_Text_nameEnd J K (n + 1) 7 L S M = ai_iload 1 8 (am_run (c_Text_nameEnd s_Text_wordEnd) k_Text_nameEnd J K n) K 7 L S M := by rfl
theorem r_Text_nameEnd_8 {s_Text_wordEnd : aS} {J : aJ} {K : aR} {n : Nat} {L : aL} {S : List Value} {M : aM} : am_run (c_Text_nameEnd s_Text_wordEnd) k_Text_nameEnd J K (n + 1) 8 L S M = ai_isub 9 (am_run (c_Text_nameEnd s_Text_wordEnd) k_Text_nameEnd J K n) K 8 L S M := by rfl
theorem r_Text_nameEnd_9 {s_Text_wordEnd : aS} {J : aJ} {K : aR} {n : Nat} {L : aL} {S : List Value} {M : aM} : am_run (c_Text_nameEnd s_Text_wordEnd) k_Text_nameEnd J K (n + 1) 9 L S M = ai_const 12 11 (am_run (c_Text_nameEnd s_Text_wordEnd) k_Text_nameEnd J K n) K 9 L S M := by rfl
theorem r_Text_nameEnd_11 {s_Text_wordEnd : aS} {J : aJ} {K : aR} {n : Nat} {L : aL} {S : List Value} {M : aM} : am_run (c_Text_nameEnd s_Text_wordEnd) k_Text_nameEnd J K (n + 1) 11 L S M = ai_cmpgt 18 14 (am_run (c_Text_nameEnd s_Text_wordEnd) k_Text_nameEnd J K n) K 11 L S M := by rfl
theorem r_Text_nameEnd_14 {s_Text_wordEnd : aS} {J : aJ} {K : aR} {n : Nat} {L : aL} {S : List Value} {M : aM} : am_run (c_Text_nameEnd s_Text_wordEnd) k_Text_nameEnd J K (n + 1) 14 L S M = ai_iload 2 15 (am_run (c_Text_nameEnd s_Text_wordEnd) k_Text_nameEnd J K n) K 14 L S M := by rfl
theorem r_Text_nameEnd_15 {s_Text_wordEnd : aS} {J : aJ} {K : aR} {n : Nat} {L : aL} {S : List Value} {M : aM} : am_run (c_Text_nameEnd s_Text_wordEnd) k_Text_nameEnd J K (n + 1) 15 L S M = ai_goto 19 (am_run (c_Text_nameEnd s_Text_wordEnd) k_Text_nameEnd J K n) K 15 L S M := by rfl
theorem r_Text_nameEnd_18 {s_Text_wordEnd : aS} {J : aJ} {K : aR} {n : Nat} {L : aL} {S : List Value} {M : aM} : am_run (c_Text_nameEnd s_Text_wordEnd) k_Text_nameEnd J K (n + 1) 18 L S M = ai_const (-1) 19 (am_run (c_Text_nameEnd s_Text_wordEnd) k_Text_nameEnd J K n) K 18 L S M := by rfl
theorem r_Text_nameEnd_19 {s_Text_wordEnd : aS} {J : aJ} {K : aR} {n : Nat} {L : aL} {S : List Value} {M : aM} : am_run (c_Text_nameEnd s_Text_wordEnd) k_Text_nameEnd J K (n + 1) 19 L S M = ai_iret (am_run (c_Text_nameEnd s_Text_wordEnd) k_Text_nameEnd J K n) K 19 L S M := by rfl
def c_Text_wordEnd (s_Text_at : aS) (s_Text_isWordByte : aS) : List (Nat × aI) := [
  (0, ai_iload 1 1),
  (1, ai_istore 2 2),
  (2, ai_iload 2 3),
  (3, ai_aload 0 4),
  (4, ai_getf 2 1 7),
  (7, ai_cmpge 27 10),
  (10, ai_aload 0 11),
  (11, ai_iload 2 12),
  (12, ai_callv2 2 s_Text_at 15),
  (15, ai_calls1 s_Text_isWordByte 18),
  (18, ai_ifeq 27 21),
  (21, ai_iinc 2 1 24),
  (24, ai_goto 2),
  (27, ai_iload 2 28),
  (28, ai_iret)]
set_option maxRecDepth 100000 in
set_option maxHeartbeats 4000000 in
theorem tb_Text_wordEnd {G : aG} {d : Nat} {s_Text_at : aS} {d_Text_at : Nat} (h_Text_at : am_Sp G Y_Text_at d_Text_at s_Text_at) (l_Text_at : d_Text_at < d) {s_Text_isWordByte : aS} {d_Text_isWordByte : Nat} (h_Text_isWordByte : am_Sp G Y_Text_isWordByte d_Text_isWordByte s_Text_isWordByte) (l_Text_isWordByte : d_Text_isWordByte < d) : am_tab G Y_Text_wordEnd d (c_Text_wordEnd s_Text_at s_Text_isWordByte) := by
  intro K p e s m args below meth c C
  exact ⟨as_iload_n C (pc := 0) (q := 1) (by decide +kernel) rfl rfl,
    as_istore_n C (pc := 1) (q := 2) (by decide +kernel) rfl (by decide) rfl,
    as_iload_n C (pc := 2) (q := 2) (by decide +kernel) rfl rfl,
    as_aload_n C (pc := 3) (q := 0) (by decide +kernel) rfl rfl,
    as_getf C (pc := 4) (T := T_Text) (N := 2) rfl in_Text (by decide) rfl w_99 (by decide +kernel) rfl,
    as_cmpge C (pc := 7) (off := 20) (by decide +kernel) (by decide) rfl,
    as_aload_n C (pc := 10) (q := 0) (by decide +kernel) rfl rfl,
    as_iload_n C (pc := 11) (q := 2) (by decide +kernel) rfl rfl,
    as_callv2 C (pc := 12) h_Text_at (T := T_Text) (N := 2) rfl w_270 w_71 w_269 w_5 w_267 hy_Text_at (am_rm_of l_Text_at (by decide)) (by decide +kernel) rfl,
    as_calls1 C (pc := 15) h_Text_isWordByte w_280 w_71 w_279 w_278 hy_Text_isWordByte (am_rm_of l_Text_isWordByte (by decide)) (by decide +kernel) rfl,
    as_ifeq C (pc := 18) (off := 9) (by decide +kernel) (by decide) rfl,
    as_iinc C (pc := 21) (k := 2) (n := 1) (by decide +kernel) (by decide +kernel) (by decide) rfl,
    as_goto C (pc := 24) (off := (-22)) (by decide +kernel) (by decide),
    as_iload_n C (pc := 27) (q := 2) (by decide +kernel) rfl rfl,
    as_iret C (pc := 28) rfl (by decide +kernel), trivial⟩
abbrev k_Text_wordEnd : List Nat := [2]
theorem q_Text_wordEnd_2 {s_Text_at : aS} {s_Text_isWordByte : aS} : am_at (c_Text_wordEnd s_Text_at s_Text_isWordByte) 2 = ai_iload 2 3 := by rfl
theorem r_Text_wordEnd_0 {s_Text_at : aS} {s_Text_isWordByte : aS} {J : aJ} {K : aR} {n : Nat} {L : aL} {S : List Value} {M : aM} : am_run (c_Text_wordEnd s_Text_at s_Text_isWordByte) k_Text_wordEnd J K (n + 1) 0 L S M = ai_iload 1 1 (am_run (c_Text_wordEnd s_Text_at s_Text_isWordByte) k_Text_wordEnd J K n) K 0 L S M := by rfl
theorem r_Text_wordEnd_1 {s_Text_at : aS} {s_Text_isWordByte : aS} {J : aJ} {K : aR} {n : Nat} {L : aL} {S : List Value} {M : aM} : am_run (c_Text_wordEnd s_Text_at s_Text_isWordByte) k_Text_wordEnd J K (n + 1) 1 L S M = ai_istore 2 2 (am_run (c_Text_wordEnd s_Text_at s_Text_isWordByte) k_Text_wordEnd J K n) K 1 L S M := by rfl
theorem r_Text_wordEnd_2 {s_Text_at : aS} {s_Text_isWordByte : aS} {J : aJ} {K : aR} {n : Nat} {L : aL} {S : List Value} {M : aM} : am_run (c_Text_wordEnd s_Text_at s_Text_isWordByte) k_Text_wordEnd J K (n + 1) 2 L S M = J 2 L S M := by rfl
theorem r_Text_wordEnd_3 {s_Text_at : aS} {s_Text_isWordByte : aS} {J : aJ} {K : aR} {n : Nat} {L : aL} {S : List Value} {M : aM} : am_run (c_Text_wordEnd s_Text_at s_Text_isWordByte) k_Text_wordEnd J K (n + 1) 3 L S M = ai_aload 0 4 (am_run (c_Text_wordEnd s_Text_at s_Text_isWordByte) k_Text_wordEnd J K n) K 3 L S M := by rfl
theorem r_Text_wordEnd_4 {s_Text_at : aS} {s_Text_isWordByte : aS} {J : aJ} {K : aR} {n : Nat} {L : aL} {S : List Value} {M : aM} : am_run (c_Text_wordEnd s_Text_at s_Text_isWordByte) k_Text_wordEnd J K (n + 1) 4 L S M = ai_getf 2 1 7 (am_run (c_Text_wordEnd s_Text_at s_Text_isWordByte) k_Text_wordEnd J K n) K 4 L S M := by rfl
theorem r_Text_wordEnd_7 {s_Text_at : aS} {s_Text_isWordByte : aS} {J : aJ} {K : aR} {n : Nat} {L : aL} {S : List Value} {M : aM} : am_run (c_Text_wordEnd s_Text_at s_Text_isWordByte) k_Text_wordEnd J K (n + 1) 7 L S M = ai_cmpge 27 10 (am_run (c_Text_wordEnd s_Text_at s_Text_isWordByte) k_Text_wordEnd J K n) K 7 L S M := by rfl
theorem r_Text_wordEnd_10 {s_Text_at : aS} {s_Text_isWordByte : aS} {J : aJ} {K : aR} {n : Nat} {L : aL} {S : List Value} {M : aM} : am_run (c_Text_wordEnd s_Text_at s_Text_isWordByte) k_Text_wordEnd J K (n + 1) 10 L S M = ai_aload 0 11 (am_run (c_Text_wordEnd s_Text_at s_Text_isWordByte) k_Text_wordEnd J K n) K 10 L S M := by rfl
theorem r_Text_wordEnd_11 {s_Text_at : aS} {s_Text_isWordByte : aS} {J : aJ} {K : aR} {n : Nat} {L : aL} {S : List Value} {M : aM} : am_run (c_Text_wordEnd s_Text_at s_Text_isWordByte) k_Text_wordEnd J K (n + 1) 11 L S M = ai_iload 2 12 (am_run (c_Text_wordEnd s_Text_at s_Text_isWordByte) k_Text_wordEnd J K n) K 11 L S M := by rfl
theorem r_Text_wordEnd_12 {s_Text_at : aS} {s_Text_isWordByte : aS} {J : aJ} {K : aR} {n : Nat} {L : aL} {S : List Value} {M : aM} : am_run (c_Text_wordEnd s_Text_at s_Text_isWordByte) k_Text_wordEnd J K (n + 1) 12 L S M = ai_callv2 2 s_Text_at 15 (am_run (c_Text_wordEnd s_Text_at s_Text_isWordByte) k_Text_wordEnd J K n) K 12 L S M := by rfl
theorem r_Text_wordEnd_15 {s_Text_at : aS} {s_Text_isWordByte : aS} {J : aJ} {K : aR} {n : Nat} {L : aL} {S : List Value} {M : aM} : am_run (c_Text_wordEnd s_Text_at s_Text_isWordByte) k_Text_wordEnd J K (n + 1) 15 L S M = ai_calls1 s_Text_isWordByte 18 (am_run (c_Text_wordEnd s_Text_at s_Text_isWordByte) k_Text_wordEnd J K n) K 15 L S M := by rfl
theorem r_Text_wordEnd_18 {s_Text_at : aS} {s_Text_isWordByte : aS} {J : aJ} {K : aR} {n : Nat} {L : aL} {S : List Value} {M : aM} : am_run (c_Text_wordEnd s_Text_at s_Text_isWordByte) k_Text_wordEnd J K (n + 1) 18 L S M = ai_ifeq 27 21 (am_run (c_Text_wordEnd s_Text_at s_Text_isWordByte) k_Text_wordEnd J K n) K 18 L S M := by rfl
theorem r_Text_wordEnd_21 {s_Text_at : aS} {s_Text_isWordByte : aS} {J : aJ} {K : aR} {n : Nat} {L : aL} {S : List Value} {M : aM} : am_run (c_Text_wordEnd s_Text_at s_Text_isWordByte) k_Text_wordEnd J K (n + 1) 21 L S M = ai_iinc 2 1 24 (am_run (c_Text_wordEnd s_Text_at s_Text_isWordByte) k_Text_wordEnd J K n) K 21 L S M := by rfl
theorem r_Text_wordEnd_24 {s_Text_at : aS} {s_Text_isWordByte : aS} {J : aJ} {K : aR} {n : Nat} {L : aL} {S : List Value} {M : aM} : am_run (c_Text_wordEnd s_Text_at s_Text_isWordByte) k_Text_wordEnd J K (n + 1) 24 L S M = ai_goto 2 (am_run (c_Text_wordEnd s_Text_at s_Text_isWordByte) k_Text_wordEnd J K n) K 24 L S M := by rfl
theorem r_Text_wordEnd_27 {s_Text_at : aS} {s_Text_isWordByte : aS} {J : aJ} {K : aR} {n : Nat} {L : aL} {S : List Value} {M : aM} : am_run (c_Text_wordEnd s_Text_at s_Text_isWordByte) k_Text_wordEnd J K (n + 1) 27 L S M = ai_iload 2 28 (am_run (c_Text_wordEnd s_Text_at s_Text_isWordByte) k_Text_wordEnd J K n) K 27 L S M := by rfl
theorem r_Text_wordEnd_28 {s_Text_at : aS} {s_Text_isWordByte : aS} {J : aJ} {K : aR} {n : Nat} {L : aL} {S : List Value} {M : aM} : am_run (c_Text_wordEnd s_Text_at s_Text_isWordByte) k_Text_wordEnd J K (n + 1) 28 L S M = ai_iret (am_run (c_Text_wordEnd s_Text_at s_Text_isWordByte) k_Text_wordEnd J K n) K 28 L S M := by rfl
def c_Text_stringEnd (s_Text_at : aS) : List (Nat × aI) := [
  (0, ai_iload 1 1),
  (1, ai_const 1 2),
  (2, ai_iadd 3),
  (3, ai_istore 2 4),
  (4, ai_const 0 5),
  (5, ai_istore 3 6),
  (6, ai_iload 3 7),
  (7, ai_const 20 9),
  (9, ai_cmpgt 88 12),
  (12, ai_aload 0 13),
  (13, ai_iload 2 14),
  (14, ai_callv2 2 s_Text_at 17),
  (17, ai_istore 4 19),
  (19, ai_iload 4 21),
  (21, ai_const 34 23),
  (23, ai_cmpne 30 26),
  (26, ai_iload 2 27),
  (27, ai_const 1 28),
  (28, ai_iadd 29),
  (29, ai_iret),
  (30, ai_iload 4 32),
  (32, ai_const 92 34),
  (34, ai_cmpne 63 37),
  (37, ai_iinc 2 1 40),
  (40, ai_aload 0 41),
  (41, ai_iload 2 42),
  (42, ai_callv2 2 s_Text_at 45),
  (45, ai_istore 4 47),
  (47, ai_iload 4 49),
  (49, ai_const 34 51),
  (51, ai_cmpeq 63 54),
  (54, ai_iload 4 56),
  (56, ai_const 92 58),
  (58, ai_cmpeq 63 61),
  (61, ai_const (-1) 62),
  (62, ai_iret),
  (63, ai_iload 4 65),
  (65, ai_const 32 67),
  (67, ai_cmplt 77 70),
  (70, ai_iload 4 72),
  (72, ai_const 126 74),
  (74, ai_cmple 79 77),
  (77, ai_const (-1) 78),
  (78, ai_iret),
  (79, ai_iinc 2 1 82),
  (82, ai_iinc 3 1 85),
  (85, ai_goto 6),
  (88, ai_const (-1) 89),
  (89, ai_iret)]
set_option maxRecDepth 100000 in
set_option maxHeartbeats 4000000 in
theorem tb_Text_stringEnd {G : aG} {d : Nat} {s_Text_at : aS} {d_Text_at : Nat} (h_Text_at : am_Sp G Y_Text_at d_Text_at s_Text_at) (l_Text_at : d_Text_at < d) : am_tab G Y_Text_stringEnd d (c_Text_stringEnd s_Text_at) := by
  intro K p e s m args below meth c C
  exact ⟨as_iload_n C (pc := 0) (q := 1) (by decide +kernel) rfl rfl,
    as_iconst C (pc := 1) (n := 1) (by decide +kernel) (by decide +kernel) rfl,
    as_iadd C (pc := 2) (by decide +kernel) rfl,
    as_istore_n C (pc := 3) (q := 2) (by decide +kernel) rfl (by decide) rfl,
    as_iconst C (pc := 4) (n := 0) (by decide +kernel) (by decide +kernel) rfl,
    as_istore_n C (pc := 5) (q := 3) (by decide +kernel) rfl (by decide) rfl,
    as_iload_n C (pc := 6) (q := 3) (by decide +kernel) rfl rfl,
    as_bipush C (pc := 7) (n := 20) (by decide +kernel) (by decide +kernel) rfl,
    as_cmpgt C (pc := 9) (off := 79) (by decide +kernel) (by decide) rfl,
    as_aload_n C (pc := 12) (q := 0) (by decide +kernel) rfl rfl,
    as_iload_n C (pc := 13) (q := 2) (by decide +kernel) rfl rfl,
    as_callv2 C (pc := 14) h_Text_at (T := T_Text) (N := 2) rfl w_270 w_71 w_269 w_5 w_267 hy_Text_at (am_rm_of l_Text_at (by decide)) (by decide +kernel) rfl,
    as_istore C (pc := 17) (k := 4) (by decide +kernel) (by decide) rfl,
    as_iload C (pc := 19) (k := 4) (by decide +kernel) rfl,
    as_bipush C (pc := 21) (n := 34) (by decide +kernel) (by decide +kernel) rfl,
    as_cmpne C (pc := 23) (off := 7) (by decide +kernel) (by decide) rfl,
    as_iload_n C (pc := 26) (q := 2) (by decide +kernel) rfl rfl,
    as_iconst C (pc := 27) (n := 1) (by decide +kernel) (by decide +kernel) rfl,
    as_iadd C (pc := 28) (by decide +kernel) rfl,
    as_iret C (pc := 29) rfl (by decide +kernel),
    as_iload C (pc := 30) (k := 4) (by decide +kernel) rfl,
    as_bipush C (pc := 32) (n := 92) (by decide +kernel) (by decide +kernel) rfl,
    as_cmpne C (pc := 34) (off := 29) (by decide +kernel) (by decide) rfl,
    as_iinc C (pc := 37) (k := 2) (n := 1) (by decide +kernel) (by decide +kernel) (by decide) rfl,
    as_aload_n C (pc := 40) (q := 0) (by decide +kernel) rfl rfl,
    as_iload_n C (pc := 41) (q := 2) (by decide +kernel) rfl rfl,
    as_callv2 C (pc := 42) h_Text_at (T := T_Text) (N := 2) rfl w_270 w_71 w_269 w_5 w_267 hy_Text_at (am_rm_of l_Text_at (by decide)) (by decide +kernel) rfl,
    as_istore C (pc := 45) (k := 4) (by decide +kernel) (by decide) rfl,
    as_iload C (pc := 47) (k := 4) (by decide +kernel) rfl,
    as_bipush C (pc := 49) (n := 34) (by decide +kernel) (by decide +kernel) rfl,
    as_cmpeq C (pc := 51) (off := 12) (by decide +kernel) (by decide) rfl,
    as_iload C (pc := 54) (k := 4) (by decide +kernel) rfl,
    as_bipush C (pc := 56) (n := 92) (by decide +kernel) (by decide +kernel) rfl,
    as_cmpeq C (pc := 58) (off := 5) (by decide +kernel) (by decide) rfl,
    as_iconst C (pc := 61) (n := (-1)) (by decide +kernel) (by decide +kernel) rfl,
    as_iret C (pc := 62) rfl (by decide +kernel),
    as_iload C (pc := 63) (k := 4) (by decide +kernel) rfl,
    as_bipush C (pc := 65) (n := 32) (by decide +kernel) (by decide +kernel) rfl,
    as_cmplt C (pc := 67) (off := 10) (by decide +kernel) (by decide) rfl,
    as_iload C (pc := 70) (k := 4) (by decide +kernel) rfl,
    as_bipush C (pc := 72) (n := 126) (by decide +kernel) (by decide +kernel) rfl,
    as_cmple C (pc := 74) (off := 5) (by decide +kernel) (by decide) rfl,
    as_iconst C (pc := 77) (n := (-1)) (by decide +kernel) (by decide +kernel) rfl,
    as_iret C (pc := 78) rfl (by decide +kernel),
    as_iinc C (pc := 79) (k := 2) (n := 1) (by decide +kernel) (by decide +kernel) (by decide) rfl,
    as_iinc C (pc := 82) (k := 3) (n := 1) (by decide +kernel) (by decide +kernel) (by decide) rfl,
    as_goto C (pc := 85) (off := (-79)) (by decide +kernel) (by decide),
    as_iconst C (pc := 88) (n := (-1)) (by decide +kernel) (by decide +kernel) rfl,
    as_iret C (pc := 89) rfl (by decide +kernel), trivial⟩
abbrev k_Text_stringEnd : List Nat := [6]
theorem q_Text_stringEnd_6 {s_Text_at : aS} : am_at (c_Text_stringEnd s_Text_at) 6 = ai_iload 3 7 := by rfl
theorem r_Text_stringEnd_0 {s_Text_at : aS} {J : aJ} {K : aR} {n : Nat} {L : aL} {S : List Value} {M : aM} : am_run (c_Text_stringEnd s_Text_at) k_Text_stringEnd J K (n + 1) 0 L S M = ai_iload 1 1 (am_run (c_Text_stringEnd s_Text_at) k_Text_stringEnd J K n) K 0 L S M := by rfl
theorem r_Text_stringEnd_1 {s_Text_at : aS} {J : aJ} {K : aR} {n : Nat} {L : aL} {S : List Value} {M : aM} : am_run (c_Text_stringEnd s_Text_at) k_Text_stringEnd J K (n + 1) 1 L S M = ai_const 1 2 (am_run (c_Text_stringEnd s_Text_at) k_Text_stringEnd J K n) K 1 L S M := by rfl
theorem r_Text_stringEnd_2 {s_Text_at : aS} {J : aJ} {K : aR} {n : Nat} {L : aL} {S : List Value} {M : aM} : am_run (c_Text_stringEnd s_Text_at) k_Text_stringEnd J K (n + 1) 2 L S M = ai_iadd 3 (am_run (c_Text_stringEnd s_Text_at) k_Text_stringEnd J K n) K 2 L S M := by rfl
theorem r_Text_stringEnd_3 {s_Text_at : aS} {J : aJ} {K : aR} {n : Nat} {L : aL} {S : List Value} {M : aM} : am_run (c_Text_stringEnd s_Text_at) k_Text_stringEnd J K (n + 1) 3 L S M = ai_istore 2 4 (am_run (c_Text_stringEnd s_Text_at) k_Text_stringEnd J K n) K 3 L S M := by rfl
theorem r_Text_stringEnd_4 {s_Text_at : aS} {J : aJ} {K : aR} {n : Nat} {L : aL} {S : List Value} {M : aM} : am_run (c_Text_stringEnd s_Text_at) k_Text_stringEnd J K (n + 1) 4 L S M = ai_const 0 5 (am_run (c_Text_stringEnd s_Text_at) k_Text_stringEnd J K n) K 4 L S M := by rfl
theorem r_Text_stringEnd_5 {s_Text_at : aS} {J : aJ} {K : aR} {n : Nat} {L : aL} {S : List Value} {M : aM} : am_run (c_Text_stringEnd s_Text_at) k_Text_stringEnd J K (n + 1) 5 L S M = ai_istore 3 6 (am_run (c_Text_stringEnd s_Text_at) k_Text_stringEnd J K n) K 5 L S M := by rfl
theorem r_Text_stringEnd_6 {s_Text_at : aS} {J : aJ} {K : aR} {n : Nat} {L : aL} {S : List Value} {M : aM} : am_run (c_Text_stringEnd s_Text_at) k_Text_stringEnd J K (n + 1) 6 L S M = J 6 L S M := by rfl
theorem r_Text_stringEnd_7 {s_Text_at : aS} {J : aJ} {K : aR} {n : Nat} {L : aL} {S : List Value} {M : aM} : am_run (c_Text_stringEnd s_Text_at) k_Text_stringEnd J K (n + 1) 7 L S M = ai_const 20 9 (am_run (c_Text_stringEnd s_Text_at) k_Text_stringEnd J K n) K 7 L S M := by rfl
theorem r_Text_stringEnd_9 {s_Text_at : aS} {J : aJ} {K : aR} {n : Nat} {L : aL} {S : List Value} {M : aM} : am_run (c_Text_stringEnd s_Text_at) k_Text_stringEnd J K (n + 1) 9 L S M = ai_cmpgt 88 12 (am_run (c_Text_stringEnd s_Text_at) k_Text_stringEnd J K n) K 9 L S M := by rfl
theorem r_Text_stringEnd_12 {s_Text_at : aS} {J : aJ} {K : aR} {n : Nat} {L : aL} {S : List Value} {M : aM} : am_run (c_Text_stringEnd s_Text_at) k_Text_stringEnd J K (n + 1) 12 L S M = ai_aload 0 13 (am_run (c_Text_stringEnd s_Text_at) k_Text_stringEnd J K n) K 12 L S M := by rfl
theorem r_Text_stringEnd_13 {s_Text_at : aS} {J : aJ} {K : aR} {n : Nat} {L : aL} {S : List Value} {M : aM} : am_run (c_Text_stringEnd s_Text_at) k_Text_stringEnd J K (n + 1) 13 L S M = ai_iload 2 14 (am_run (c_Text_stringEnd s_Text_at) k_Text_stringEnd J K n) K 13 L S M := by rfl
theorem r_Text_stringEnd_14 {s_Text_at : aS} {J : aJ} {K : aR} {n : Nat} {L : aL} {S : List Value} {M : aM} : am_run (c_Text_stringEnd s_Text_at) k_Text_stringEnd J K (n + 1) 14 L S M = ai_callv2 2 s_Text_at 17 (am_run (c_Text_stringEnd s_Text_at) k_Text_stringEnd J K n) K 14 L S M := by rfl
theorem r_Text_stringEnd_17 {s_Text_at : aS} {J : aJ} {K : aR} {n : Nat} {L : aL} {S : List Value} {M : aM} : am_run (c_Text_stringEnd s_Text_at) k_Text_stringEnd J K (n + 1) 17 L S M = ai_istore 4 19 (am_run (c_Text_stringEnd s_Text_at) k_Text_stringEnd J K n) K 17 L S M := by rfl
theorem r_Text_stringEnd_19 {s_Text_at : aS} {J : aJ} {K : aR} {n : Nat} {L : aL} {S : List Value} {M : aM} : am_run (c_Text_stringEnd s_Text_at) k_Text_stringEnd J K (n + 1) 19 L S M = ai_iload 4 21 (am_run (c_Text_stringEnd s_Text_at) k_Text_stringEnd J K n) K 19 L S M := by rfl
theorem r_Text_stringEnd_21 {s_Text_at : aS} {J : aJ} {K : aR} {n : Nat} {L : aL} {S : List Value} {M : aM} : am_run (c_Text_stringEnd s_Text_at) k_Text_stringEnd J K (n + 1) 21 L S M = ai_const 34 23 (am_run (c_Text_stringEnd s_Text_at) k_Text_stringEnd J K n) K 21 L S M := by rfl
theorem r_Text_stringEnd_23 {s_Text_at : aS} {J : aJ} {K : aR} {n : Nat} {L : aL} {S : List Value} {M : aM} : am_run (c_Text_stringEnd s_Text_at) k_Text_stringEnd J K (n + 1) 23 L S M = ai_cmpne 30 26 (am_run (c_Text_stringEnd s_Text_at) k_Text_stringEnd J K n) K 23 L S M := by rfl
theorem r_Text_stringEnd_26 {s_Text_at : aS} {J : aJ} {K : aR} {n : Nat} {L : aL} {S : List Value} {M : aM} : am_run (c_Text_stringEnd s_Text_at) k_Text_stringEnd J K (n + 1) 26 L S M = ai_iload 2 27 (am_run (c_Text_stringEnd s_Text_at) k_Text_stringEnd J K n) K 26 L S M := by rfl
theorem r_Text_stringEnd_27 {s_Text_at : aS} {J : aJ} {K : aR} {n : Nat} {L : aL} {S : List Value} {M : aM} : am_run (c_Text_stringEnd s_Text_at) k_Text_stringEnd J K (n + 1) 27 L S M = ai_const 1 28 (am_run (c_Text_stringEnd s_Text_at) k_Text_stringEnd J K n) K 27 L S M := by rfl
theorem r_Text_stringEnd_28 {s_Text_at : aS} {J : aJ} {K : aR} {n : Nat} {L : aL} {S : List Value} {M : aM} : am_run (c_Text_stringEnd s_Text_at) k_Text_stringEnd J K (n + 1) 28 L S M = ai_iadd 29 (am_run (c_Text_stringEnd s_Text_at) k_Text_stringEnd J K n) K 28 L S M := by rfl
theorem r_Text_stringEnd_29 {s_Text_at : aS} {J : aJ} {K : aR} {n : Nat} {L : aL} {S : List Value} {M : aM} : am_run (c_Text_stringEnd s_Text_at) k_Text_stringEnd J K (n + 1) 29 L S M = ai_iret (am_run (c_Text_stringEnd s_Text_at) k_Text_stringEnd J K n) K 29 L S M := by rfl
theorem r_Text_stringEnd_30 {s_Text_at : aS} {J : aJ} {K : aR} {n : Nat} {L : aL} {S : List Value} {M : aM} : am_run (c_Text_stringEnd s_Text_at) k_Text_stringEnd J K (n + 1) 30 L S M = ai_iload 4 32 (am_run (c_Text_stringEnd s_Text_at) k_Text_stringEnd J K n) K 30 L S M := by rfl
theorem r_Text_stringEnd_32 {s_Text_at : aS} {J : aJ} {K : aR} {n : Nat} {L : aL} {S : List Value} {M : aM} : am_run (c_Text_stringEnd s_Text_at) k_Text_stringEnd J K (n + 1) 32 L S M = ai_const 92 34 (am_run (c_Text_stringEnd s_Text_at) k_Text_stringEnd J K n) K 32 L S M := by rfl
theorem r_Text_stringEnd_34 {s_Text_at : aS} {J : aJ} {K : aR} {n : Nat} {L : aL} {S : List Value} {M : aM} : am_run (c_Text_stringEnd s_Text_at) k_Text_stringEnd J K (n + 1) 34 L S M = ai_cmpne 63 37 (am_run (c_Text_stringEnd s_Text_at) k_Text_stringEnd J K n) K 34 L S M := by rfl
theorem r_Text_stringEnd_37 {s_Text_at : aS} {J : aJ} {K : aR} {n : Nat} {L : aL} {S : List Value} {M : aM} : am_run (c_Text_stringEnd s_Text_at) k_Text_stringEnd J K (n + 1) 37 L S M = ai_iinc 2 1 40 (am_run (c_Text_stringEnd s_Text_at) k_Text_stringEnd J K n) K 37 L S M := by rfl
theorem r_Text_stringEnd_40 {s_Text_at : aS} {J : aJ} {K : aR} {n : Nat} {L : aL} {S : List Value} {M : aM} : am_run (c_Text_stringEnd s_Text_at) k_Text_stringEnd J K (n + 1) 40 L S M = ai_aload 0 41 (am_run (c_Text_stringEnd s_Text_at) k_Text_stringEnd J K n) K 40 L S M := by rfl
theorem r_Text_stringEnd_41 {s_Text_at : aS} {J : aJ} {K : aR} {n : Nat} {L : aL} {S : List Value} {M : aM} : am_run (c_Text_stringEnd s_Text_at) k_Text_stringEnd J K (n + 1) 41 L S M = ai_iload 2 42 (am_run (c_Text_stringEnd s_Text_at) k_Text_stringEnd J K n) K 41 L S M := by rfl
theorem r_Text_stringEnd_42 {s_Text_at : aS} {J : aJ} {K : aR} {n : Nat} {L : aL} {S : List Value} {M : aM} : am_run (c_Text_stringEnd s_Text_at) k_Text_stringEnd J K (n + 1) 42 L S M = ai_callv2 2 s_Text_at 45 (am_run (c_Text_stringEnd s_Text_at) k_Text_stringEnd J K n) K 42 L S M := by rfl
theorem r_Text_stringEnd_45 {s_Text_at : aS} {J : aJ} {K : aR} {n : Nat} {L : aL} {S : List Value} {M : aM} : am_run (c_Text_stringEnd s_Text_at) k_Text_stringEnd J K (n + 1) 45 L S M = ai_istore 4 47 (am_run (c_Text_stringEnd s_Text_at) k_Text_stringEnd J K n) K 45 L S M := by rfl
theorem r_Text_stringEnd_47 {s_Text_at : aS} {J : aJ} {K : aR} {n : Nat} {L : aL} {S : List Value} {M : aM} : am_run (c_Text_stringEnd s_Text_at) k_Text_stringEnd J K (n + 1) 47 L S M = ai_iload 4 49 (am_run (c_Text_stringEnd s_Text_at) k_Text_stringEnd J K n) K 47 L S M := by rfl
theorem r_Text_stringEnd_49 {s_Text_at : aS} {J : aJ} {K : aR} {n : Nat} {L : aL} {S : List Value} {M : aM} : am_run (c_Text_stringEnd s_Text_at) k_Text_stringEnd J K (n + 1) 49 L S M = ai_const 34 51 (am_run (c_Text_stringEnd s_Text_at) k_Text_stringEnd J K n) K 49 L S M := by rfl
theorem r_Text_stringEnd_51 {s_Text_at : aS} {J : aJ} {K : aR} {n : Nat} {L : aL} {S : List Value} {M : aM} : am_run (c_Text_stringEnd s_Text_at) k_Text_stringEnd J K (n + 1) 51 L S M = ai_cmpeq 63 54 (am_run (c_Text_stringEnd s_Text_at) k_Text_stringEnd J K n) K 51 L S M := by rfl
theorem r_Text_stringEnd_54 {s_Text_at : aS} {J : aJ} {K : aR} {n : Nat} {L : aL} {S : List Value} {M : aM} : am_run (c_Text_stringEnd s_Text_at) k_Text_stringEnd J K (n + 1) 54 L S M = ai_iload 4 56 (am_run (c_Text_stringEnd s_Text_at) k_Text_stringEnd J K n) K 54 L S M := by rfl
theorem r_Text_stringEnd_56 {s_Text_at : aS} {J : aJ} {K : aR} {n : Nat} {L : aL} {S : List Value} {M : aM} : am_run (c_Text_stringEnd s_Text_at) k_Text_stringEnd J K (n + 1) 56 L S M = ai_const 92 58 (am_run (c_Text_stringEnd s_Text_at) k_Text_stringEnd J K n) K 56 L S M := by rfl
theorem r_Text_stringEnd_58 {s_Text_at : aS} {J : aJ} {K : aR} {n : Nat} {L : aL} {S : List Value} {M : aM} : am_run (c_Text_stringEnd s_Text_at) k_Text_stringEnd J K (n + 1) 58 L S M = ai_cmpeq 63 61 (am_run (c_Text_stringEnd s_Text_at) k_Text_stringEnd J K n) K 58 L S M := by rfl
theorem r_Text_stringEnd_61 {s_Text_at : aS} {J : aJ} {K : aR} {n : Nat} {L : aL} {S : List Value} {M : aM} : am_run (c_Text_stringEnd s_Text_at) k_Text_stringEnd J K (n + 1) 61 L S M = ai_const (-1) 62 (am_run (c_Text_stringEnd s_Text_at) k_Text_stringEnd J K n) K 61 L S M := by rfl
theorem r_Text_stringEnd_62 {s_Text_at : aS} {J : aJ} {K : aR} {n : Nat} {L : aL} {S : List Value} {M : aM} : am_run (c_Text_stringEnd s_Text_at) k_Text_stringEnd J K (n + 1) 62 L S M = ai_iret (am_run (c_Text_stringEnd s_Text_at) k_Text_stringEnd J K n) K 62 L S M := by rfl
theorem r_Text_stringEnd_63 {s_Text_at : aS} {J : aJ} {K : aR} {n : Nat} {L : aL} {S : List Value} {M : aM} : am_run (c_Text_stringEnd s_Text_at) k_Text_stringEnd J K (n + 1) 63 L S M = ai_iload 4 65 (am_run (c_Text_stringEnd s_Text_at) k_Text_stringEnd J K n) K 63 L S M := by rfl
theorem r_Text_stringEnd_65 {s_Text_at : aS} {J : aJ} {K : aR} {n : Nat} {L : aL} {S : List Value} {M : aM} : am_run (c_Text_stringEnd s_Text_at) k_Text_stringEnd J K (n + 1) 65 L S M = ai_const 32 67 (am_run (c_Text_stringEnd s_Text_at) k_Text_stringEnd J K n) K 65 L S M := by rfl
theorem r_Text_stringEnd_67 {s_Text_at : aS} {J : aJ} {K : aR} {n : Nat} {L : aL} {S : List Value} {M : aM} : am_run (c_Text_stringEnd s_Text_at) k_Text_stringEnd J K (n + 1) 67 L S M = ai_cmplt 77 70 (am_run (c_Text_stringEnd s_Text_at) k_Text_stringEnd J K n) K 67 L S M := by rfl
theorem r_Text_stringEnd_70 {s_Text_at : aS} {J : aJ} {K : aR} {n : Nat} {L : aL} {S : List Value} {M : aM} : am_run (c_Text_stringEnd s_Text_at) k_Text_stringEnd J K (n + 1) 70 L S M = ai_iload 4 72 (am_run (c_Text_stringEnd s_Text_at) k_Text_stringEnd J K n) K 70 L S M := by rfl
theorem r_Text_stringEnd_72 {s_Text_at : aS} {J : aJ} {K : aR} {n : Nat} {L : aL} {S : List Value} {M : aM} : am_run (c_Text_stringEnd s_Text_at) k_Text_stringEnd J K (n + 1) 72 L S M = ai_const 126 74 (am_run (c_Text_stringEnd s_Text_at) k_Text_stringEnd J K n) K 72 L S M := by rfl
theorem r_Text_stringEnd_74 {s_Text_at : aS} {J : aJ} {K : aR} {n : Nat} {L : aL} {S : List Value} {M : aM} : am_run (c_Text_stringEnd s_Text_at) k_Text_stringEnd J K (n + 1) 74 L S M = ai_cmple 79 77 (am_run (c_Text_stringEnd s_Text_at) k_Text_stringEnd J K n) K 74 L S M := by rfl
theorem r_Text_stringEnd_77 {s_Text_at : aS} {J : aJ} {K : aR} {n : Nat} {L : aL} {S : List Value} {M : aM} : am_run (c_Text_stringEnd s_Text_at) k_Text_stringEnd J K (n + 1) 77 L S M = ai_const (-1) 78 (am_run (c_Text_stringEnd s_Text_at) k_Text_stringEnd J K n) K 77 L S M := by rfl
theorem r_Text_stringEnd_78 {s_Text_at : aS} {J : aJ} {K : aR} {n : Nat} {L : aL} {S : List Value} {M : aM} : am_run (c_Text_stringEnd s_Text_at) k_Text_stringEnd J K (n + 1) 78 L S M = ai_iret (am_run (c_Text_stringEnd s_Text_at) k_Text_stringEnd J K n) K 78 L S M := by rfl
theorem r_Text_stringEnd_79 {s_Text_at : aS} {J : aJ} {K : aR} {n : Nat} {L : aL} {S : List Value} {M : aM} : am_run (c_Text_stringEnd s_Text_at) k_Text_stringEnd J K (n + 1) 79 L S M = ai_iinc 2 1 82 (am_run (c_Text_stringEnd s_Text_at) k_Text_stringEnd J K n) K 79 L S M := by rfl
theorem r_Text_stringEnd_82 {s_Text_at : aS} {J : aJ} {K : aR} {n : Nat} {L : aL} {S : List Value} {M : aM} : am_run (c_Text_stringEnd s_Text_at) k_Text_stringEnd J K (n + 1) 82 L S M = ai_iinc 3 1 85 (am_run (c_Text_stringEnd s_Text_at) k_Text_stringEnd J K n) K 82 L S M := by rfl
theorem r_Text_stringEnd_85 {s_Text_at : aS} {J : aJ} {K : aR} {n : Nat} {L : aL} {S : List Value} {M : aM} : am_run (c_Text_stringEnd s_Text_at) k_Text_stringEnd J K (n + 1) 85 L S M = ai_goto 6 (am_run (c_Text_stringEnd s_Text_at) k_Text_stringEnd J K n) K 85 L S M := by rfl
theorem r_Text_stringEnd_88 {s_Text_at : aS} {J : aJ} {K : aR} {n : Nat} {L : aL} {S : List Value} {M : aM} : am_run (c_Text_stringEnd s_Text_at) k_Text_stringEnd J K (n + 1) 88 L S M = ai_const (-1) 89 (am_run (c_Text_stringEnd s_Text_at) k_Text_stringEnd J K n) K 88 L S M := by rfl
theorem r_Text_stringEnd_89 {s_Text_at : aS} {J : aJ} {K : aR} {n : Nat} {L : aL} {S : List Value} {M : aM} : am_run (c_Text_stringEnd s_Text_at) k_Text_stringEnd J K (n + 1) 89 L S M = ai_iret (am_run (c_Text_stringEnd s_Text_at) k_Text_stringEnd J K n) K 89 L S M := by rfl
def c_Text_isDigit : List (Nat × aI) := [
  (0, ai_iload 0 1),
  (1, ai_const 48 3),
  (3, ai_cmplt 16 6),
  (6, ai_iload 0 7),
  (7, ai_const 57 9),
  (9, ai_cmpgt 16 12),
  (12, ai_const 1 13),
  (13, ai_goto 17),
  (16, ai_const 0 17),
  (17, ai_zret)]
set_option maxRecDepth 100000 in
set_option maxHeartbeats 4000000 in
theorem tb_Text_isDigit {G : aG} {d : Nat} : am_tab G Y_Text_isDigit d (c_Text_isDigit) := by
  intro K p e s m args below meth c C
  exact ⟨as_iload_n C (pc := 0) (q := 0) (by decide +kernel) rfl rfl,
    as_bipush C (pc := 1) (n := 48) (by decide +kernel) (by decide +kernel) rfl,
    as_cmplt C (pc := 3) (off := 13) (by decide +kernel) (by decide) rfl,
    as_iload_n C (pc := 6) (q := 0) (by decide +kernel) rfl rfl,
    as_bipush C (pc := 7) (n := 57) (by decide +kernel) (by decide +kernel) rfl,
    as_cmpgt C (pc := 9) (off := 7) (by decide +kernel) (by decide) rfl,
    as_iconst C (pc := 12) (n := 1) (by decide +kernel) (by decide +kernel) rfl,
    as_goto C (pc := 13) (off := 4) (by decide +kernel) (by decide),
    as_iconst C (pc := 16) (n := 0) (by decide +kernel) (by decide +kernel) rfl,
    as_zret C (pc := 17) rfl (by decide +kernel), trivial⟩
abbrev k_Text_isDigit : List Nat := []
theorem r_Text_isDigit_0 {J : aJ} {K : aR} {n : Nat} {L : aL} {S : List Value} {M : aM} : am_run (c_Text_isDigit) k_Text_isDigit J K (n + 1) 0 L S M = ai_iload 0 1 (am_run (c_Text_isDigit) k_Text_isDigit J K n) K 0 L S M := by rfl
theorem r_Text_isDigit_1 {J : aJ} {K : aR} {n : Nat} {L : aL} {S : List Value} {M : aM} : am_run (c_Text_isDigit) k_Text_isDigit J K (n + 1) 1 L S M = ai_const 48 3 (am_run (c_Text_isDigit) k_Text_isDigit J K n) K 1 L S M := by rfl
theorem r_Text_isDigit_3 {J : aJ} {K : aR} {n : Nat} {L : aL} {S : List Value} {M : aM} : am_run (c_Text_isDigit) k_Text_isDigit J K (n + 1) 3 L S M = ai_cmplt 16 6 (am_run (c_Text_isDigit) k_Text_isDigit J K n) K 3 L S M := by rfl
theorem r_Text_isDigit_6 {J : aJ} {K : aR} {n : Nat} {L : aL} {S : List Value} {M : aM} : am_run (c_Text_isDigit) k_Text_isDigit J K (n + 1) 6 L S M = ai_iload 0 7 (am_run (c_Text_isDigit) k_Text_isDigit J K n) K 6 L S M := by rfl
theorem r_Text_isDigit_7 {J : aJ} {K : aR} {n : Nat} {L : aL} {S : List Value} {M : aM} : am_run (c_Text_isDigit) k_Text_isDigit J K (n + 1) 7 L S M = ai_const 57 9 (am_run (c_Text_isDigit) k_Text_isDigit J K n) K 7 L S M := by rfl
theorem r_Text_isDigit_9 {J : aJ} {K : aR} {n : Nat} {L : aL} {S : List Value} {M : aM} : am_run (c_Text_isDigit) k_Text_isDigit J K (n + 1) 9 L S M = ai_cmpgt 16 12 (am_run (c_Text_isDigit) k_Text_isDigit J K n) K 9 L S M := by rfl
theorem r_Text_isDigit_12 {J : aJ} {K : aR} {n : Nat} {L : aL} {S : List Value} {M : aM} : am_run (c_Text_isDigit) k_Text_isDigit J K (n + 1) 12 L S M = ai_const 1 13 (am_run (c_Text_isDigit) k_Text_isDigit J K n) K 12 L S M := by rfl
theorem r_Text_isDigit_13 {J : aJ} {K : aR} {n : Nat} {L : aL} {S : List Value} {M : aM} : am_run (c_Text_isDigit) k_Text_isDigit J K (n + 1) 13 L S M = ai_goto 17 (am_run (c_Text_isDigit) k_Text_isDigit J K n) K 13 L S M := by rfl
theorem r_Text_isDigit_16 {J : aJ} {K : aR} {n : Nat} {L : aL} {S : List Value} {M : aM} : am_run (c_Text_isDigit) k_Text_isDigit J K (n + 1) 16 L S M = ai_const 0 17 (am_run (c_Text_isDigit) k_Text_isDigit J K n) K 16 L S M := by rfl
theorem r_Text_isDigit_17 {J : aJ} {K : aR} {n : Nat} {L : aL} {S : List Value} {M : aM} : am_run (c_Text_isDigit) k_Text_isDigit J K (n + 1) 17 L S M = ai_zret (am_run (c_Text_isDigit) k_Text_isDigit J K n) K 17 L S M := by rfl
def c_Text_isWordByte : List (Nat × aI) := [
  (0, ai_iload 0 1),
  (1, ai_const 97 3),
  (3, ai_cmplt 12 6),
  (6, ai_iload 0 7),
  (7, ai_const 122 9),
  (9, ai_cmple 24 12),
  (12, ai_iload 0 13),
  (13, ai_const 48 15),
  (15, ai_cmplt 26 18),
  (18, ai_iload 0 19),
  (19, ai_const 57 21),
  (21, ai_cmpgt 26 24),
  (24, ai_const 1 25),
  (25, ai_zret),
  (26, ai_iload 0 27),
  (27, ai_switch [(33, 164), (34, 166), (35, 166), (36, 166), (37, 166), (38, 166), (39, 166), (40, 166), (41, 166), (42, 164), (43, 164), (44, 166), (45, 164), (46, 166), (47, 164), (48, 166), (49, 166), (50, 166), (51, 166), (52, 166), (53, 166), (54, 166), (55, 166), (56, 166), (57, 166), (58, 166), (59, 166), (60, 164), (61, 164), (62, 164), (63, 164)] 166),
  (164, ai_const 1 165),
  (165, ai_zret),
  (166, ai_const 0 167),
  (167, ai_zret)]
set_option maxRecDepth 100000 in
set_option maxHeartbeats 4000000 in
theorem tb_Text_isWordByte {G : aG} {d : Nat} : am_tab G Y_Text_isWordByte d (c_Text_isWordByte) := by
  intro K p e s m args below meth c C
  exact ⟨as_iload_n C (pc := 0) (q := 0) (by decide +kernel) rfl rfl,
    as_bipush C (pc := 1) (n := 97) (by decide +kernel) (by decide +kernel) rfl,
    as_cmplt C (pc := 3) (off := 9) (by decide +kernel) (by decide) rfl,
    as_iload_n C (pc := 6) (q := 0) (by decide +kernel) rfl rfl,
    as_bipush C (pc := 7) (n := 122) (by decide +kernel) (by decide +kernel) rfl,
    as_cmple C (pc := 9) (off := 15) (by decide +kernel) (by decide) rfl,
    as_iload_n C (pc := 12) (q := 0) (by decide +kernel) rfl rfl,
    as_bipush C (pc := 13) (n := 48) (by decide +kernel) (by decide +kernel) rfl,
    as_cmplt C (pc := 15) (off := 11) (by decide +kernel) (by decide) rfl,
    as_iload_n C (pc := 18) (q := 0) (by decide +kernel) rfl rfl,
    as_bipush C (pc := 19) (n := 57) (by decide +kernel) (by decide +kernel) rfl,
    as_cmpgt C (pc := 21) (off := 5) (by decide +kernel) (by decide) rfl,
    as_iconst C (pc := 24) (n := 1) (by decide +kernel) (by decide +kernel) rfl,
    as_zret C (pc := 25) rfl (by decide +kernel),
    as_iload_n C (pc := 26) (q := 0) (by decide +kernel) rfl rfl,
    as_table C (pc := 27) (dflt := 139) (lo := 33) (hi := 63) (offs := #[137, 139, 139, 139, 139, 139, 139, 139, 139, 137, 137, 139, 137, 139, 137, 139, 139, 139, 139, 139, 139, 139, 139, 139, 139, 139, 139, 137, 137, 137, 137]) (len := 137) (by decide +kernel) (by decide +kernel) (by decide) (by decide),
    as_iconst C (pc := 164) (n := 1) (by decide +kernel) (by decide +kernel) rfl,
    as_zret C (pc := 165) rfl (by decide +kernel),
    as_iconst C (pc := 166) (n := 0) (by decide +kernel) (by decide +kernel) rfl,
    as_zret C (pc := 167) rfl (by decide +kernel), trivial⟩
abbrev k_Text_isWordByte : List Nat := []
theorem r_Text_isWordByte_0 {J : aJ} {K : aR} {n : Nat} {L : aL} {S : List Value} {M : aM} : am_run (c_Text_isWordByte) k_Text_isWordByte J K (n + 1) 0 L S M = ai_iload 0 1 (am_run (c_Text_isWordByte) k_Text_isWordByte J K n) K 0 L S M := by rfl
theorem r_Text_isWordByte_1 {J : aJ} {K : aR} {n : Nat} {L : aL} {S : List Value} {M : aM} : am_run (c_Text_isWordByte) k_Text_isWordByte J K (n + 1) 1 L S M = ai_const 97 3 (am_run (c_Text_isWordByte) k_Text_isWordByte J K n) K 1 L S M := by rfl
theorem r_Text_isWordByte_3 {J : aJ} {K : aR} {n : Nat} {L : aL} {S : List Value} {M : aM} : am_run (c_Text_isWordByte) k_Text_isWordByte J K (n + 1) 3 L S M = ai_cmplt 12 6 (am_run (c_Text_isWordByte) k_Text_isWordByte J K n) K 3 L S M := by rfl
theorem r_Text_isWordByte_6 {J : aJ} {K : aR} {n : Nat} {L : aL} {S : List Value} {M : aM} : am_run (c_Text_isWordByte) k_Text_isWordByte J K (n + 1) 6 L S M = ai_iload 0 7 (am_run (c_Text_isWordByte) k_Text_isWordByte J K n) K 6 L S M := by rfl
theorem r_Text_isWordByte_7 {J : aJ} {K : aR} {n : Nat} {L : aL} {S : List Value} {M : aM} : am_run (c_Text_isWordByte) k_Text_isWordByte J K (n + 1) 7 L S M = ai_const 122 9 (am_run (c_Text_isWordByte) k_Text_isWordByte J K n) K 7 L S M := by rfl
theorem r_Text_isWordByte_9 {J : aJ} {K : aR} {n : Nat} {L : aL} {S : List Value} {M : aM} : am_run (c_Text_isWordByte) k_Text_isWordByte J K (n + 1) 9 L S M = ai_cmple 24 12 (am_run (c_Text_isWordByte) k_Text_isWordByte J K n) K 9 L S M := by rfl
theorem r_Text_isWordByte_12 {J : aJ} {K : aR} {n : Nat} {L : aL} {S : List Value} {M : aM} : am_run (c_Text_isWordByte) k_Text_isWordByte J K (n + 1) 12 L S M = ai_iload 0 13 (am_run (c_Text_isWordByte) k_Text_isWordByte J K n) K 12 L S M := by rfl
theorem r_Text_isWordByte_13 {J : aJ} {K : aR} {n : Nat} {L : aL} {S : List Value} {M : aM} : am_run (c_Text_isWordByte) k_Text_isWordByte J K (n + 1) 13 L S M = ai_const 48 15 (am_run (c_Text_isWordByte) k_Text_isWordByte J K n) K 13 L S M := by rfl
theorem r_Text_isWordByte_15 {J : aJ} {K : aR} {n : Nat} {L : aL} {S : List Value} {M : aM} : am_run (c_Text_isWordByte) k_Text_isWordByte J K (n + 1) 15 L S M = ai_cmplt 26 18 (am_run (c_Text_isWordByte) k_Text_isWordByte J K n) K 15 L S M := by rfl
theorem r_Text_isWordByte_18 {J : aJ} {K : aR} {n : Nat} {L : aL} {S : List Value} {M : aM} : am_run (c_Text_isWordByte) k_Text_isWordByte J K (n + 1) 18 L S M = ai_iload 0 19 (am_run (c_Text_isWordByte) k_Text_isWordByte J K n) K 18 L S M := by rfl
theorem r_Text_isWordByte_19 {J : aJ} {K : aR} {n : Nat} {L : aL} {S : List Value} {M : aM} : am_run (c_Text_isWordByte) k_Text_isWordByte J K (n + 1) 19 L S M = ai_const 57 21 (am_run (c_Text_isWordByte) k_Text_isWordByte J K n) K 19 L S M := by rfl
theorem r_Text_isWordByte_21 {J : aJ} {K : aR} {n : Nat} {L : aL} {S : List Value} {M : aM} : am_run (c_Text_isWordByte) k_Text_isWordByte J K (n + 1) 21 L S M = ai_cmpgt 26 24 (am_run (c_Text_isWordByte) k_Text_isWordByte J K n) K 21 L S M := by rfl
theorem r_Text_isWordByte_24 {J : aJ} {K : aR} {n : Nat} {L : aL} {S : List Value} {M : aM} : am_run (c_Text_isWordByte) k_Text_isWordByte J K (n + 1) 24 L S M = ai_const 1 25 (am_run (c_Text_isWordByte) k_Text_isWordByte J K n) K 24 L S M := by rfl
theorem r_Text_isWordByte_25 {J : aJ} {K : aR} {n : Nat} {L : aL} {S : List Value} {M : aM} : am_run (c_Text_isWordByte) k_Text_isWordByte J K (n + 1) 25 L S M = ai_zret (am_run (c_Text_isWordByte) k_Text_isWordByte J K n) K 25 L S M := by rfl
theorem r_Text_isWordByte_26 {J : aJ} {K : aR} {n : Nat} {L : aL} {S : List Value} {M : aM} : am_run (c_Text_isWordByte) k_Text_isWordByte J K (n + 1) 26 L S M = ai_iload 0 27 (am_run (c_Text_isWordByte) k_Text_isWordByte J K n) K 26 L S M := by rfl
theorem r_Text_isWordByte_27 {J : aJ} {K : aR} {n : Nat} {L : aL} {S : List Value} {M : aM} : am_run (c_Text_isWordByte) k_Text_isWordByte J K (n + 1) 27 L S M = ai_switch [(33, 164), (34, 166), (35, 166), (36, 166), (37, 166), (38, 166), (39, 166), (40, 166), (41, 166), (42, 164), (43, 164), (44, 166), (45, 164), (46, 166), (47, 164), (48, 166), (49, 166), (50, 166), (51, 166), (52, 166), (53, 166), (54, 166), (55, 166), (56, 166), (57, 166), (58, 166), (59, 166), (60, 164), (61, 164), (62, 164), (63, 164)] 166 (am_run (c_Text_isWordByte) k_Text_isWordByte J K n) K 27 L S M := by rfl
theorem r_Text_isWordByte_164 {J : aJ} {K : aR} {n : Nat} {L : aL} {S : List Value} {M : aM} : am_run (c_Text_isWordByte) k_Text_isWordByte J K (n + 1) 164 L S M = ai_const 1 165 (am_run (c_Text_isWordByte) k_Text_isWordByte J K n) K 164 L S M := by rfl
theorem r_Text_isWordByte_165 {J : aJ} {K : aR} {n : Nat} {L : aL} {S : List Value} {M : aM} : am_run (c_Text_isWordByte) k_Text_isWordByte J K (n + 1) 165 L S M = ai_zret (am_run (c_Text_isWordByte) k_Text_isWordByte J K n) K 165 L S M := by rfl
theorem r_Text_isWordByte_166 {J : aJ} {K : aR} {n : Nat} {L : aL} {S : List Value} {M : aM} : am_run (c_Text_isWordByte) k_Text_isWordByte J K (n + 1) 166 L S M = ai_const 0 167 (am_run (c_Text_isWordByte) k_Text_isWordByte J K n) K 166 L S M := by rfl
theorem r_Text_isWordByte_167 {J : aJ} {K : aR} {n : Nat} {L : aL} {S : List Value} {M : aM} : am_run (c_Text_isWordByte) k_Text_isWordByte J K (n + 1) 167 L S M = ai_zret (am_run (c_Text_isWordByte) k_Text_isWordByte J K n) K 167 L S M := by rfl
end
section
def c_Nodes_clear : List (Nat × aI) := [
  (0, ai_aload 0 1),
  (1, ai_const 0 2),
  (2, ai_putf 0 5 5),
  (5, ai_aload 0 6),
  (6, ai_const 0 7),
  (7, ai_putf 0 7 10),
  (10, ai_aload 0 11),
  (11, ai_gets (.ref 1000) 14),
  (14, ai_xlen 1000 5 15),
  (15, ai_putf 0 9 18),
  (18, ai_vret)]
set_option maxRecDepth 100000 in
set_option maxHeartbeats 4000000 in
theorem tb_Nodes_clear {G : aG} {d : Nat} : am_tab G Y_Nodes_clear d (c_Nodes_clear) := by
  intro K p e s m args below meth c C
  exact ⟨as_aload_n C (pc := 0) (q := 0) (by decide +kernel) rfl rfl,
    as_iconst C (pc := 1) (n := 0) (by decide +kernel) (by decide +kernel) rfl,
    as_putf C (pc := 2) t_Nodes (T := T_Nodes) (N := 10) rfl in_Nodes tok_Nodes nm_Nodes (by decide) rfl rfl (by decide +kernel) w_123 (by decide +kernel) rfl,
    as_aload_n C (pc := 5) (q := 0) (by decide +kernel) rfl rfl,
    as_iconst C (pc := 6) (n := 0) (by decide +kernel) (by decide +kernel) rfl,
    as_putf C (pc := 7) t_Nodes (T := T_Nodes) (N := 10) rfl in_Nodes tok_Nodes nm_Nodes (by decide) rfl rfl (by decide +kernel) w_126 (by decide +kernel) rfl,
    as_aload_n C (pc := 10) (q := 0) (by decide +kernel) rfl rfl,
    as_getsN C (pc := 11) (Cn := "DatumDesk") (f := "QUOTE") (d := "[I") List.mem_cons_self w_113 (by decide +kernel) rfl,
    as_xlen C (pc := 14) (hm_1000 G) (by decide +kernel) rfl,
    as_putf C (pc := 15) t_Nodes (T := T_Nodes) (N := 10) rfl in_Nodes tok_Nodes nm_Nodes (by decide) rfl rfl (by decide +kernel) w_129 (by decide +kernel) rfl,
    as_vret C (pc := 18) rfl (by decide +kernel), trivial⟩
abbrev k_Nodes_clear : List Nat := []
theorem r_Nodes_clear_0 {J : aJ} {K : aR} {n : Nat} {L : aL} {S : List Value} {M : aM} : am_run (c_Nodes_clear) k_Nodes_clear J K (n + 1) 0 L S M = ai_aload 0 1 (am_run (c_Nodes_clear) k_Nodes_clear J K n) K 0 L S M := by rfl
theorem r_Nodes_clear_1 {J : aJ} {K : aR} {n : Nat} {L : aL} {S : List Value} {M : aM} : am_run (c_Nodes_clear) k_Nodes_clear J K (n + 1) 1 L S M = ai_const 0 2 (am_run (c_Nodes_clear) k_Nodes_clear J K n) K 1 L S M := by rfl
theorem r_Nodes_clear_2 {J : aJ} {K : aR} {n : Nat} {L : aL} {S : List Value} {M : aM} : am_run (c_Nodes_clear) k_Nodes_clear J K (n + 1) 2 L S M = ai_putf 0 5 5 (am_run (c_Nodes_clear) k_Nodes_clear J K n) K 2 L S M := by rfl
theorem r_Nodes_clear_5 {J : aJ} {K : aR} {n : Nat} {L : aL} {S : List Value} {M : aM} : am_run (c_Nodes_clear) k_Nodes_clear J K (n + 1) 5 L S M = ai_aload 0 6 (am_run (c_Nodes_clear) k_Nodes_clear J K n) K 5 L S M := by rfl
theorem r_Nodes_clear_6 {J : aJ} {K : aR} {n : Nat} {L : aL} {S : List Value} {M : aM} : am_run (c_Nodes_clear) k_Nodes_clear J K (n + 1) 6 L S M = ai_const 0 7 (am_run (c_Nodes_clear) k_Nodes_clear J K n) K 6 L S M := by rfl
theorem r_Nodes_clear_7 {J : aJ} {K : aR} {n : Nat} {L : aL} {S : List Value} {M : aM} : am_run (c_Nodes_clear) k_Nodes_clear J K (n + 1) 7 L S M = ai_putf 0 7 10 (am_run (c_Nodes_clear) k_Nodes_clear J K n) K 7 L S M := by rfl
theorem r_Nodes_clear_10 {J : aJ} {K : aR} {n : Nat} {L : aL} {S : List Value} {M : aM} : am_run (c_Nodes_clear) k_Nodes_clear J K (n + 1) 10 L S M = ai_aload 0 11 (am_run (c_Nodes_clear) k_Nodes_clear J K n) K 10 L S M := by rfl
theorem r_Nodes_clear_11 {J : aJ} {K : aR} {n : Nat} {L : aL} {S : List Value} {M : aM} : am_run (c_Nodes_clear) k_Nodes_clear J K (n + 1) 11 L S M = ai_gets (.ref 1000) 14 (am_run (c_Nodes_clear) k_Nodes_clear J K n) K 11 L S M := by rfl
theorem r_Nodes_clear_14 {J : aJ} {K : aR} {n : Nat} {L : aL} {S : List Value} {M : aM} : am_run (c_Nodes_clear) k_Nodes_clear J K (n + 1) 14 L S M = ai_xlen 1000 5 15 (am_run (c_Nodes_clear) k_Nodes_clear J K n) K 14 L S M := by rfl
theorem r_Nodes_clear_15 {J : aJ} {K : aR} {n : Nat} {L : aL} {S : List Value} {M : aM} : am_run (c_Nodes_clear) k_Nodes_clear J K (n + 1) 15 L S M = ai_putf 0 9 18 (am_run (c_Nodes_clear) k_Nodes_clear J K n) K 15 L S M := by rfl
theorem r_Nodes_clear_18 {J : aJ} {K : aR} {n : Nat} {L : aL} {S : List Value} {M : aM} : am_run (c_Nodes_clear) k_Nodes_clear J K (n + 1) 18 L S M = ai_vret (am_run (c_Nodes_clear) k_Nodes_clear J K n) K 18 L S M := by rfl
def c_Nodes_has : List (Nat × aI) := [
  (0, ai_iload 1 1),
  (1, ai_iflt 23 4),
  (4, ai_iload 1 5),
  (5, ai_aload 0 6),
  (6, ai_getf 0 5 9),
  (9, ai_cmpge 23 12),
  (12, ai_iload 1 13),
  (13, ai_const 200 16),
  (16, ai_cmpge 23 19),
  (19, ai_const 1 20),
  (20, ai_goto 24),
  (23, ai_const 0 24),
  (24, ai_zret)]
set_option maxRecDepth 100000 in
set_option maxHeartbeats 4000000 in
theorem tb_Nodes_has {G : aG} {d : Nat} : am_tab G Y_Nodes_has d (c_Nodes_has) := by
  intro K p e s m args below meth c C
  exact ⟨as_iload_n C (pc := 0) (q := 1) (by decide +kernel) rfl rfl,
    as_iflt C (pc := 1) (off := 22) (by decide +kernel) (by decide) rfl,
    as_iload_n C (pc := 4) (q := 1) (by decide +kernel) rfl rfl,
    as_aload_n C (pc := 5) (q := 0) (by decide +kernel) rfl rfl,
    as_getf C (pc := 6) (T := T_Nodes) (N := 10) rfl in_Nodes (by decide) rfl w_123 (by decide +kernel) rfl,
    as_cmpge C (pc := 9) (off := 14) (by decide +kernel) (by decide) rfl,
    as_iload_n C (pc := 12) (q := 1) (by decide +kernel) rfl rfl,
    as_sipush C (pc := 13) (n := 200) (by decide +kernel) (by decide +kernel) rfl,
    as_cmpge C (pc := 16) (off := 7) (by decide +kernel) (by decide) rfl,
    as_iconst C (pc := 19) (n := 1) (by decide +kernel) (by decide +kernel) rfl,
    as_goto C (pc := 20) (off := 4) (by decide +kernel) (by decide),
    as_iconst C (pc := 23) (n := 0) (by decide +kernel) (by decide +kernel) rfl,
    as_zret C (pc := 24) rfl (by decide +kernel), trivial⟩
abbrev k_Nodes_has : List Nat := []
theorem r_Nodes_has_0 {J : aJ} {K : aR} {n : Nat} {L : aL} {S : List Value} {M : aM} : am_run (c_Nodes_has) k_Nodes_has J K (n + 1) 0 L S M = ai_iload 1 1 (am_run (c_Nodes_has) k_Nodes_has J K n) K 0 L S M := by rfl
theorem r_Nodes_has_1 {J : aJ} {K : aR} {n : Nat} {L : aL} {S : List Value} {M : aM} : am_run (c_Nodes_has) k_Nodes_has J K (n + 1) 1 L S M = ai_iflt 23 4 (am_run (c_Nodes_has) k_Nodes_has J K n) K 1 L S M := by rfl
theorem r_Nodes_has_4 {J : aJ} {K : aR} {n : Nat} {L : aL} {S : List Value} {M : aM} : am_run (c_Nodes_has) k_Nodes_has J K (n + 1) 4 L S M = ai_iload 1 5 (am_run (c_Nodes_has) k_Nodes_has J K n) K 4 L S M := by rfl
theorem r_Nodes_has_5 {J : aJ} {K : aR} {n : Nat} {L : aL} {S : List Value} {M : aM} : am_run (c_Nodes_has) k_Nodes_has J K (n + 1) 5 L S M = ai_aload 0 6 (am_run (c_Nodes_has) k_Nodes_has J K n) K 5 L S M := by rfl
theorem r_Nodes_has_6 {J : aJ} {K : aR} {n : Nat} {L : aL} {S : List Value} {M : aM} : am_run (c_Nodes_has) k_Nodes_has J K (n + 1) 6 L S M = ai_getf 0 5 9 (am_run (c_Nodes_has) k_Nodes_has J K n) K 6 L S M := by rfl
theorem r_Nodes_has_9 {J : aJ} {K : aR} {n : Nat} {L : aL} {S : List Value} {M : aM} : am_run (c_Nodes_has) k_Nodes_has J K (n + 1) 9 L S M = ai_cmpge 23 12 (am_run (c_Nodes_has) k_Nodes_has J K n) K 9 L S M := by rfl
theorem r_Nodes_has_12 {J : aJ} {K : aR} {n : Nat} {L : aL} {S : List Value} {M : aM} : am_run (c_Nodes_has) k_Nodes_has J K (n + 1) 12 L S M = ai_iload 1 13 (am_run (c_Nodes_has) k_Nodes_has J K n) K 12 L S M := by rfl
theorem r_Nodes_has_13 {J : aJ} {K : aR} {n : Nat} {L : aL} {S : List Value} {M : aM} : am_run (c_Nodes_has) k_Nodes_has J K (n + 1) 13 L S M = ai_const 200 16 (am_run (c_Nodes_has) k_Nodes_has J K n) K 13 L S M := by rfl
theorem r_Nodes_has_16 {J : aJ} {K : aR} {n : Nat} {L : aL} {S : List Value} {M : aM} : am_run (c_Nodes_has) k_Nodes_has J K (n + 1) 16 L S M = ai_cmpge 23 19 (am_run (c_Nodes_has) k_Nodes_has J K n) K 16 L S M := by rfl
theorem r_Nodes_has_19 {J : aJ} {K : aR} {n : Nat} {L : aL} {S : List Value} {M : aM} : am_run (c_Nodes_has) k_Nodes_has J K (n + 1) 19 L S M = ai_const 1 20 (am_run (c_Nodes_has) k_Nodes_has J K n) K 19 L S M := by rfl
theorem r_Nodes_has_20 {J : aJ} {K : aR} {n : Nat} {L : aL} {S : List Value} {M : aM} : am_run (c_Nodes_has) k_Nodes_has J K (n + 1) 20 L S M = ai_goto 24 (am_run (c_Nodes_has) k_Nodes_has J K n) K 20 L S M := by rfl
theorem r_Nodes_has_23 {J : aJ} {K : aR} {n : Nat} {L : aL} {S : List Value} {M : aM} : am_run (c_Nodes_has) k_Nodes_has J K (n + 1) 23 L S M = ai_const 0 24 (am_run (c_Nodes_has) k_Nodes_has J K n) K 23 L S M := by rfl
theorem r_Nodes_has_24 {J : aJ} {K : aR} {n : Nat} {L : aL} {S : List Value} {M : aM} : am_run (c_Nodes_has) k_Nodes_has J K (n + 1) 24 L S M = ai_zret (am_run (c_Nodes_has) k_Nodes_has J K n) K 24 L S M := by rfl
def c_Nodes_isOf : List (Nat × aI) := [
  (0, ai_iload 1 1),
  (1, ai_iflt 33 4),
  (4, ai_iload 1 5),
  (5, ai_aload 0 6),
  (6, ai_getf 0 5 9),
  (9, ai_cmpge 33 12),
  (12, ai_iload 1 13),
  (13, ai_const 200 16),
  (16, ai_cmpge 33 19),
  (19, ai_aload 0 20),
  (20, ai_getf 0 0 23),
  (23, ai_iload 1 24),
  (24, ai_iald 25),
  (25, ai_iload 2 26),
  (26, ai_cmpne 33 29),
  (29, ai_const 1 30),
  (30, ai_goto 34),
  (33, ai_const 0 34),
  (34, ai_zret)]
set_option maxRecDepth 100000 in
set_option maxHeartbeats 4000000 in
theorem tb_Nodes_isOf {G : aG} {d : Nat} : am_tab G Y_Nodes_isOf d (c_Nodes_isOf) := by
  intro K p e s m args below meth c C
  exact ⟨as_iload_n C (pc := 0) (q := 1) (by decide +kernel) rfl rfl,
    as_iflt C (pc := 1) (off := 32) (by decide +kernel) (by decide) rfl,
    as_iload_n C (pc := 4) (q := 1) (by decide +kernel) rfl rfl,
    as_aload_n C (pc := 5) (q := 0) (by decide +kernel) rfl rfl,
    as_getf C (pc := 6) (T := T_Nodes) (N := 10) rfl in_Nodes (by decide) rfl w_123 (by decide +kernel) rfl,
    as_cmpge C (pc := 9) (off := 24) (by decide +kernel) (by decide) rfl,
    as_iload_n C (pc := 12) (q := 1) (by decide +kernel) rfl rfl,
    as_sipush C (pc := 13) (n := 200) (by decide +kernel) (by decide +kernel) rfl,
    as_cmpge C (pc := 16) (off := 17) (by decide +kernel) (by decide) rfl,
    as_aload_n C (pc := 19) (q := 0) (by decide +kernel) rfl rfl,
    as_getf C (pc := 20) (T := T_Nodes) (N := 10) rfl in_Nodes (by decide) rfl w_118 (by decide +kernel) rfl,
    as_iload_n C (pc := 23) (q := 1) (by decide +kernel) rfl rfl,
    as_iald C (pc := 24) (by decide +kernel) rfl,
    as_iload_n C (pc := 25) (q := 2) (by decide +kernel) rfl rfl,
    as_cmpne C (pc := 26) (off := 7) (by decide +kernel) (by decide) rfl,
    as_iconst C (pc := 29) (n := 1) (by decide +kernel) (by decide +kernel) rfl,
    as_goto C (pc := 30) (off := 4) (by decide +kernel) (by decide),
    as_iconst C (pc := 33) (n := 0) (by decide +kernel) (by decide +kernel) rfl,
    as_zret C (pc := 34) rfl (by decide +kernel), trivial⟩
abbrev k_Nodes_isOf : List Nat := []
theorem r_Nodes_isOf_0 {J : aJ} {K : aR} {n : Nat} {L : aL} {S : List Value} {M : aM} : am_run (c_Nodes_isOf) k_Nodes_isOf J K (n + 1) 0 L S M = ai_iload 1 1 (am_run (c_Nodes_isOf) k_Nodes_isOf J K n) K 0 L S M := by rfl
theorem r_Nodes_isOf_1 {J : aJ} {K : aR} {n : Nat} {L : aL} {S : List Value} {M : aM} : am_run (c_Nodes_isOf) k_Nodes_isOf J K (n + 1) 1 L S M = ai_iflt 33 4 (am_run (c_Nodes_isOf) k_Nodes_isOf J K n) K 1 L S M := by rfl
theorem r_Nodes_isOf_4 {J : aJ} {K : aR} {n : Nat} {L : aL} {S : List Value} {M : aM} : am_run (c_Nodes_isOf) k_Nodes_isOf J K (n + 1) 4 L S M = ai_iload 1 5 (am_run (c_Nodes_isOf) k_Nodes_isOf J K n) K 4 L S M := by rfl
theorem r_Nodes_isOf_5 {J : aJ} {K : aR} {n : Nat} {L : aL} {S : List Value} {M : aM} : am_run (c_Nodes_isOf) k_Nodes_isOf J K (n + 1) 5 L S M = ai_aload 0 6 (am_run (c_Nodes_isOf) k_Nodes_isOf J K n) K 5 L S M := by rfl
theorem r_Nodes_isOf_6 {J : aJ} {K : aR} {n : Nat} {L : aL} {S : List Value} {M : aM} : am_run (c_Nodes_isOf) k_Nodes_isOf J K (n + 1) 6 L S M = ai_getf 0 5 9 (am_run (c_Nodes_isOf) k_Nodes_isOf J K n) K 6 L S M := by rfl
theorem r_Nodes_isOf_9 {J : aJ} {K : aR} {n : Nat} {L : aL} {S : List Value} {M : aM} : am_run (c_Nodes_isOf) k_Nodes_isOf J K (n + 1) 9 L S M = ai_cmpge 33 12 (am_run (c_Nodes_isOf) k_Nodes_isOf J K n) K 9 L S M := by rfl
theorem r_Nodes_isOf_12 {J : aJ} {K : aR} {n : Nat} {L : aL} {S : List Value} {M : aM} : am_run (c_Nodes_isOf) k_Nodes_isOf J K (n + 1) 12 L S M = ai_iload 1 13 (am_run (c_Nodes_isOf) k_Nodes_isOf J K n) K 12 L S M := by rfl
theorem r_Nodes_isOf_13 {J : aJ} {K : aR} {n : Nat} {L : aL} {S : List Value} {M : aM} : am_run (c_Nodes_isOf) k_Nodes_isOf J K (n + 1) 13 L S M = ai_const 200 16 (am_run (c_Nodes_isOf) k_Nodes_isOf J K n) K 13 L S M := by rfl
theorem r_Nodes_isOf_16 {J : aJ} {K : aR} {n : Nat} {L : aL} {S : List Value} {M : aM} : am_run (c_Nodes_isOf) k_Nodes_isOf J K (n + 1) 16 L S M = ai_cmpge 33 19 (am_run (c_Nodes_isOf) k_Nodes_isOf J K n) K 16 L S M := by rfl
theorem r_Nodes_isOf_19 {J : aJ} {K : aR} {n : Nat} {L : aL} {S : List Value} {M : aM} : am_run (c_Nodes_isOf) k_Nodes_isOf J K (n + 1) 19 L S M = ai_aload 0 20 (am_run (c_Nodes_isOf) k_Nodes_isOf J K n) K 19 L S M := by rfl
theorem r_Nodes_isOf_20 {J : aJ} {K : aR} {n : Nat} {L : aL} {S : List Value} {M : aM} : am_run (c_Nodes_isOf) k_Nodes_isOf J K (n + 1) 20 L S M = ai_getf 0 0 23 (am_run (c_Nodes_isOf) k_Nodes_isOf J K n) K 20 L S M := by rfl
theorem r_Nodes_isOf_23 {J : aJ} {K : aR} {n : Nat} {L : aL} {S : List Value} {M : aM} : am_run (c_Nodes_isOf) k_Nodes_isOf J K (n + 1) 23 L S M = ai_iload 1 24 (am_run (c_Nodes_isOf) k_Nodes_isOf J K n) K 23 L S M := by rfl
theorem r_Nodes_isOf_24 {J : aJ} {K : aR} {n : Nat} {L : aL} {S : List Value} {M : aM} : am_run (c_Nodes_isOf) k_Nodes_isOf J K (n + 1) 24 L S M = ai_iald 25 (am_run (c_Nodes_isOf) k_Nodes_isOf J K n) K 24 L S M := by rfl
theorem r_Nodes_isOf_25 {J : aJ} {K : aR} {n : Nat} {L : aL} {S : List Value} {M : aM} : am_run (c_Nodes_isOf) k_Nodes_isOf J K (n + 1) 25 L S M = ai_iload 2 26 (am_run (c_Nodes_isOf) k_Nodes_isOf J K n) K 25 L S M := by rfl
theorem r_Nodes_isOf_26 {J : aJ} {K : aR} {n : Nat} {L : aL} {S : List Value} {M : aM} : am_run (c_Nodes_isOf) k_Nodes_isOf J K (n + 1) 26 L S M = ai_cmpne 33 29 (am_run (c_Nodes_isOf) k_Nodes_isOf J K n) K 26 L S M := by rfl
theorem r_Nodes_isOf_29 {J : aJ} {K : aR} {n : Nat} {L : aL} {S : List Value} {M : aM} : am_run (c_Nodes_isOf) k_Nodes_isOf J K (n + 1) 29 L S M = ai_const 1 30 (am_run (c_Nodes_isOf) k_Nodes_isOf J K n) K 29 L S M := by rfl
theorem r_Nodes_isOf_30 {J : aJ} {K : aR} {n : Nat} {L : aL} {S : List Value} {M : aM} : am_run (c_Nodes_isOf) k_Nodes_isOf J K (n + 1) 30 L S M = ai_goto 34 (am_run (c_Nodes_isOf) k_Nodes_isOf J K n) K 30 L S M := by rfl
theorem r_Nodes_isOf_33 {J : aJ} {K : aR} {n : Nat} {L : aL} {S : List Value} {M : aM} : am_run (c_Nodes_isOf) k_Nodes_isOf J K (n + 1) 33 L S M = ai_const 0 34 (am_run (c_Nodes_isOf) k_Nodes_isOf J K n) K 33 L S M := by rfl
theorem r_Nodes_isOf_34 {J : aJ} {K : aR} {n : Nat} {L : aL} {S : List Value} {M : aM} : am_run (c_Nodes_isOf) k_Nodes_isOf J K (n + 1) 34 L S M = ai_zret (am_run (c_Nodes_isOf) k_Nodes_isOf J K n) K 34 L S M := by rfl
def c_Nodes_add : List (Nat × aI) := [
  (0, ai_aload 0 1),
  (1, ai_getf 0 5 4),
  (4, ai_iflt 17 7),
  (7, ai_aload 0 8),
  (8, ai_getf 0 5 11),
  (11, ai_const 200 14),
  (14, ai_cmplt 19 17),
  (17, ai_const (-1) 18),
  (18, ai_iret),
  (19, ai_aload 0 20),
  (20, ai_getf 0 5 23),
  (23, ai_istore 2 24),
  (24, ai_aload 0 25),
  (25, ai_getf 0 0 28),
  (28, ai_iload 2 29),
  (29, ai_iload 1 30),
  (30, ai_iast 31),
  (31, ai_aload 0 32),
  (32, ai_getf 0 1 35),
  (35, ai_iload 2 36),
  (36, ai_const 0 37),
  (37, ai_iast 38),
  (38, ai_aload 0 39),
  (39, ai_getf 0 2 42),
  (42, ai_iload 2 43),
  (43, ai_aload 0 44),
  (44, ai_getf 0 9 47),
  (47, ai_iast 48),
  (48, ai_aload 0 49),
  (49, ai_getf 0 3 52),
  (52, ai_iload 2 53),
  (53, ai_const (-1) 54),
  (54, ai_iast 55),
  (55, ai_aload 0 56),
  (56, ai_getf 0 4 59),
  (59, ai_iload 2 60),
  (60, ai_const (-1) 61),
  (61, ai_iast 62),
  (62, ai_aload 0 63),
  (63, ai_dup 64),
  (64, ai_getf 0 5 67),
  (67, ai_const 1 68),
  (68, ai_iadd 69),
  (69, ai_putf 0 5 72),
  (72, ai_iload 2 73),
  (73, ai_iret)]
set_option maxRecDepth 100000 in
set_option maxHeartbeats 4000000 in
theorem tb_Nodes_add {G : aG} {d : Nat} : am_tab G Y_Nodes_add d (c_Nodes_add) := by
  intro K p e s m args below meth c C
  exact ⟨as_aload_n C (pc := 0) (q := 0) (by decide +kernel) rfl rfl,
    as_getf C (pc := 1) (T := T_Nodes) (N := 10) rfl in_Nodes (by decide) rfl w_123 (by decide +kernel) rfl,
    as_iflt C (pc := 4) (off := 13) (by decide +kernel) (by decide) rfl,
    as_aload_n C (pc := 7) (q := 0) (by decide +kernel) rfl rfl,
    as_getf C (pc := 8) (T := T_Nodes) (N := 10) rfl in_Nodes (by decide) rfl w_123 (by decide +kernel) rfl,
    as_sipush C (pc := 11) (n := 200) (by decide +kernel) (by decide +kernel) rfl,
    as_cmplt C (pc := 14) (off := 5) (by decide +kernel) (by decide) rfl,
    as_iconst C (pc := 17) (n := (-1)) (by decide +kernel) (by decide +kernel) rfl,
    as_iret C (pc := 18) rfl (by decide +kernel),
    as_aload_n C (pc := 19) (q := 0) (by decide +kernel) rfl rfl,
    as_getf C (pc := 20) (T := T_Nodes) (N := 10) rfl in_Nodes (by decide) rfl w_123 (by decide +kernel) rfl,
    as_istore_n C (pc := 23) (q := 2) (by decide +kernel) rfl (by decide) rfl,
    as_aload_n C (pc := 24) (q := 0) (by decide +kernel) rfl rfl,
    as_getf C (pc := 25) (T := T_Nodes) (N := 10) rfl in_Nodes (by decide) rfl w_118 (by decide +kernel) rfl,
    as_iload_n C (pc := 28) (q := 2) (by decide +kernel) rfl rfl,
    as_iload_n C (pc := 29) (q := 1) (by decide +kernel) rfl rfl,
    as_iast C (pc := 30) (by decide +kernel) rfl,
    as_aload_n C (pc := 31) (q := 0) (by decide +kernel) rfl rfl,
    as_getf C (pc := 32) (T := T_Nodes) (N := 10) rfl in_Nodes (by decide) rfl w_119 (by decide +kernel) rfl,
    as_iload_n C (pc := 35) (q := 2) (by decide +kernel) rfl rfl,
    as_iconst C (pc := 36) (n := 0) (by decide +kernel) (by decide +kernel) rfl,
    as_iast C (pc := 37) (by decide +kernel) rfl,
    as_aload_n C (pc := 38) (q := 0) (by decide +kernel) rfl rfl,
    as_getf C (pc := 39) (T := T_Nodes) (N := 10) rfl in_Nodes (by decide) rfl w_120 (by decide +kernel) rfl,
    as_iload_n C (pc := 42) (q := 2) (by decide +kernel) rfl rfl,
    as_aload_n C (pc := 43) (q := 0) (by decide +kernel) rfl rfl,
    as_getf C (pc := 44) (T := T_Nodes) (N := 10) rfl in_Nodes (by decide) rfl w_129 (by decide +kernel) rfl,
    as_iast C (pc := 47) (by decide +kernel) rfl,
    as_aload_n C (pc := 48) (q := 0) (by decide +kernel) rfl rfl,
    as_getf C (pc := 49) (T := T_Nodes) (N := 10) rfl in_Nodes (by decide) rfl w_121 (by decide +kernel) rfl,
    as_iload_n C (pc := 52) (q := 2) (by decide +kernel) rfl rfl,
    as_iconst C (pc := 53) (n := (-1)) (by decide +kernel) (by decide +kernel) rfl,
    as_iast C (pc := 54) (by decide +kernel) rfl,
    as_aload_n C (pc := 55) (q := 0) (by decide +kernel) rfl rfl,
    as_getf C (pc := 56) (T := T_Nodes) (N := 10) rfl in_Nodes (by decide) rfl w_122 (by decide +kernel) rfl,
    as_iload_n C (pc := 59) (q := 2) (by decide +kernel) rfl rfl,
    as_iconst C (pc := 60) (n := (-1)) (by decide +kernel) (by decide +kernel) rfl,
    as_iast C (pc := 61) (by decide +kernel) rfl,
    as_aload_n C (pc := 62) (q := 0) (by decide +kernel) rfl rfl,
    as_dup C (pc := 63) (by decide +kernel) rfl,
    as_getf C (pc := 64) (T := T_Nodes) (N := 10) rfl in_Nodes (by decide) rfl w_123 (by decide +kernel) rfl,
    as_iconst C (pc := 67) (n := 1) (by decide +kernel) (by decide +kernel) rfl,
    as_iadd C (pc := 68) (by decide +kernel) rfl,
    as_putf C (pc := 69) t_Nodes (T := T_Nodes) (N := 10) rfl in_Nodes tok_Nodes nm_Nodes (by decide) rfl rfl (by decide +kernel) w_123 (by decide +kernel) rfl,
    as_iload_n C (pc := 72) (q := 2) (by decide +kernel) rfl rfl,
    as_iret C (pc := 73) rfl (by decide +kernel), trivial⟩
abbrev k_Nodes_add : List Nat := []
theorem r_Nodes_add_0 {J : aJ} {K : aR} {n : Nat} {L : aL} {S : List Value} {M : aM} : am_run (c_Nodes_add) k_Nodes_add J K (n + 1) 0 L S M = ai_aload 0 1 (am_run (c_Nodes_add) k_Nodes_add J K n) K 0 L S M := by rfl
theorem r_Nodes_add_1 {J : aJ} {K : aR} {n : Nat} {L : aL} {S : List Value} {M : aM} : am_run (c_Nodes_add) k_Nodes_add J K (n + 1) 1 L S M = ai_getf 0 5 4 (am_run (c_Nodes_add) k_Nodes_add J K n) K 1 L S M := by rfl
theorem r_Nodes_add_4 {J : aJ} {K : aR} {n : Nat} {L : aL} {S : List Value} {M : aM} : am_run (c_Nodes_add) k_Nodes_add J K (n + 1) 4 L S M = ai_iflt 17 7 (am_run (c_Nodes_add) k_Nodes_add J K n) K 4 L S M := by rfl
theorem r_Nodes_add_7 {J : aJ} {K : aR} {n : Nat} {L : aL} {S : List Value} {M : aM} : am_run (c_Nodes_add) k_Nodes_add J K (n + 1) 7 L S M = ai_aload 0 8 (am_run (c_Nodes_add) k_Nodes_add J K n) K 7 L S M := by rfl
theorem r_Nodes_add_8 {J : aJ} {K : aR} {n : Nat} {L : aL} {S : List Value} {M : aM} : am_run (c_Nodes_add) k_Nodes_add J K (n + 1) 8 L S M = ai_getf 0 5 11 (am_run (c_Nodes_add) k_Nodes_add J K n) K 8 L S M := by rfl
theorem r_Nodes_add_11 {J : aJ} {K : aR} {n : Nat} {L : aL} {S : List Value} {M : aM} : am_run (c_Nodes_add) k_Nodes_add J K (n + 1) 11 L S M = ai_const 200 14 (am_run (c_Nodes_add) k_Nodes_add J K n) K 11 L S M := by rfl
theorem r_Nodes_add_14 {J : aJ} {K : aR} {n : Nat} {L : aL} {S : List Value} {M : aM} : am_run (c_Nodes_add) k_Nodes_add J K (n + 1) 14 L S M = ai_cmplt 19 17 (am_run (c_Nodes_add) k_Nodes_add J K n) K 14 L S M := by rfl
theorem r_Nodes_add_17 {J : aJ} {K : aR} {n : Nat} {L : aL} {S : List Value} {M : aM} : am_run (c_Nodes_add) k_Nodes_add J K (n + 1) 17 L S M = ai_const (-1) 18 (am_run (c_Nodes_add) k_Nodes_add J K n) K 17 L S M := by rfl
theorem r_Nodes_add_18 {J : aJ} {K : aR} {n : Nat} {L : aL} {S : List Value} {M : aM} : am_run (c_Nodes_add) k_Nodes_add J K (n + 1) 18 L S M = ai_iret (am_run (c_Nodes_add) k_Nodes_add J K n) K 18 L S M := by rfl
theorem r_Nodes_add_19 {J : aJ} {K : aR} {n : Nat} {L : aL} {S : List Value} {M : aM} : am_run (c_Nodes_add) k_Nodes_add J K (n + 1) 19 L S M = ai_aload 0 20 (am_run (c_Nodes_add) k_Nodes_add J K n) K 19 L S M := by rfl
theorem r_Nodes_add_20 {J : aJ} {K : aR} {n : Nat} {L : aL} {S : List Value} {M : aM} : am_run (c_Nodes_add) k_Nodes_add J K (n + 1) 20 L S M = ai_getf 0 5 23 (am_run (c_Nodes_add) k_Nodes_add J K n) K 20 L S M := by rfl
theorem r_Nodes_add_23 {J : aJ} {K : aR} {n : Nat} {L : aL} {S : List Value} {M : aM} : am_run (c_Nodes_add) k_Nodes_add J K (n + 1) 23 L S M = ai_istore 2 24 (am_run (c_Nodes_add) k_Nodes_add J K n) K 23 L S M := by rfl
theorem r_Nodes_add_24 {J : aJ} {K : aR} {n : Nat} {L : aL} {S : List Value} {M : aM} : am_run (c_Nodes_add) k_Nodes_add J K (n + 1) 24 L S M = ai_aload 0 25 (am_run (c_Nodes_add) k_Nodes_add J K n) K 24 L S M := by rfl
theorem r_Nodes_add_25 {J : aJ} {K : aR} {n : Nat} {L : aL} {S : List Value} {M : aM} : am_run (c_Nodes_add) k_Nodes_add J K (n + 1) 25 L S M = ai_getf 0 0 28 (am_run (c_Nodes_add) k_Nodes_add J K n) K 25 L S M := by rfl
theorem r_Nodes_add_28 {J : aJ} {K : aR} {n : Nat} {L : aL} {S : List Value} {M : aM} : am_run (c_Nodes_add) k_Nodes_add J K (n + 1) 28 L S M = ai_iload 2 29 (am_run (c_Nodes_add) k_Nodes_add J K n) K 28 L S M := by rfl
theorem r_Nodes_add_29 {J : aJ} {K : aR} {n : Nat} {L : aL} {S : List Value} {M : aM} : am_run (c_Nodes_add) k_Nodes_add J K (n + 1) 29 L S M = ai_iload 1 30 (am_run (c_Nodes_add) k_Nodes_add J K n) K 29 L S M := by rfl
theorem r_Nodes_add_30 {J : aJ} {K : aR} {n : Nat} {L : aL} {S : List Value} {M : aM} : am_run (c_Nodes_add) k_Nodes_add J K (n + 1) 30 L S M = ai_iast 31 (am_run (c_Nodes_add) k_Nodes_add J K n) K 30 L S M := by rfl
theorem r_Nodes_add_31 {J : aJ} {K : aR} {n : Nat} {L : aL} {S : List Value} {M : aM} : am_run (c_Nodes_add) k_Nodes_add J K (n + 1) 31 L S M = ai_aload 0 32 (am_run (c_Nodes_add) k_Nodes_add J K n) K 31 L S M := by rfl
theorem r_Nodes_add_32 {J : aJ} {K : aR} {n : Nat} {L : aL} {S : List Value} {M : aM} : am_run (c_Nodes_add) k_Nodes_add J K (n + 1) 32 L S M = ai_getf 0 1 35 (am_run (c_Nodes_add) k_Nodes_add J K n) K 32 L S M := by rfl
theorem r_Nodes_add_35 {J : aJ} {K : aR} {n : Nat} {L : aL} {S : List Value} {M : aM} : am_run (c_Nodes_add) k_Nodes_add J K (n + 1) 35 L S M = ai_iload 2 36 (am_run (c_Nodes_add) k_Nodes_add J K n) K 35 L S M := by rfl
theorem r_Nodes_add_36 {J : aJ} {K : aR} {n : Nat} {L : aL} {S : List Value} {M : aM} : am_run (c_Nodes_add) k_Nodes_add J K (n + 1) 36 L S M = ai_const 0 37 (am_run (c_Nodes_add) k_Nodes_add J K n) K 36 L S M := by rfl
theorem r_Nodes_add_37 {J : aJ} {K : aR} {n : Nat} {L : aL} {S : List Value} {M : aM} : am_run (c_Nodes_add) k_Nodes_add J K (n + 1) 37 L S M = ai_iast 38 (am_run (c_Nodes_add) k_Nodes_add J K n) K 37 L S M := by rfl
theorem r_Nodes_add_38 {J : aJ} {K : aR} {n : Nat} {L : aL} {S : List Value} {M : aM} : am_run (c_Nodes_add) k_Nodes_add J K (n + 1) 38 L S M = ai_aload 0 39 (am_run (c_Nodes_add) k_Nodes_add J K n) K 38 L S M := by rfl
theorem r_Nodes_add_39 {J : aJ} {K : aR} {n : Nat} {L : aL} {S : List Value} {M : aM} : am_run (c_Nodes_add) k_Nodes_add J K (n + 1) 39 L S M = ai_getf 0 2 42 (am_run (c_Nodes_add) k_Nodes_add J K n) K 39 L S M := by rfl
theorem r_Nodes_add_42 {J : aJ} {K : aR} {n : Nat} {L : aL} {S : List Value} {M : aM} : am_run (c_Nodes_add) k_Nodes_add J K (n + 1) 42 L S M = ai_iload 2 43 (am_run (c_Nodes_add) k_Nodes_add J K n) K 42 L S M := by rfl
theorem r_Nodes_add_43 {J : aJ} {K : aR} {n : Nat} {L : aL} {S : List Value} {M : aM} : am_run (c_Nodes_add) k_Nodes_add J K (n + 1) 43 L S M = ai_aload 0 44 (am_run (c_Nodes_add) k_Nodes_add J K n) K 43 L S M := by rfl
theorem r_Nodes_add_44 {J : aJ} {K : aR} {n : Nat} {L : aL} {S : List Value} {M : aM} : am_run (c_Nodes_add) k_Nodes_add J K (n + 1) 44 L S M = ai_getf 0 9 47 (am_run (c_Nodes_add) k_Nodes_add J K n) K 44 L S M := by rfl
theorem r_Nodes_add_47 {J : aJ} {K : aR} {n : Nat} {L : aL} {S : List Value} {M : aM} : am_run (c_Nodes_add) k_Nodes_add J K (n + 1) 47 L S M = ai_iast 48 (am_run (c_Nodes_add) k_Nodes_add J K n) K 47 L S M := by rfl
theorem r_Nodes_add_48 {J : aJ} {K : aR} {n : Nat} {L : aL} {S : List Value} {M : aM} : am_run (c_Nodes_add) k_Nodes_add J K (n + 1) 48 L S M = ai_aload 0 49 (am_run (c_Nodes_add) k_Nodes_add J K n) K 48 L S M := by rfl
theorem r_Nodes_add_49 {J : aJ} {K : aR} {n : Nat} {L : aL} {S : List Value} {M : aM} : am_run (c_Nodes_add) k_Nodes_add J K (n + 1) 49 L S M = ai_getf 0 3 52 (am_run (c_Nodes_add) k_Nodes_add J K n) K 49 L S M := by rfl
theorem r_Nodes_add_52 {J : aJ} {K : aR} {n : Nat} {L : aL} {S : List Value} {M : aM} : am_run (c_Nodes_add) k_Nodes_add J K (n + 1) 52 L S M = ai_iload 2 53 (am_run (c_Nodes_add) k_Nodes_add J K n) K 52 L S M := by rfl
theorem r_Nodes_add_53 {J : aJ} {K : aR} {n : Nat} {L : aL} {S : List Value} {M : aM} : am_run (c_Nodes_add) k_Nodes_add J K (n + 1) 53 L S M = ai_const (-1) 54 (am_run (c_Nodes_add) k_Nodes_add J K n) K 53 L S M := by rfl
theorem r_Nodes_add_54 {J : aJ} {K : aR} {n : Nat} {L : aL} {S : List Value} {M : aM} : am_run (c_Nodes_add) k_Nodes_add J K (n + 1) 54 L S M = ai_iast 55 (am_run (c_Nodes_add) k_Nodes_add J K n) K 54 L S M := by rfl
theorem r_Nodes_add_55 {J : aJ} {K : aR} {n : Nat} {L : aL} {S : List Value} {M : aM} : am_run (c_Nodes_add) k_Nodes_add J K (n + 1) 55 L S M = ai_aload 0 56 (am_run (c_Nodes_add) k_Nodes_add J K n) K 55 L S M := by rfl
theorem r_Nodes_add_56 {J : aJ} {K : aR} {n : Nat} {L : aL} {S : List Value} {M : aM} : am_run (c_Nodes_add) k_Nodes_add J K (n + 1) 56 L S M = ai_getf 0 4 59 (am_run (c_Nodes_add) k_Nodes_add J K n) K 56 L S M := by rfl
theorem r_Nodes_add_59 {J : aJ} {K : aR} {n : Nat} {L : aL} {S : List Value} {M : aM} : am_run (c_Nodes_add) k_Nodes_add J K (n + 1) 59 L S M = ai_iload 2 60 (am_run (c_Nodes_add) k_Nodes_add J K n) K 59 L S M := by rfl
theorem r_Nodes_add_60 {J : aJ} {K : aR} {n : Nat} {L : aL} {S : List Value} {M : aM} : am_run (c_Nodes_add) k_Nodes_add J K (n + 1) 60 L S M = ai_const (-1) 61 (am_run (c_Nodes_add) k_Nodes_add J K n) K 60 L S M := by rfl
theorem r_Nodes_add_61 {J : aJ} {K : aR} {n : Nat} {L : aL} {S : List Value} {M : aM} : am_run (c_Nodes_add) k_Nodes_add J K (n + 1) 61 L S M = ai_iast 62 (am_run (c_Nodes_add) k_Nodes_add J K n) K 61 L S M := by rfl
theorem r_Nodes_add_62 {J : aJ} {K : aR} {n : Nat} {L : aL} {S : List Value} {M : aM} : am_run (c_Nodes_add) k_Nodes_add J K (n + 1) 62 L S M = ai_aload 0 63 (am_run (c_Nodes_add) k_Nodes_add J K n) K 62 L S M := by rfl
theorem r_Nodes_add_63 {J : aJ} {K : aR} {n : Nat} {L : aL} {S : List Value} {M : aM} : am_run (c_Nodes_add) k_Nodes_add J K (n + 1) 63 L S M = ai_dup 64 (am_run (c_Nodes_add) k_Nodes_add J K n) K 63 L S M := by rfl
theorem r_Nodes_add_64 {J : aJ} {K : aR} {n : Nat} {L : aL} {S : List Value} {M : aM} : am_run (c_Nodes_add) k_Nodes_add J K (n + 1) 64 L S M = ai_getf 0 5 67 (am_run (c_Nodes_add) k_Nodes_add J K n) K 64 L S M := by rfl
theorem r_Nodes_add_67 {J : aJ} {K : aR} {n : Nat} {L : aL} {S : List Value} {M : aM} : am_run (c_Nodes_add) k_Nodes_add J K (n + 1) 67 L S M = ai_const 1 68 (am_run (c_Nodes_add) k_Nodes_add J K n) K 67 L S M := by rfl
theorem r_Nodes_add_68 {J : aJ} {K : aR} {n : Nat} {L : aL} {S : List Value} {M : aM} : am_run (c_Nodes_add) k_Nodes_add J K (n + 1) 68 L S M = ai_iadd 69 (am_run (c_Nodes_add) k_Nodes_add J K n) K 68 L S M := by rfl
theorem r_Nodes_add_69 {J : aJ} {K : aR} {n : Nat} {L : aL} {S : List Value} {M : aM} : am_run (c_Nodes_add) k_Nodes_add J K (n + 1) 69 L S M = ai_putf 0 5 72 (am_run (c_Nodes_add) k_Nodes_add J K n) K 69 L S M := by rfl
theorem r_Nodes_add_72 {J : aJ} {K : aR} {n : Nat} {L : aL} {S : List Value} {M : aM} : am_run (c_Nodes_add) k_Nodes_add J K (n + 1) 72 L S M = ai_iload 2 73 (am_run (c_Nodes_add) k_Nodes_add J K n) K 72 L S M := by rfl
theorem r_Nodes_add_73 {J : aJ} {K : aR} {n : Nat} {L : aL} {S : List Value} {M : aM} : am_run (c_Nodes_add) k_Nodes_add J K (n + 1) 73 L S M = ai_iret (am_run (c_Nodes_add) k_Nodes_add J K n) K 73 L S M := by rfl
def c_Nodes_addDatum : List (Nat × aI) := [
  (0, ai_aload 0 1),
  (1, ai_getf 0 7 4),
  (4, ai_iflt 37 7),
  (7, ai_aload 0 8),
  (8, ai_getf 0 7 11),
  (11, ai_const 200 14),
  (14, ai_cmpge 37 17),
  (17, ai_aload 0 18),
  (18, ai_getf 0 6 21),
  (21, ai_aload 0 22),
  (22, ai_getf 0 7 25),
  (25, ai_iload 1 26),
  (26, ai_iast 27),
  (27, ai_aload 0 28),
  (28, ai_dup 29),
  (29, ai_getf 0 7 32),
  (32, ai_const 1 33),
  (33, ai_iadd 34),
  (34, ai_putf 0 7 37),
  (37, ai_vret)]
set_option maxRecDepth 100000 in
set_option maxHeartbeats 4000000 in
theorem tb_Nodes_addDatum {G : aG} {d : Nat} : am_tab G Y_Nodes_addDatum d (c_Nodes_addDatum) := by
  intro K p e s m args below meth c C
  exact ⟨as_aload_n C (pc := 0) (q := 0) (by decide +kernel) rfl rfl,
    as_getf C (pc := 1) (T := T_Nodes) (N := 10) rfl in_Nodes (by decide) rfl w_126 (by decide +kernel) rfl,
    as_iflt C (pc := 4) (off := 33) (by decide +kernel) (by decide) rfl,
    as_aload_n C (pc := 7) (q := 0) (by decide +kernel) rfl rfl,
    as_getf C (pc := 8) (T := T_Nodes) (N := 10) rfl in_Nodes (by decide) rfl w_126 (by decide +kernel) rfl,
    as_sipush C (pc := 11) (n := 200) (by decide +kernel) (by decide +kernel) rfl,
    as_cmpge C (pc := 14) (off := 23) (by decide +kernel) (by decide) rfl,
    as_aload_n C (pc := 17) (q := 0) (by decide +kernel) rfl rfl,
    as_getf C (pc := 18) (T := T_Nodes) (N := 10) rfl in_Nodes (by decide) rfl w_125 (by decide +kernel) rfl,
    as_aload_n C (pc := 21) (q := 0) (by decide +kernel) rfl rfl,
    as_getf C (pc := 22) (T := T_Nodes) (N := 10) rfl in_Nodes (by decide) rfl w_126 (by decide +kernel) rfl,
    as_iload_n C (pc := 25) (q := 1) (by decide +kernel) rfl rfl,
    as_iast C (pc := 26) (by decide +kernel) rfl,
    as_aload_n C (pc := 27) (q := 0) (by decide +kernel) rfl rfl,
    as_dup C (pc := 28) (by decide +kernel) rfl,
    as_getf C (pc := 29) (T := T_Nodes) (N := 10) rfl in_Nodes (by decide) rfl w_126 (by decide +kernel) rfl,
    as_iconst C (pc := 32) (n := 1) (by decide +kernel) (by decide +kernel) rfl,
    as_iadd C (pc := 33) (by decide +kernel) rfl,
    as_putf C (pc := 34) t_Nodes (T := T_Nodes) (N := 10) rfl in_Nodes tok_Nodes nm_Nodes (by decide) rfl rfl (by decide +kernel) w_126 (by decide +kernel) rfl,
    as_vret C (pc := 37) rfl (by decide +kernel), trivial⟩
abbrev k_Nodes_addDatum : List Nat := []
theorem r_Nodes_addDatum_0 {J : aJ} {K : aR} {n : Nat} {L : aL} {S : List Value} {M : aM} : am_run (c_Nodes_addDatum) k_Nodes_addDatum J K (n + 1) 0 L S M = ai_aload 0 1 (am_run (c_Nodes_addDatum) k_Nodes_addDatum J K n) K 0 L S M := by rfl
theorem r_Nodes_addDatum_1 {J : aJ} {K : aR} {n : Nat} {L : aL} {S : List Value} {M : aM} : am_run (c_Nodes_addDatum) k_Nodes_addDatum J K (n + 1) 1 L S M = ai_getf 0 7 4 (am_run (c_Nodes_addDatum) k_Nodes_addDatum J K n) K 1 L S M := by rfl
theorem r_Nodes_addDatum_4 {J : aJ} {K : aR} {n : Nat} {L : aL} {S : List Value} {M : aM} : am_run (c_Nodes_addDatum) k_Nodes_addDatum J K (n + 1) 4 L S M = ai_iflt 37 7 (am_run (c_Nodes_addDatum) k_Nodes_addDatum J K n) K 4 L S M := by rfl
theorem r_Nodes_addDatum_7 {J : aJ} {K : aR} {n : Nat} {L : aL} {S : List Value} {M : aM} : am_run (c_Nodes_addDatum) k_Nodes_addDatum J K (n + 1) 7 L S M = ai_aload 0 8 (am_run (c_Nodes_addDatum) k_Nodes_addDatum J K n) K 7 L S M := by rfl
theorem r_Nodes_addDatum_8 {J : aJ} {K : aR} {n : Nat} {L : aL} {S : List Value} {M : aM} : am_run (c_Nodes_addDatum) k_Nodes_addDatum J K (n + 1) 8 L S M = ai_getf 0 7 11 (am_run (c_Nodes_addDatum) k_Nodes_addDatum J K n) K 8 L S M := by rfl
theorem r_Nodes_addDatum_11 {J : aJ} {K : aR} {n : Nat} {L : aL} {S : List Value} {M : aM} : am_run (c_Nodes_addDatum) k_Nodes_addDatum J K (n + 1) 11 L S M = ai_const 200 14 (am_run (c_Nodes_addDatum) k_Nodes_addDatum J K n) K 11 L S M := by rfl
theorem r_Nodes_addDatum_14 {J : aJ} {K : aR} {n : Nat} {L : aL} {S : List Value} {M : aM} : am_run (c_Nodes_addDatum) k_Nodes_addDatum J K (n + 1) 14 L S M = ai_cmpge 37 17 (am_run (c_Nodes_addDatum) k_Nodes_addDatum J K n) K 14 L S M := by rfl
theorem r_Nodes_addDatum_17 {J : aJ} {K : aR} {n : Nat} {L : aL} {S : List Value} {M : aM} : am_run (c_Nodes_addDatum) k_Nodes_addDatum J K (n + 1) 17 L S M = ai_aload 0 18 (am_run (c_Nodes_addDatum) k_Nodes_addDatum J K n) K 17 L S M := by rfl
theorem r_Nodes_addDatum_18 {J : aJ} {K : aR} {n : Nat} {L : aL} {S : List Value} {M : aM} : am_run (c_Nodes_addDatum) k_Nodes_addDatum J K (n + 1) 18 L S M = ai_getf 0 6 21 (am_run (c_Nodes_addDatum) k_Nodes_addDatum J K n) K 18 L S M := by rfl
theorem r_Nodes_addDatum_21 {J : aJ} {K : aR} {n : Nat} {L : aL} {S : List Value} {M : aM} : am_run (c_Nodes_addDatum) k_Nodes_addDatum J K (n + 1) 21 L S M = ai_aload 0 22 (am_run (c_Nodes_addDatum) k_Nodes_addDatum J K n) K 21 L S M := by rfl
theorem r_Nodes_addDatum_22 {J : aJ} {K : aR} {n : Nat} {L : aL} {S : List Value} {M : aM} : am_run (c_Nodes_addDatum) k_Nodes_addDatum J K (n + 1) 22 L S M = ai_getf 0 7 25 (am_run (c_Nodes_addDatum) k_Nodes_addDatum J K n) K 22 L S M := by rfl
theorem r_Nodes_addDatum_25 {J : aJ} {K : aR} {n : Nat} {L : aL} {S : List Value} {M : aM} : am_run (c_Nodes_addDatum) k_Nodes_addDatum J K (n + 1) 25 L S M = ai_iload 1 26 (am_run (c_Nodes_addDatum) k_Nodes_addDatum J K n) K 25 L S M := by rfl
theorem r_Nodes_addDatum_26 {J : aJ} {K : aR} {n : Nat} {L : aL} {S : List Value} {M : aM} : am_run (c_Nodes_addDatum) k_Nodes_addDatum J K (n + 1) 26 L S M = ai_iast 27 (am_run (c_Nodes_addDatum) k_Nodes_addDatum J K n) K 26 L S M := by rfl
theorem r_Nodes_addDatum_27 {J : aJ} {K : aR} {n : Nat} {L : aL} {S : List Value} {M : aM} : am_run (c_Nodes_addDatum) k_Nodes_addDatum J K (n + 1) 27 L S M = ai_aload 0 28 (am_run (c_Nodes_addDatum) k_Nodes_addDatum J K n) K 27 L S M := by rfl
theorem r_Nodes_addDatum_28 {J : aJ} {K : aR} {n : Nat} {L : aL} {S : List Value} {M : aM} : am_run (c_Nodes_addDatum) k_Nodes_addDatum J K (n + 1) 28 L S M = ai_dup 29 (am_run (c_Nodes_addDatum) k_Nodes_addDatum J K n) K 28 L S M := by rfl
theorem r_Nodes_addDatum_29 {J : aJ} {K : aR} {n : Nat} {L : aL} {S : List Value} {M : aM} : am_run (c_Nodes_addDatum) k_Nodes_addDatum J K (n + 1) 29 L S M = ai_getf 0 7 32 (am_run (c_Nodes_addDatum) k_Nodes_addDatum J K n) K 29 L S M := by rfl
theorem r_Nodes_addDatum_32 {J : aJ} {K : aR} {n : Nat} {L : aL} {S : List Value} {M : aM} : am_run (c_Nodes_addDatum) k_Nodes_addDatum J K (n + 1) 32 L S M = ai_const 1 33 (am_run (c_Nodes_addDatum) k_Nodes_addDatum J K n) K 32 L S M := by rfl
theorem r_Nodes_addDatum_33 {J : aJ} {K : aR} {n : Nat} {L : aL} {S : List Value} {M : aM} : am_run (c_Nodes_addDatum) k_Nodes_addDatum J K (n + 1) 33 L S M = ai_iadd 34 (am_run (c_Nodes_addDatum) k_Nodes_addDatum J K n) K 33 L S M := by rfl
theorem r_Nodes_addDatum_34 {J : aJ} {K : aR} {n : Nat} {L : aL} {S : List Value} {M : aM} : am_run (c_Nodes_addDatum) k_Nodes_addDatum J K (n + 1) 34 L S M = ai_putf 0 7 37 (am_run (c_Nodes_addDatum) k_Nodes_addDatum J K n) K 34 L S M := by rfl
theorem r_Nodes_addDatum_37 {J : aJ} {K : aR} {n : Nat} {L : aL} {S : List Value} {M : aM} : am_run (c_Nodes_addDatum) k_Nodes_addDatum J K (n + 1) 37 L S M = ai_vret (am_run (c_Nodes_addDatum) k_Nodes_addDatum J K n) K 37 L S M := by rfl
def c_Nodes_addLetter (s_Nodes_has : aS) : List (Nat × aI) := [
  (0, ai_aload 0 1),
  (1, ai_iload 1 2),
  (2, ai_callv2 0 s_Nodes_has 5),
  (5, ai_ifeq 57 8),
  (8, ai_aload 0 9),
  (9, ai_getf 0 9 12),
  (12, ai_iflt 57 15),
  (15, ai_aload 0 16),
  (16, ai_getf 0 9 19),
  (19, ai_aload 0 20),
  (20, ai_getf 0 8 23),
  (23, ai_alen 24),
  (24, ai_cmpge 57 27),
  (27, ai_aload 0 28),
  (28, ai_getf 0 8 31),
  (31, ai_aload 0 32),
  (32, ai_getf 0 9 35),
  (35, ai_iload 2 36),
  (36, ai_iast 37),
  (37, ai_aload 0 38),
  (38, ai_dup 39),
  (39, ai_getf 0 9 42),
  (42, ai_const 1 43),
  (43, ai_iadd 44),
  (44, ai_putf 0 9 47),
  (47, ai_aload 0 48),
  (48, ai_getf 0 1 51),
  (51, ai_iload 1 52),
  (52, ai_dup2 53),
  (53, ai_iald 54),
  (54, ai_const 1 55),
  (55, ai_iadd 56),
  (56, ai_iast 57),
  (57, ai_vret)]
set_option maxRecDepth 100000 in
set_option maxHeartbeats 4000000 in
theorem tb_Nodes_addLetter {G : aG} {d : Nat} {s_Nodes_has : aS} {d_Nodes_has : Nat} (h_Nodes_has : am_Sp G Y_Nodes_has d_Nodes_has s_Nodes_has) (l_Nodes_has : d_Nodes_has < d) : am_tab G Y_Nodes_addLetter d (c_Nodes_addLetter s_Nodes_has) := by
  intro K p e s m args below meth c C
  exact ⟨as_aload_n C (pc := 0) (q := 0) (by decide +kernel) rfl rfl,
    as_iload_n C (pc := 1) (q := 1) (by decide +kernel) rfl rfl,
    as_callv2 C (pc := 2) h_Nodes_has (T := T_Nodes) (N := 10) rfl w_341 w_72 w_340 w_21 w_338 hy_Nodes_has (am_rm_of l_Nodes_has (by decide)) (by decide +kernel) rfl,
    as_ifeq C (pc := 5) (off := 52) (by decide +kernel) (by decide) rfl,
    as_aload_n C (pc := 8) (q := 0) (by decide +kernel) rfl rfl,
    as_getf C (pc := 9) (T := T_Nodes) (N := 10) rfl in_Nodes (by decide) rfl w_129 (by decide +kernel) rfl,
    as_iflt C (pc := 12) (off := 45) (by decide +kernel) (by decide) rfl,
    as_aload_n C (pc := 15) (q := 0) (by decide +kernel) rfl rfl,
    as_getf C (pc := 16) (T := T_Nodes) (N := 10) rfl in_Nodes (by decide) rfl w_129 (by decide +kernel) rfl,
    as_aload_n C (pc := 19) (q := 0) (by decide +kernel) rfl rfl,
    as_getf C (pc := 20) (T := T_Nodes) (N := 10) rfl in_Nodes (by decide) rfl w_128 (by decide +kernel) rfl,
    as_alen C (pc := 23) (by decide +kernel) rfl,
    as_cmpge C (pc := 24) (off := 33) (by decide +kernel) (by decide) rfl,
    as_aload_n C (pc := 27) (q := 0) (by decide +kernel) rfl rfl,
    as_getf C (pc := 28) (T := T_Nodes) (N := 10) rfl in_Nodes (by decide) rfl w_128 (by decide +kernel) rfl,
    as_aload_n C (pc := 31) (q := 0) (by decide +kernel) rfl rfl,
    as_getf C (pc := 32) (T := T_Nodes) (N := 10) rfl in_Nodes (by decide) rfl w_129 (by decide +kernel) rfl,
    as_iload_n C (pc := 35) (q := 2) (by decide +kernel) rfl rfl,
    as_iast C (pc := 36) (by decide +kernel) rfl,
    as_aload_n C (pc := 37) (q := 0) (by decide +kernel) rfl rfl,
    as_dup C (pc := 38) (by decide +kernel) rfl,
    as_getf C (pc := 39) (T := T_Nodes) (N := 10) rfl in_Nodes (by decide) rfl w_129 (by decide +kernel) rfl,
    as_iconst C (pc := 42) (n := 1) (by decide +kernel) (by decide +kernel) rfl,
    as_iadd C (pc := 43) (by decide +kernel) rfl,
    as_putf C (pc := 44) t_Nodes (T := T_Nodes) (N := 10) rfl in_Nodes tok_Nodes nm_Nodes (by decide) rfl rfl (by decide +kernel) w_129 (by decide +kernel) rfl,
    as_aload_n C (pc := 47) (q := 0) (by decide +kernel) rfl rfl,
    as_getf C (pc := 48) (T := T_Nodes) (N := 10) rfl in_Nodes (by decide) rfl w_119 (by decide +kernel) rfl,
    as_iload_n C (pc := 51) (q := 1) (by decide +kernel) rfl rfl,
    as_dup2 C (pc := 52) (by decide +kernel) rfl,
    as_iald C (pc := 53) (by decide +kernel) rfl,
    as_iconst C (pc := 54) (n := 1) (by decide +kernel) (by decide +kernel) rfl,
    as_iadd C (pc := 55) (by decide +kernel) rfl,
    as_iast C (pc := 56) (by decide +kernel) rfl,
    as_vret C (pc := 57) rfl (by decide +kernel), trivial⟩
abbrev k_Nodes_addLetter : List Nat := []
theorem r_Nodes_addLetter_0 {s_Nodes_has : aS} {J : aJ} {K : aR} {n : Nat} {L : aL} {S : List Value} {M : aM} : am_run (c_Nodes_addLetter s_Nodes_has) k_Nodes_addLetter J K (n + 1) 0 L S M = ai_aload 0 1 (am_run (c_Nodes_addLetter s_Nodes_has) k_Nodes_addLetter J K n) K 0 L S M := by rfl
theorem r_Nodes_addLetter_1 {s_Nodes_has : aS} {J : aJ} {K : aR} {n : Nat} {L : aL} {S : List Value} {M : aM} : am_run (c_Nodes_addLetter s_Nodes_has) k_Nodes_addLetter J K (n + 1) 1 L S M = ai_iload 1 2 (am_run (c_Nodes_addLetter s_Nodes_has) k_Nodes_addLetter J K n) K 1 L S M := by rfl
theorem r_Nodes_addLetter_2 {s_Nodes_has : aS} {J : aJ} {K : aR} {n : Nat} {L : aL} {S : List Value} {M : aM} : am_run (c_Nodes_addLetter s_Nodes_has) k_Nodes_addLetter J K (n + 1) 2 L S M = ai_callv2 0 s_Nodes_has 5 (am_run (c_Nodes_addLetter s_Nodes_has) k_Nodes_addLetter J K n) K 2 L S M := by rfl
theorem r_Nodes_addLetter_5 {s_Nodes_has : aS} {J : aJ} {K : aR} {n : Nat} {L : aL} {S : List Value} {M : aM} : am_run (c_Nodes_addLetter s_Nodes_has) k_Nodes_addLetter J K (n + 1) 5 L S M = ai_ifeq 57 8 (am_run (c_Nodes_addLetter s_Nodes_has) k_Nodes_addLetter J K n) K 5 L S M := by rfl
theorem r_Nodes_addLetter_8 {s_Nodes_has : aS} {J : aJ} {K : aR} {n : Nat} {L : aL} {S : List Value} {M : aM} : am_run (c_Nodes_addLetter s_Nodes_has) k_Nodes_addLetter J K (n + 1) 8 L S M = ai_aload 0 9 (am_run (c_Nodes_addLetter s_Nodes_has) k_Nodes_addLetter J K n) K 8 L S M := by rfl
theorem r_Nodes_addLetter_9 {s_Nodes_has : aS} {J : aJ} {K : aR} {n : Nat} {L : aL} {S : List Value} {M : aM} : am_run (c_Nodes_addLetter s_Nodes_has) k_Nodes_addLetter J K (n + 1) 9 L S M = ai_getf 0 9 12 (am_run (c_Nodes_addLetter s_Nodes_has) k_Nodes_addLetter J K n) K 9 L S M := by rfl
theorem r_Nodes_addLetter_12 {s_Nodes_has : aS} {J : aJ} {K : aR} {n : Nat} {L : aL} {S : List Value} {M : aM} : am_run (c_Nodes_addLetter s_Nodes_has) k_Nodes_addLetter J K (n + 1) 12 L S M = ai_iflt 57 15 (am_run (c_Nodes_addLetter s_Nodes_has) k_Nodes_addLetter J K n) K 12 L S M := by rfl
theorem r_Nodes_addLetter_15 {s_Nodes_has : aS} {J : aJ} {K : aR} {n : Nat} {L : aL} {S : List Value} {M : aM} : am_run (c_Nodes_addLetter s_Nodes_has) k_Nodes_addLetter J K (n + 1) 15 L S M = ai_aload 0 16 (am_run (c_Nodes_addLetter s_Nodes_has) k_Nodes_addLetter J K n) K 15 L S M := by rfl
theorem r_Nodes_addLetter_16 {s_Nodes_has : aS} {J : aJ} {K : aR} {n : Nat} {L : aL} {S : List Value} {M : aM} : am_run (c_Nodes_addLetter s_Nodes_has) k_Nodes_addLetter J K (n + 1) 16 L S M = ai_getf 0 9 19 (am_run (c_Nodes_addLetter s_Nodes_has) k_Nodes_addLetter J K n) K 16 L S M := by rfl
theorem r_Nodes_addLetter_19 {s_Nodes_has : aS} {J : aJ} {K : aR} {n : Nat} {L : aL} {S : List Value} {M : aM} : am_run (c_Nodes_addLetter s_Nodes_has) k_Nodes_addLetter J K (n + 1) 19 L S M = ai_aload 0 20 (am_run (c_Nodes_addLetter s_Nodes_has) k_Nodes_addLetter J K n) K 19 L S M := by rfl
theorem r_Nodes_addLetter_20 {s_Nodes_has : aS} {J : aJ} {K : aR} {n : Nat} {L : aL} {S : List Value} {M : aM} : am_run (c_Nodes_addLetter s_Nodes_has) k_Nodes_addLetter J K (n + 1) 20 L S M = ai_getf 0 8 23 (am_run (c_Nodes_addLetter s_Nodes_has) k_Nodes_addLetter J K n) K 20 L S M := by rfl
theorem r_Nodes_addLetter_23 {s_Nodes_has : aS} {J : aJ} {K : aR} {n : Nat} {L : aL} {S : List Value} {M : aM} : am_run (c_Nodes_addLetter s_Nodes_has) k_Nodes_addLetter J K (n + 1) 23 L S M = ai_alen 24 (am_run (c_Nodes_addLetter s_Nodes_has) k_Nodes_addLetter J K n) K 23 L S M := by rfl
theorem r_Nodes_addLetter_24 {s_Nodes_has : aS} {J : aJ} {K : aR} {n : Nat} {L : aL} {S : List Value} {M : aM} : am_run (c_Nodes_addLetter s_Nodes_has) k_Nodes_addLetter J K (n + 1) 24 L S M = ai_cmpge 57 27 (am_run (c_Nodes_addLetter s_Nodes_has) k_Nodes_addLetter J K n) K 24 L S M := by rfl
theorem r_Nodes_addLetter_27 {s_Nodes_has : aS} {J : aJ} {K : aR} {n : Nat} {L : aL} {S : List Value} {M : aM} : am_run (c_Nodes_addLetter s_Nodes_has) k_Nodes_addLetter J K (n + 1) 27 L S M = ai_aload 0 28 (am_run (c_Nodes_addLetter s_Nodes_has) k_Nodes_addLetter J K n) K 27 L S M := by rfl
theorem r_Nodes_addLetter_28 {s_Nodes_has : aS} {J : aJ} {K : aR} {n : Nat} {L : aL} {S : List Value} {M : aM} : am_run (c_Nodes_addLetter s_Nodes_has) k_Nodes_addLetter J K (n + 1) 28 L S M = ai_getf 0 8 31 (am_run (c_Nodes_addLetter s_Nodes_has) k_Nodes_addLetter J K n) K 28 L S M := by rfl
theorem r_Nodes_addLetter_31 {s_Nodes_has : aS} {J : aJ} {K : aR} {n : Nat} {L : aL} {S : List Value} {M : aM} : am_run (c_Nodes_addLetter s_Nodes_has) k_Nodes_addLetter J K (n + 1) 31 L S M = ai_aload 0 32 (am_run (c_Nodes_addLetter s_Nodes_has) k_Nodes_addLetter J K n) K 31 L S M := by rfl
theorem r_Nodes_addLetter_32 {s_Nodes_has : aS} {J : aJ} {K : aR} {n : Nat} {L : aL} {S : List Value} {M : aM} : am_run (c_Nodes_addLetter s_Nodes_has) k_Nodes_addLetter J K (n + 1) 32 L S M = ai_getf 0 9 35 (am_run (c_Nodes_addLetter s_Nodes_has) k_Nodes_addLetter J K n) K 32 L S M := by rfl
theorem r_Nodes_addLetter_35 {s_Nodes_has : aS} {J : aJ} {K : aR} {n : Nat} {L : aL} {S : List Value} {M : aM} : am_run (c_Nodes_addLetter s_Nodes_has) k_Nodes_addLetter J K (n + 1) 35 L S M = ai_iload 2 36 (am_run (c_Nodes_addLetter s_Nodes_has) k_Nodes_addLetter J K n) K 35 L S M := by rfl
theorem r_Nodes_addLetter_36 {s_Nodes_has : aS} {J : aJ} {K : aR} {n : Nat} {L : aL} {S : List Value} {M : aM} : am_run (c_Nodes_addLetter s_Nodes_has) k_Nodes_addLetter J K (n + 1) 36 L S M = ai_iast 37 (am_run (c_Nodes_addLetter s_Nodes_has) k_Nodes_addLetter J K n) K 36 L S M := by rfl
theorem r_Nodes_addLetter_37 {s_Nodes_has : aS} {J : aJ} {K : aR} {n : Nat} {L : aL} {S : List Value} {M : aM} : am_run (c_Nodes_addLetter s_Nodes_has) k_Nodes_addLetter J K (n + 1) 37 L S M = ai_aload 0 38 (am_run (c_Nodes_addLetter s_Nodes_has) k_Nodes_addLetter J K n) K 37 L S M := by rfl
theorem r_Nodes_addLetter_38 {s_Nodes_has : aS} {J : aJ} {K : aR} {n : Nat} {L : aL} {S : List Value} {M : aM} : am_run (c_Nodes_addLetter s_Nodes_has) k_Nodes_addLetter J K (n + 1) 38 L S M = ai_dup 39 (am_run (c_Nodes_addLetter s_Nodes_has) k_Nodes_addLetter J K n) K 38 L S M := by rfl
theorem r_Nodes_addLetter_39 {s_Nodes_has : aS} {J : aJ} {K : aR} {n : Nat} {L : aL} {S : List Value} {M : aM} : am_run (c_Nodes_addLetter s_Nodes_has) k_Nodes_addLetter J K (n + 1) 39 L S M = ai_getf 0 9 42 (am_run (c_Nodes_addLetter s_Nodes_has) k_Nodes_addLetter J K n) K 39 L S M := by rfl
theorem r_Nodes_addLetter_42 {s_Nodes_has : aS} {J : aJ} {K : aR} {n : Nat} {L : aL} {S : List Value} {M : aM} : am_run (c_Nodes_addLetter s_Nodes_has) k_Nodes_addLetter J K (n + 1) 42 L S M = ai_const 1 43 (am_run (c_Nodes_addLetter s_Nodes_has) k_Nodes_addLetter J K n) K 42 L S M := by rfl
theorem r_Nodes_addLetter_43 {s_Nodes_has : aS} {J : aJ} {K : aR} {n : Nat} {L : aL} {S : List Value} {M : aM} : am_run (c_Nodes_addLetter s_Nodes_has) k_Nodes_addLetter J K (n + 1) 43 L S M = ai_iadd 44 (am_run (c_Nodes_addLetter s_Nodes_has) k_Nodes_addLetter J K n) K 43 L S M := by rfl
theorem r_Nodes_addLetter_44 {s_Nodes_has : aS} {J : aJ} {K : aR} {n : Nat} {L : aL} {S : List Value} {M : aM} : am_run (c_Nodes_addLetter s_Nodes_has) k_Nodes_addLetter J K (n + 1) 44 L S M = ai_putf 0 9 47 (am_run (c_Nodes_addLetter s_Nodes_has) k_Nodes_addLetter J K n) K 44 L S M := by rfl
theorem r_Nodes_addLetter_47 {s_Nodes_has : aS} {J : aJ} {K : aR} {n : Nat} {L : aL} {S : List Value} {M : aM} : am_run (c_Nodes_addLetter s_Nodes_has) k_Nodes_addLetter J K (n + 1) 47 L S M = ai_aload 0 48 (am_run (c_Nodes_addLetter s_Nodes_has) k_Nodes_addLetter J K n) K 47 L S M := by rfl
theorem r_Nodes_addLetter_48 {s_Nodes_has : aS} {J : aJ} {K : aR} {n : Nat} {L : aL} {S : List Value} {M : aM} : am_run (c_Nodes_addLetter s_Nodes_has) k_Nodes_addLetter J K (n + 1) 48 L S M = ai_getf 0 1 51 (am_run (c_Nodes_addLetter s_Nodes_has) k_Nodes_addLetter J K n) K 48 L S M := by rfl
theorem r_Nodes_addLetter_51 {s_Nodes_has : aS} {J : aJ} {K : aR} {n : Nat} {L : aL} {S : List Value} {M : aM} : am_run (c_Nodes_addLetter s_Nodes_has) k_Nodes_addLetter J K (n + 1) 51 L S M = ai_iload 1 52 (am_run (c_Nodes_addLetter s_Nodes_has) k_Nodes_addLetter J K n) K 51 L S M := by rfl
theorem r_Nodes_addLetter_52 {s_Nodes_has : aS} {J : aJ} {K : aR} {n : Nat} {L : aL} {S : List Value} {M : aM} : am_run (c_Nodes_addLetter s_Nodes_has) k_Nodes_addLetter J K (n + 1) 52 L S M = ai_dup2 53 (am_run (c_Nodes_addLetter s_Nodes_has) k_Nodes_addLetter J K n) K 52 L S M := by rfl
theorem r_Nodes_addLetter_53 {s_Nodes_has : aS} {J : aJ} {K : aR} {n : Nat} {L : aL} {S : List Value} {M : aM} : am_run (c_Nodes_addLetter s_Nodes_has) k_Nodes_addLetter J K (n + 1) 53 L S M = ai_iald 54 (am_run (c_Nodes_addLetter s_Nodes_has) k_Nodes_addLetter J K n) K 53 L S M := by rfl
theorem r_Nodes_addLetter_54 {s_Nodes_has : aS} {J : aJ} {K : aR} {n : Nat} {L : aL} {S : List Value} {M : aM} : am_run (c_Nodes_addLetter s_Nodes_has) k_Nodes_addLetter J K (n + 1) 54 L S M = ai_const 1 55 (am_run (c_Nodes_addLetter s_Nodes_has) k_Nodes_addLetter J K n) K 54 L S M := by rfl
theorem r_Nodes_addLetter_55 {s_Nodes_has : aS} {J : aJ} {K : aR} {n : Nat} {L : aL} {S : List Value} {M : aM} : am_run (c_Nodes_addLetter s_Nodes_has) k_Nodes_addLetter J K (n + 1) 55 L S M = ai_iadd 56 (am_run (c_Nodes_addLetter s_Nodes_has) k_Nodes_addLetter J K n) K 55 L S M := by rfl
theorem r_Nodes_addLetter_56 {s_Nodes_has : aS} {J : aJ} {K : aR} {n : Nat} {L : aL} {S : List Value} {M : aM} : am_run (c_Nodes_addLetter s_Nodes_has) k_Nodes_addLetter J K (n + 1) 56 L S M = ai_iast 57 (am_run (c_Nodes_addLetter s_Nodes_has) k_Nodes_addLetter J K n) K 56 L S M := by rfl
theorem r_Nodes_addLetter_57 {s_Nodes_has : aS} {J : aJ} {K : aR} {n : Nat} {L : aL} {S : List Value} {M : aM} : am_run (c_Nodes_addLetter s_Nodes_has) k_Nodes_addLetter J K (n + 1) 57 L S M = ai_vret (am_run (c_Nodes_addLetter s_Nodes_has) k_Nodes_addLetter J K n) K 57 L S M := by rfl
def c_Nodes_nameQuote (s_Nodes_has : aS) : List (Nat × aI) := [
  (0, ai_aload 0 1),
  (1, ai_iload 1 2),
  (2, ai_callv2 0 s_Nodes_has 5),
  (5, ai_ifeq 25 8),
  (8, ai_aload 0 9),
  (9, ai_getf 0 2 12),
  (12, ai_iload 1 13),
  (13, ai_const 0 14),
  (14, ai_iast 15),
  (15, ai_aload 0 16),
  (16, ai_getf 0 1 19),
  (19, ai_iload 1 20),
  (20, ai_gets (.ref 1000) 23),
  (23, ai_xlen 1000 5 24),
  (24, ai_iast 25),
  (25, ai_vret)]
set_option maxRecDepth 100000 in
set_option maxHeartbeats 4000000 in
theorem tb_Nodes_nameQuote {G : aG} {d : Nat} {s_Nodes_has : aS} {d_Nodes_has : Nat} (h_Nodes_has : am_Sp G Y_Nodes_has d_Nodes_has s_Nodes_has) (l_Nodes_has : d_Nodes_has < d) : am_tab G Y_Nodes_nameQuote d (c_Nodes_nameQuote s_Nodes_has) := by
  intro K p e s m args below meth c C
  exact ⟨as_aload_n C (pc := 0) (q := 0) (by decide +kernel) rfl rfl,
    as_iload_n C (pc := 1) (q := 1) (by decide +kernel) rfl rfl,
    as_callv2 C (pc := 2) h_Nodes_has (T := T_Nodes) (N := 10) rfl w_341 w_72 w_340 w_21 w_338 hy_Nodes_has (am_rm_of l_Nodes_has (by decide)) (by decide +kernel) rfl,
    as_ifeq C (pc := 5) (off := 20) (by decide +kernel) (by decide) rfl,
    as_aload_n C (pc := 8) (q := 0) (by decide +kernel) rfl rfl,
    as_getf C (pc := 9) (T := T_Nodes) (N := 10) rfl in_Nodes (by decide) rfl w_120 (by decide +kernel) rfl,
    as_iload_n C (pc := 12) (q := 1) (by decide +kernel) rfl rfl,
    as_iconst C (pc := 13) (n := 0) (by decide +kernel) (by decide +kernel) rfl,
    as_iast C (pc := 14) (by decide +kernel) rfl,
    as_aload_n C (pc := 15) (q := 0) (by decide +kernel) rfl rfl,
    as_getf C (pc := 16) (T := T_Nodes) (N := 10) rfl in_Nodes (by decide) rfl w_119 (by decide +kernel) rfl,
    as_iload_n C (pc := 19) (q := 1) (by decide +kernel) rfl rfl,
    as_getsN C (pc := 20) (Cn := "DatumDesk") (f := "QUOTE") (d := "[I") List.mem_cons_self w_113 (by decide +kernel) rfl,
    as_xlen C (pc := 23) (hm_1000 G) (by decide +kernel) rfl,
    as_iast C (pc := 24) (by decide +kernel) rfl,
    as_vret C (pc := 25) rfl (by decide +kernel), trivial⟩
abbrev k_Nodes_nameQuote : List Nat := []
theorem r_Nodes_nameQuote_0 {s_Nodes_has : aS} {J : aJ} {K : aR} {n : Nat} {L : aL} {S : List Value} {M : aM} : am_run (c_Nodes_nameQuote s_Nodes_has) k_Nodes_nameQuote J K (n + 1) 0 L S M = ai_aload 0 1 (am_run (c_Nodes_nameQuote s_Nodes_has) k_Nodes_nameQuote J K n) K 0 L S M := by rfl
theorem r_Nodes_nameQuote_1 {s_Nodes_has : aS} {J : aJ} {K : aR} {n : Nat} {L : aL} {S : List Value} {M : aM} : am_run (c_Nodes_nameQuote s_Nodes_has) k_Nodes_nameQuote J K (n + 1) 1 L S M = ai_iload 1 2 (am_run (c_Nodes_nameQuote s_Nodes_has) k_Nodes_nameQuote J K n) K 1 L S M := by rfl
theorem r_Nodes_nameQuote_2 {s_Nodes_has : aS} {J : aJ} {K : aR} {n : Nat} {L : aL} {S : List Value} {M : aM} : am_run (c_Nodes_nameQuote s_Nodes_has) k_Nodes_nameQuote J K (n + 1) 2 L S M = ai_callv2 0 s_Nodes_has 5 (am_run (c_Nodes_nameQuote s_Nodes_has) k_Nodes_nameQuote J K n) K 2 L S M := by rfl
theorem r_Nodes_nameQuote_5 {s_Nodes_has : aS} {J : aJ} {K : aR} {n : Nat} {L : aL} {S : List Value} {M : aM} : am_run (c_Nodes_nameQuote s_Nodes_has) k_Nodes_nameQuote J K (n + 1) 5 L S M = ai_ifeq 25 8 (am_run (c_Nodes_nameQuote s_Nodes_has) k_Nodes_nameQuote J K n) K 5 L S M := by rfl
theorem r_Nodes_nameQuote_8 {s_Nodes_has : aS} {J : aJ} {K : aR} {n : Nat} {L : aL} {S : List Value} {M : aM} : am_run (c_Nodes_nameQuote s_Nodes_has) k_Nodes_nameQuote J K (n + 1) 8 L S M = ai_aload 0 9 (am_run (c_Nodes_nameQuote s_Nodes_has) k_Nodes_nameQuote J K n) K 8 L S M := by rfl
theorem r_Nodes_nameQuote_9 {s_Nodes_has : aS} {J : aJ} {K : aR} {n : Nat} {L : aL} {S : List Value} {M : aM} : am_run (c_Nodes_nameQuote s_Nodes_has) k_Nodes_nameQuote J K (n + 1) 9 L S M = ai_getf 0 2 12 (am_run (c_Nodes_nameQuote s_Nodes_has) k_Nodes_nameQuote J K n) K 9 L S M := by rfl
theorem r_Nodes_nameQuote_12 {s_Nodes_has : aS} {J : aJ} {K : aR} {n : Nat} {L : aL} {S : List Value} {M : aM} : am_run (c_Nodes_nameQuote s_Nodes_has) k_Nodes_nameQuote J K (n + 1) 12 L S M = ai_iload 1 13 (am_run (c_Nodes_nameQuote s_Nodes_has) k_Nodes_nameQuote J K n) K 12 L S M := by rfl
theorem r_Nodes_nameQuote_13 {s_Nodes_has : aS} {J : aJ} {K : aR} {n : Nat} {L : aL} {S : List Value} {M : aM} : am_run (c_Nodes_nameQuote s_Nodes_has) k_Nodes_nameQuote J K (n + 1) 13 L S M = ai_const 0 14 (am_run (c_Nodes_nameQuote s_Nodes_has) k_Nodes_nameQuote J K n) K 13 L S M := by rfl
theorem r_Nodes_nameQuote_14 {s_Nodes_has : aS} {J : aJ} {K : aR} {n : Nat} {L : aL} {S : List Value} {M : aM} : am_run (c_Nodes_nameQuote s_Nodes_has) k_Nodes_nameQuote J K (n + 1) 14 L S M = ai_iast 15 (am_run (c_Nodes_nameQuote s_Nodes_has) k_Nodes_nameQuote J K n) K 14 L S M := by rfl
theorem r_Nodes_nameQuote_15 {s_Nodes_has : aS} {J : aJ} {K : aR} {n : Nat} {L : aL} {S : List Value} {M : aM} : am_run (c_Nodes_nameQuote s_Nodes_has) k_Nodes_nameQuote J K (n + 1) 15 L S M = ai_aload 0 16 (am_run (c_Nodes_nameQuote s_Nodes_has) k_Nodes_nameQuote J K n) K 15 L S M := by rfl
theorem r_Nodes_nameQuote_16 {s_Nodes_has : aS} {J : aJ} {K : aR} {n : Nat} {L : aL} {S : List Value} {M : aM} : am_run (c_Nodes_nameQuote s_Nodes_has) k_Nodes_nameQuote J K (n + 1) 16 L S M = ai_getf 0 1 19 (am_run (c_Nodes_nameQuote s_Nodes_has) k_Nodes_nameQuote J K n) K 16 L S M := by rfl
theorem r_Nodes_nameQuote_19 {s_Nodes_has : aS} {J : aJ} {K : aR} {n : Nat} {L : aL} {S : List Value} {M : aM} : am_run (c_Nodes_nameQuote s_Nodes_has) k_Nodes_nameQuote J K (n + 1) 19 L S M = ai_iload 1 20 (am_run (c_Nodes_nameQuote s_Nodes_has) k_Nodes_nameQuote J K n) K 19 L S M := by rfl
theorem r_Nodes_nameQuote_20 {s_Nodes_has : aS} {J : aJ} {K : aR} {n : Nat} {L : aL} {S : List Value} {M : aM} : am_run (c_Nodes_nameQuote s_Nodes_has) k_Nodes_nameQuote J K (n + 1) 20 L S M = ai_gets (.ref 1000) 23 (am_run (c_Nodes_nameQuote s_Nodes_has) k_Nodes_nameQuote J K n) K 20 L S M := by rfl
theorem r_Nodes_nameQuote_23 {s_Nodes_has : aS} {J : aJ} {K : aR} {n : Nat} {L : aL} {S : List Value} {M : aM} : am_run (c_Nodes_nameQuote s_Nodes_has) k_Nodes_nameQuote J K (n + 1) 23 L S M = ai_xlen 1000 5 24 (am_run (c_Nodes_nameQuote s_Nodes_has) k_Nodes_nameQuote J K n) K 23 L S M := by rfl
theorem r_Nodes_nameQuote_24 {s_Nodes_has : aS} {J : aJ} {K : aR} {n : Nat} {L : aL} {S : List Value} {M : aM} : am_run (c_Nodes_nameQuote s_Nodes_has) k_Nodes_nameQuote J K (n + 1) 24 L S M = ai_iast 25 (am_run (c_Nodes_nameQuote s_Nodes_has) k_Nodes_nameQuote J K n) K 24 L S M := by rfl
theorem r_Nodes_nameQuote_25 {s_Nodes_has : aS} {J : aJ} {K : aR} {n : Nat} {L : aL} {S : List Value} {M : aM} : am_run (c_Nodes_nameQuote s_Nodes_has) k_Nodes_nameQuote J K (n + 1) 25 L S M = ai_vret (am_run (c_Nodes_nameQuote s_Nodes_has) k_Nodes_nameQuote J K n) K 25 L S M := by rfl
def c_Nodes_setAmount (s_Nodes_has : aS) : List (Nat × aI) := [
  (0, ai_aload 0 1),
  (1, ai_iload 1 2),
  (2, ai_callv2 0 s_Nodes_has 5),
  (5, ai_ifeq 15 8),
  (8, ai_aload 0 9),
  (9, ai_getf 0 1 12),
  (12, ai_iload 1 13),
  (13, ai_iload 2 14),
  (14, ai_iast 15),
  (15, ai_vret)]
set_option maxRecDepth 100000 in
set_option maxHeartbeats 4000000 in
theorem tb_Nodes_setAmount {G : aG} {d : Nat} {s_Nodes_has : aS} {d_Nodes_has : Nat} (h_Nodes_has : am_Sp G Y_Nodes_has d_Nodes_has s_Nodes_has) (l_Nodes_has : d_Nodes_has < d) : am_tab G Y_Nodes_setAmount d (c_Nodes_setAmount s_Nodes_has) := by
  intro K p e s m args below meth c C
  exact ⟨as_aload_n C (pc := 0) (q := 0) (by decide +kernel) rfl rfl,
    as_iload_n C (pc := 1) (q := 1) (by decide +kernel) rfl rfl,
    as_callv2 C (pc := 2) h_Nodes_has (T := T_Nodes) (N := 10) rfl w_341 w_72 w_340 w_21 w_338 hy_Nodes_has (am_rm_of l_Nodes_has (by decide)) (by decide +kernel) rfl,
    as_ifeq C (pc := 5) (off := 10) (by decide +kernel) (by decide) rfl,
    as_aload_n C (pc := 8) (q := 0) (by decide +kernel) rfl rfl,
    as_getf C (pc := 9) (T := T_Nodes) (N := 10) rfl in_Nodes (by decide) rfl w_119 (by decide +kernel) rfl,
    as_iload_n C (pc := 12) (q := 1) (by decide +kernel) rfl rfl,
    as_iload_n C (pc := 13) (q := 2) (by decide +kernel) rfl rfl,
    as_iast C (pc := 14) (by decide +kernel) rfl,
    as_vret C (pc := 15) rfl (by decide +kernel), trivial⟩
abbrev k_Nodes_setAmount : List Nat := []
theorem r_Nodes_setAmount_0 {s_Nodes_has : aS} {J : aJ} {K : aR} {n : Nat} {L : aL} {S : List Value} {M : aM} : am_run (c_Nodes_setAmount s_Nodes_has) k_Nodes_setAmount J K (n + 1) 0 L S M = ai_aload 0 1 (am_run (c_Nodes_setAmount s_Nodes_has) k_Nodes_setAmount J K n) K 0 L S M := by rfl
theorem r_Nodes_setAmount_1 {s_Nodes_has : aS} {J : aJ} {K : aR} {n : Nat} {L : aL} {S : List Value} {M : aM} : am_run (c_Nodes_setAmount s_Nodes_has) k_Nodes_setAmount J K (n + 1) 1 L S M = ai_iload 1 2 (am_run (c_Nodes_setAmount s_Nodes_has) k_Nodes_setAmount J K n) K 1 L S M := by rfl
theorem r_Nodes_setAmount_2 {s_Nodes_has : aS} {J : aJ} {K : aR} {n : Nat} {L : aL} {S : List Value} {M : aM} : am_run (c_Nodes_setAmount s_Nodes_has) k_Nodes_setAmount J K (n + 1) 2 L S M = ai_callv2 0 s_Nodes_has 5 (am_run (c_Nodes_setAmount s_Nodes_has) k_Nodes_setAmount J K n) K 2 L S M := by rfl
theorem r_Nodes_setAmount_5 {s_Nodes_has : aS} {J : aJ} {K : aR} {n : Nat} {L : aL} {S : List Value} {M : aM} : am_run (c_Nodes_setAmount s_Nodes_has) k_Nodes_setAmount J K (n + 1) 5 L S M = ai_ifeq 15 8 (am_run (c_Nodes_setAmount s_Nodes_has) k_Nodes_setAmount J K n) K 5 L S M := by rfl
theorem r_Nodes_setAmount_8 {s_Nodes_has : aS} {J : aJ} {K : aR} {n : Nat} {L : aL} {S : List Value} {M : aM} : am_run (c_Nodes_setAmount s_Nodes_has) k_Nodes_setAmount J K (n + 1) 8 L S M = ai_aload 0 9 (am_run (c_Nodes_setAmount s_Nodes_has) k_Nodes_setAmount J K n) K 8 L S M := by rfl
theorem r_Nodes_setAmount_9 {s_Nodes_has : aS} {J : aJ} {K : aR} {n : Nat} {L : aL} {S : List Value} {M : aM} : am_run (c_Nodes_setAmount s_Nodes_has) k_Nodes_setAmount J K (n + 1) 9 L S M = ai_getf 0 1 12 (am_run (c_Nodes_setAmount s_Nodes_has) k_Nodes_setAmount J K n) K 9 L S M := by rfl
theorem r_Nodes_setAmount_12 {s_Nodes_has : aS} {J : aJ} {K : aR} {n : Nat} {L : aL} {S : List Value} {M : aM} : am_run (c_Nodes_setAmount s_Nodes_has) k_Nodes_setAmount J K (n + 1) 12 L S M = ai_iload 1 13 (am_run (c_Nodes_setAmount s_Nodes_has) k_Nodes_setAmount J K n) K 12 L S M := by rfl
theorem r_Nodes_setAmount_13 {s_Nodes_has : aS} {J : aJ} {K : aR} {n : Nat} {L : aL} {S : List Value} {M : aM} : am_run (c_Nodes_setAmount s_Nodes_has) k_Nodes_setAmount J K (n + 1) 13 L S M = ai_iload 2 14 (am_run (c_Nodes_setAmount s_Nodes_has) k_Nodes_setAmount J K n) K 13 L S M := by rfl
theorem r_Nodes_setAmount_14 {s_Nodes_has : aS} {J : aJ} {K : aR} {n : Nat} {L : aL} {S : List Value} {M : aM} : am_run (c_Nodes_setAmount s_Nodes_has) k_Nodes_setAmount J K (n + 1) 14 L S M = ai_iast 15 (am_run (c_Nodes_setAmount s_Nodes_has) k_Nodes_setAmount J K n) K 14 L S M := by rfl
theorem r_Nodes_setAmount_15 {s_Nodes_has : aS} {J : aJ} {K : aR} {n : Nat} {L : aL} {S : List Value} {M : aM} : am_run (c_Nodes_setAmount s_Nodes_has) k_Nodes_setAmount J K (n + 1) 15 L S M = ai_vret (am_run (c_Nodes_setAmount s_Nodes_has) k_Nodes_setAmount J K n) K 15 L S M := by rfl
def c_Nodes_setHead (s_Nodes_has : aS) : List (Nat × aI) := [
  (0, ai_aload 0 1),
  (1, ai_iload 1 2),
  (2, ai_callv2 0 s_Nodes_has 5),
  (5, ai_ifeq 15 8),
  (8, ai_aload 0 9),
  (9, ai_getf 0 3 12),
  (12, ai_iload 1 13),
  (13, ai_iload 2 14),
  (14, ai_iast 15),
  (15, ai_vret)]
set_option maxRecDepth 100000 in
set_option maxHeartbeats 4000000 in
theorem tb_Nodes_setHead {G : aG} {d : Nat} {s_Nodes_has : aS} {d_Nodes_has : Nat} (h_Nodes_has : am_Sp G Y_Nodes_has d_Nodes_has s_Nodes_has) (l_Nodes_has : d_Nodes_has < d) : am_tab G Y_Nodes_setHead d (c_Nodes_setHead s_Nodes_has) := by
  intro K p e s m args below meth c C
  exact ⟨as_aload_n C (pc := 0) (q := 0) (by decide +kernel) rfl rfl,
    as_iload_n C (pc := 1) (q := 1) (by decide +kernel) rfl rfl,
    as_callv2 C (pc := 2) h_Nodes_has (T := T_Nodes) (N := 10) rfl w_341 w_72 w_340 w_21 w_338 hy_Nodes_has (am_rm_of l_Nodes_has (by decide)) (by decide +kernel) rfl,
    as_ifeq C (pc := 5) (off := 10) (by decide +kernel) (by decide) rfl,
    as_aload_n C (pc := 8) (q := 0) (by decide +kernel) rfl rfl,
    as_getf C (pc := 9) (T := T_Nodes) (N := 10) rfl in_Nodes (by decide) rfl w_121 (by decide +kernel) rfl,
    as_iload_n C (pc := 12) (q := 1) (by decide +kernel) rfl rfl,
    as_iload_n C (pc := 13) (q := 2) (by decide +kernel) rfl rfl,
    as_iast C (pc := 14) (by decide +kernel) rfl,
    as_vret C (pc := 15) rfl (by decide +kernel), trivial⟩
abbrev k_Nodes_setHead : List Nat := []
theorem r_Nodes_setHead_0 {s_Nodes_has : aS} {J : aJ} {K : aR} {n : Nat} {L : aL} {S : List Value} {M : aM} : am_run (c_Nodes_setHead s_Nodes_has) k_Nodes_setHead J K (n + 1) 0 L S M = ai_aload 0 1 (am_run (c_Nodes_setHead s_Nodes_has) k_Nodes_setHead J K n) K 0 L S M := by rfl
theorem r_Nodes_setHead_1 {s_Nodes_has : aS} {J : aJ} {K : aR} {n : Nat} {L : aL} {S : List Value} {M : aM} : am_run (c_Nodes_setHead s_Nodes_has) k_Nodes_setHead J K (n + 1) 1 L S M = ai_iload 1 2 (am_run (c_Nodes_setHead s_Nodes_has) k_Nodes_setHead J K n) K 1 L S M := by rfl
theorem r_Nodes_setHead_2 {s_Nodes_has : aS} {J : aJ} {K : aR} {n : Nat} {L : aL} {S : List Value} {M : aM} : am_run (c_Nodes_setHead s_Nodes_has) k_Nodes_setHead J K (n + 1) 2 L S M = ai_callv2 0 s_Nodes_has 5 (am_run (c_Nodes_setHead s_Nodes_has) k_Nodes_setHead J K n) K 2 L S M := by rfl
theorem r_Nodes_setHead_5 {s_Nodes_has : aS} {J : aJ} {K : aR} {n : Nat} {L : aL} {S : List Value} {M : aM} : am_run (c_Nodes_setHead s_Nodes_has) k_Nodes_setHead J K (n + 1) 5 L S M = ai_ifeq 15 8 (am_run (c_Nodes_setHead s_Nodes_has) k_Nodes_setHead J K n) K 5 L S M := by rfl
theorem r_Nodes_setHead_8 {s_Nodes_has : aS} {J : aJ} {K : aR} {n : Nat} {L : aL} {S : List Value} {M : aM} : am_run (c_Nodes_setHead s_Nodes_has) k_Nodes_setHead J K (n + 1) 8 L S M = ai_aload 0 9 (am_run (c_Nodes_setHead s_Nodes_has) k_Nodes_setHead J K n) K 8 L S M := by rfl
theorem r_Nodes_setHead_9 {s_Nodes_has : aS} {J : aJ} {K : aR} {n : Nat} {L : aL} {S : List Value} {M : aM} : am_run (c_Nodes_setHead s_Nodes_has) k_Nodes_setHead J K (n + 1) 9 L S M = ai_getf 0 3 12 (am_run (c_Nodes_setHead s_Nodes_has) k_Nodes_setHead J K n) K 9 L S M := by rfl
theorem r_Nodes_setHead_12 {s_Nodes_has : aS} {J : aJ} {K : aR} {n : Nat} {L : aL} {S : List Value} {M : aM} : am_run (c_Nodes_setHead s_Nodes_has) k_Nodes_setHead J K (n + 1) 12 L S M = ai_iload 1 13 (am_run (c_Nodes_setHead s_Nodes_has) k_Nodes_setHead J K n) K 12 L S M := by rfl
theorem r_Nodes_setHead_13 {s_Nodes_has : aS} {J : aJ} {K : aR} {n : Nat} {L : aL} {S : List Value} {M : aM} : am_run (c_Nodes_setHead s_Nodes_has) k_Nodes_setHead J K (n + 1) 13 L S M = ai_iload 2 14 (am_run (c_Nodes_setHead s_Nodes_has) k_Nodes_setHead J K n) K 13 L S M := by rfl
theorem r_Nodes_setHead_14 {s_Nodes_has : aS} {J : aJ} {K : aR} {n : Nat} {L : aL} {S : List Value} {M : aM} : am_run (c_Nodes_setHead s_Nodes_has) k_Nodes_setHead J K (n + 1) 14 L S M = ai_iast 15 (am_run (c_Nodes_setHead s_Nodes_has) k_Nodes_setHead J K n) K 14 L S M := by rfl
theorem r_Nodes_setHead_15 {s_Nodes_has : aS} {J : aJ} {K : aR} {n : Nat} {L : aL} {S : List Value} {M : aM} : am_run (c_Nodes_setHead s_Nodes_has) k_Nodes_setHead J K (n + 1) 15 L S M = ai_vret (am_run (c_Nodes_setHead s_Nodes_has) k_Nodes_setHead J K n) K 15 L S M := by rfl
def c_Nodes_setTail (s_Nodes_has : aS) : List (Nat × aI) := [
  (0, ai_aload 0 1),
  (1, ai_iload 1 2),
  (2, ai_callv2 0 s_Nodes_has 5),
  (5, ai_ifeq 15 8),
  (8, ai_aload 0 9),
  (9, ai_getf 0 4 12),
  (12, ai_iload 1 13),
  (13, ai_iload 2 14),
  (14, ai_iast 15),
  (15, ai_vret)]
set_option maxRecDepth 100000 in
set_option maxHeartbeats 4000000 in
theorem tb_Nodes_setTail {G : aG} {d : Nat} {s_Nodes_has : aS} {d_Nodes_has : Nat} (h_Nodes_has : am_Sp G Y_Nodes_has d_Nodes_has s_Nodes_has) (l_Nodes_has : d_Nodes_has < d) : am_tab G Y_Nodes_setTail d (c_Nodes_setTail s_Nodes_has) := by
  intro K p e s m args below meth c C
  exact ⟨as_aload_n C (pc := 0) (q := 0) (by decide +kernel) rfl rfl,
    as_iload_n C (pc := 1) (q := 1) (by decide +kernel) rfl rfl,
    as_callv2 C (pc := 2) h_Nodes_has (T := T_Nodes) (N := 10) rfl w_341 w_72 w_340 w_21 w_338 hy_Nodes_has (am_rm_of l_Nodes_has (by decide)) (by decide +kernel) rfl,
    as_ifeq C (pc := 5) (off := 10) (by decide +kernel) (by decide) rfl,
    as_aload_n C (pc := 8) (q := 0) (by decide +kernel) rfl rfl,
    as_getf C (pc := 9) (T := T_Nodes) (N := 10) rfl in_Nodes (by decide) rfl w_122 (by decide +kernel) rfl,
    as_iload_n C (pc := 12) (q := 1) (by decide +kernel) rfl rfl,
    as_iload_n C (pc := 13) (q := 2) (by decide +kernel) rfl rfl,
    as_iast C (pc := 14) (by decide +kernel) rfl,
    as_vret C (pc := 15) rfl (by decide +kernel), trivial⟩
abbrev k_Nodes_setTail : List Nat := []
theorem r_Nodes_setTail_0 {s_Nodes_has : aS} {J : aJ} {K : aR} {n : Nat} {L : aL} {S : List Value} {M : aM} : am_run (c_Nodes_setTail s_Nodes_has) k_Nodes_setTail J K (n + 1) 0 L S M = ai_aload 0 1 (am_run (c_Nodes_setTail s_Nodes_has) k_Nodes_setTail J K n) K 0 L S M := by rfl
theorem r_Nodes_setTail_1 {s_Nodes_has : aS} {J : aJ} {K : aR} {n : Nat} {L : aL} {S : List Value} {M : aM} : am_run (c_Nodes_setTail s_Nodes_has) k_Nodes_setTail J K (n + 1) 1 L S M = ai_iload 1 2 (am_run (c_Nodes_setTail s_Nodes_has) k_Nodes_setTail J K n) K 1 L S M := by rfl
theorem r_Nodes_setTail_2 {s_Nodes_has : aS} {J : aJ} {K : aR} {n : Nat} {L : aL} {S : List Value} {M : aM} : am_run (c_Nodes_setTail s_Nodes_has) k_Nodes_setTail J K (n + 1) 2 L S M = ai_callv2 0 s_Nodes_has 5 (am_run (c_Nodes_setTail s_Nodes_has) k_Nodes_setTail J K n) K 2 L S M := by rfl
theorem r_Nodes_setTail_5 {s_Nodes_has : aS} {J : aJ} {K : aR} {n : Nat} {L : aL} {S : List Value} {M : aM} : am_run (c_Nodes_setTail s_Nodes_has) k_Nodes_setTail J K (n + 1) 5 L S M = ai_ifeq 15 8 (am_run (c_Nodes_setTail s_Nodes_has) k_Nodes_setTail J K n) K 5 L S M := by rfl
theorem r_Nodes_setTail_8 {s_Nodes_has : aS} {J : aJ} {K : aR} {n : Nat} {L : aL} {S : List Value} {M : aM} : am_run (c_Nodes_setTail s_Nodes_has) k_Nodes_setTail J K (n + 1) 8 L S M = ai_aload 0 9 (am_run (c_Nodes_setTail s_Nodes_has) k_Nodes_setTail J K n) K 8 L S M := by rfl
theorem r_Nodes_setTail_9 {s_Nodes_has : aS} {J : aJ} {K : aR} {n : Nat} {L : aL} {S : List Value} {M : aM} : am_run (c_Nodes_setTail s_Nodes_has) k_Nodes_setTail J K (n + 1) 9 L S M = ai_getf 0 4 12 (am_run (c_Nodes_setTail s_Nodes_has) k_Nodes_setTail J K n) K 9 L S M := by rfl
theorem r_Nodes_setTail_12 {s_Nodes_has : aS} {J : aJ} {K : aR} {n : Nat} {L : aL} {S : List Value} {M : aM} : am_run (c_Nodes_setTail s_Nodes_has) k_Nodes_setTail J K (n + 1) 12 L S M = ai_iload 1 13 (am_run (c_Nodes_setTail s_Nodes_has) k_Nodes_setTail J K n) K 12 L S M := by rfl
theorem r_Nodes_setTail_13 {s_Nodes_has : aS} {J : aJ} {K : aR} {n : Nat} {L : aL} {S : List Value} {M : aM} : am_run (c_Nodes_setTail s_Nodes_has) k_Nodes_setTail J K (n + 1) 13 L S M = ai_iload 2 14 (am_run (c_Nodes_setTail s_Nodes_has) k_Nodes_setTail J K n) K 13 L S M := by rfl
theorem r_Nodes_setTail_14 {s_Nodes_has : aS} {J : aJ} {K : aR} {n : Nat} {L : aL} {S : List Value} {M : aM} : am_run (c_Nodes_setTail s_Nodes_has) k_Nodes_setTail J K (n + 1) 14 L S M = ai_iast 15 (am_run (c_Nodes_setTail s_Nodes_has) k_Nodes_setTail J K n) K 14 L S M := by rfl
theorem r_Nodes_setTail_15 {s_Nodes_has : aS} {J : aJ} {K : aR} {n : Nat} {L : aL} {S : List Value} {M : aM} : am_run (c_Nodes_setTail s_Nodes_has) k_Nodes_setTail J K (n + 1) 15 L S M = ai_vret (am_run (c_Nodes_setTail s_Nodes_has) k_Nodes_setTail J K n) K 15 L S M := by rfl
def c_Nodes_datumNode : List (Nat × aI) := [
  (0, ai_iload 1 1),
  (1, ai_iflt 28 4),
  (4, ai_iload 1 5),
  (5, ai_aload 0 6),
  (6, ai_getf 0 7 9),
  (9, ai_cmpge 28 12),
  (12, ai_iload 1 13),
  (13, ai_const 200 16),
  (16, ai_cmpge 28 19),
  (19, ai_aload 0 20),
  (20, ai_getf 0 6 23),
  (23, ai_iload 1 24),
  (24, ai_iald 25),
  (25, ai_goto 29),
  (28, ai_const (-1) 29),
  (29, ai_iret)]
set_option maxRecDepth 100000 in
set_option maxHeartbeats 4000000 in
theorem tb_Nodes_datumNode {G : aG} {d : Nat} : am_tab G Y_Nodes_datumNode d (c_Nodes_datumNode) := by
  intro K p e s m args below meth c C
  exact ⟨as_iload_n C (pc := 0) (q := 1) (by decide +kernel) rfl rfl,
    as_iflt C (pc := 1) (off := 27) (by decide +kernel) (by decide) rfl,
    as_iload_n C (pc := 4) (q := 1) (by decide +kernel) rfl rfl,
    as_aload_n C (pc := 5) (q := 0) (by decide +kernel) rfl rfl,
    as_getf C (pc := 6) (T := T_Nodes) (N := 10) rfl in_Nodes (by decide) rfl w_126 (by decide +kernel) rfl,
    as_cmpge C (pc := 9) (off := 19) (by decide +kernel) (by decide) rfl,
    as_iload_n C (pc := 12) (q := 1) (by decide +kernel) rfl rfl,
    as_sipush C (pc := 13) (n := 200) (by decide +kernel) (by decide +kernel) rfl,
    as_cmpge C (pc := 16) (off := 12) (by decide +kernel) (by decide) rfl,
    as_aload_n C (pc := 19) (q := 0) (by decide +kernel) rfl rfl,
    as_getf C (pc := 20) (T := T_Nodes) (N := 10) rfl in_Nodes (by decide) rfl w_125 (by decide +kernel) rfl,
    as_iload_n C (pc := 23) (q := 1) (by decide +kernel) rfl rfl,
    as_iald C (pc := 24) (by decide +kernel) rfl,
    as_goto C (pc := 25) (off := 4) (by decide +kernel) (by decide),
    as_iconst C (pc := 28) (n := (-1)) (by decide +kernel) (by decide +kernel) rfl,
    as_iret C (pc := 29) rfl (by decide +kernel), trivial⟩
abbrev k_Nodes_datumNode : List Nat := []
theorem r_Nodes_datumNode_0 {J : aJ} {K : aR} {n : Nat} {L : aL} {S : List Value} {M : aM} : am_run (c_Nodes_datumNode) k_Nodes_datumNode J K (n + 1) 0 L S M = ai_iload 1 1 (am_run (c_Nodes_datumNode) k_Nodes_datumNode J K n) K 0 L S M := by rfl
theorem r_Nodes_datumNode_1 {J : aJ} {K : aR} {n : Nat} {L : aL} {S : List Value} {M : aM} : am_run (c_Nodes_datumNode) k_Nodes_datumNode J K (n + 1) 1 L S M = ai_iflt 28 4 (am_run (c_Nodes_datumNode) k_Nodes_datumNode J K n) K 1 L S M := by rfl
theorem r_Nodes_datumNode_4 {J : aJ} {K : aR} {n : Nat} {L : aL} {S : List Value} {M : aM} : am_run (c_Nodes_datumNode) k_Nodes_datumNode J K (n + 1) 4 L S M = ai_iload 1 5 (am_run (c_Nodes_datumNode) k_Nodes_datumNode J K n) K 4 L S M := by rfl
theorem r_Nodes_datumNode_5 {J : aJ} {K : aR} {n : Nat} {L : aL} {S : List Value} {M : aM} : am_run (c_Nodes_datumNode) k_Nodes_datumNode J K (n + 1) 5 L S M = ai_aload 0 6 (am_run (c_Nodes_datumNode) k_Nodes_datumNode J K n) K 5 L S M := by rfl
theorem r_Nodes_datumNode_6 {J : aJ} {K : aR} {n : Nat} {L : aL} {S : List Value} {M : aM} : am_run (c_Nodes_datumNode) k_Nodes_datumNode J K (n + 1) 6 L S M = ai_getf 0 7 9 (am_run (c_Nodes_datumNode) k_Nodes_datumNode J K n) K 6 L S M := by rfl
theorem r_Nodes_datumNode_9 {J : aJ} {K : aR} {n : Nat} {L : aL} {S : List Value} {M : aM} : am_run (c_Nodes_datumNode) k_Nodes_datumNode J K (n + 1) 9 L S M = ai_cmpge 28 12 (am_run (c_Nodes_datumNode) k_Nodes_datumNode J K n) K 9 L S M := by rfl
theorem r_Nodes_datumNode_12 {J : aJ} {K : aR} {n : Nat} {L : aL} {S : List Value} {M : aM} : am_run (c_Nodes_datumNode) k_Nodes_datumNode J K (n + 1) 12 L S M = ai_iload 1 13 (am_run (c_Nodes_datumNode) k_Nodes_datumNode J K n) K 12 L S M := by rfl
theorem r_Nodes_datumNode_13 {J : aJ} {K : aR} {n : Nat} {L : aL} {S : List Value} {M : aM} : am_run (c_Nodes_datumNode) k_Nodes_datumNode J K (n + 1) 13 L S M = ai_const 200 16 (am_run (c_Nodes_datumNode) k_Nodes_datumNode J K n) K 13 L S M := by rfl
theorem r_Nodes_datumNode_16 {J : aJ} {K : aR} {n : Nat} {L : aL} {S : List Value} {M : aM} : am_run (c_Nodes_datumNode) k_Nodes_datumNode J K (n + 1) 16 L S M = ai_cmpge 28 19 (am_run (c_Nodes_datumNode) k_Nodes_datumNode J K n) K 16 L S M := by rfl
theorem r_Nodes_datumNode_19 {J : aJ} {K : aR} {n : Nat} {L : aL} {S : List Value} {M : aM} : am_run (c_Nodes_datumNode) k_Nodes_datumNode J K (n + 1) 19 L S M = ai_aload 0 20 (am_run (c_Nodes_datumNode) k_Nodes_datumNode J K n) K 19 L S M := by rfl
theorem r_Nodes_datumNode_20 {J : aJ} {K : aR} {n : Nat} {L : aL} {S : List Value} {M : aM} : am_run (c_Nodes_datumNode) k_Nodes_datumNode J K (n + 1) 20 L S M = ai_getf 0 6 23 (am_run (c_Nodes_datumNode) k_Nodes_datumNode J K n) K 20 L S M := by rfl
theorem r_Nodes_datumNode_23 {J : aJ} {K : aR} {n : Nat} {L : aL} {S : List Value} {M : aM} : am_run (c_Nodes_datumNode) k_Nodes_datumNode J K (n + 1) 23 L S M = ai_iload 1 24 (am_run (c_Nodes_datumNode) k_Nodes_datumNode J K n) K 23 L S M := by rfl
theorem r_Nodes_datumNode_24 {J : aJ} {K : aR} {n : Nat} {L : aL} {S : List Value} {M : aM} : am_run (c_Nodes_datumNode) k_Nodes_datumNode J K (n + 1) 24 L S M = ai_iald 25 (am_run (c_Nodes_datumNode) k_Nodes_datumNode J K n) K 24 L S M := by rfl
theorem r_Nodes_datumNode_25 {J : aJ} {K : aR} {n : Nat} {L : aL} {S : List Value} {M : aM} : am_run (c_Nodes_datumNode) k_Nodes_datumNode J K (n + 1) 25 L S M = ai_goto 29 (am_run (c_Nodes_datumNode) k_Nodes_datumNode J K n) K 25 L S M := by rfl
theorem r_Nodes_datumNode_28 {J : aJ} {K : aR} {n : Nat} {L : aL} {S : List Value} {M : aM} : am_run (c_Nodes_datumNode) k_Nodes_datumNode J K (n + 1) 28 L S M = ai_const (-1) 29 (am_run (c_Nodes_datumNode) k_Nodes_datumNode J K n) K 28 L S M := by rfl
theorem r_Nodes_datumNode_29 {J : aJ} {K : aR} {n : Nat} {L : aL} {S : List Value} {M : aM} : am_run (c_Nodes_datumNode) k_Nodes_datumNode J K (n + 1) 29 L S M = ai_iret (am_run (c_Nodes_datumNode) k_Nodes_datumNode J K n) K 29 L S M := by rfl
def c_Nodes_kindOf (s_Nodes_has : aS) : List (Nat × aI) := [
  (0, ai_aload 0 1),
  (1, ai_iload 1 2),
  (2, ai_callv2 0 s_Nodes_has 5),
  (5, ai_ifeq 17 8),
  (8, ai_aload 0 9),
  (9, ai_getf 0 0 12),
  (12, ai_iload 1 13),
  (13, ai_iald 14),
  (14, ai_goto 18),
  (17, ai_const 0 18),
  (18, ai_iret)]
set_option maxRecDepth 100000 in
set_option maxHeartbeats 4000000 in
theorem tb_Nodes_kindOf {G : aG} {d : Nat} {s_Nodes_has : aS} {d_Nodes_has : Nat} (h_Nodes_has : am_Sp G Y_Nodes_has d_Nodes_has s_Nodes_has) (l_Nodes_has : d_Nodes_has < d) : am_tab G Y_Nodes_kindOf d (c_Nodes_kindOf s_Nodes_has) := by
  intro K p e s m args below meth c C
  exact ⟨as_aload_n C (pc := 0) (q := 0) (by decide +kernel) rfl rfl,
    as_iload_n C (pc := 1) (q := 1) (by decide +kernel) rfl rfl,
    as_callv2 C (pc := 2) h_Nodes_has (T := T_Nodes) (N := 10) rfl w_341 w_72 w_340 w_21 w_338 hy_Nodes_has (am_rm_of l_Nodes_has (by decide)) (by decide +kernel) rfl,
    as_ifeq C (pc := 5) (off := 12) (by decide +kernel) (by decide) rfl,
    as_aload_n C (pc := 8) (q := 0) (by decide +kernel) rfl rfl,
    as_getf C (pc := 9) (T := T_Nodes) (N := 10) rfl in_Nodes (by decide) rfl w_118 (by decide +kernel) rfl,
    as_iload_n C (pc := 12) (q := 1) (by decide +kernel) rfl rfl,
    as_iald C (pc := 13) (by decide +kernel) rfl,
    as_goto C (pc := 14) (off := 4) (by decide +kernel) (by decide),
    as_iconst C (pc := 17) (n := 0) (by decide +kernel) (by decide +kernel) rfl,
    as_iret C (pc := 18) rfl (by decide +kernel), trivial⟩
abbrev k_Nodes_kindOf : List Nat := []
theorem r_Nodes_kindOf_0 {s_Nodes_has : aS} {J : aJ} {K : aR} {n : Nat} {L : aL} {S : List Value} {M : aM} : am_run (c_Nodes_kindOf s_Nodes_has) k_Nodes_kindOf J K (n + 1) 0 L S M = ai_aload 0 1 (am_run (c_Nodes_kindOf s_Nodes_has) k_Nodes_kindOf J K n) K 0 L S M := by rfl
theorem r_Nodes_kindOf_1 {s_Nodes_has : aS} {J : aJ} {K : aR} {n : Nat} {L : aL} {S : List Value} {M : aM} : am_run (c_Nodes_kindOf s_Nodes_has) k_Nodes_kindOf J K (n + 1) 1 L S M = ai_iload 1 2 (am_run (c_Nodes_kindOf s_Nodes_has) k_Nodes_kindOf J K n) K 1 L S M := by rfl
theorem r_Nodes_kindOf_2 {s_Nodes_has : aS} {J : aJ} {K : aR} {n : Nat} {L : aL} {S : List Value} {M : aM} : am_run (c_Nodes_kindOf s_Nodes_has) k_Nodes_kindOf J K (n + 1) 2 L S M = ai_callv2 0 s_Nodes_has 5 (am_run (c_Nodes_kindOf s_Nodes_has) k_Nodes_kindOf J K n) K 2 L S M := by rfl
theorem r_Nodes_kindOf_5 {s_Nodes_has : aS} {J : aJ} {K : aR} {n : Nat} {L : aL} {S : List Value} {M : aM} : am_run (c_Nodes_kindOf s_Nodes_has) k_Nodes_kindOf J K (n + 1) 5 L S M = ai_ifeq 17 8 (am_run (c_Nodes_kindOf s_Nodes_has) k_Nodes_kindOf J K n) K 5 L S M := by rfl
theorem r_Nodes_kindOf_8 {s_Nodes_has : aS} {J : aJ} {K : aR} {n : Nat} {L : aL} {S : List Value} {M : aM} : am_run (c_Nodes_kindOf s_Nodes_has) k_Nodes_kindOf J K (n + 1) 8 L S M = ai_aload 0 9 (am_run (c_Nodes_kindOf s_Nodes_has) k_Nodes_kindOf J K n) K 8 L S M := by rfl
theorem r_Nodes_kindOf_9 {s_Nodes_has : aS} {J : aJ} {K : aR} {n : Nat} {L : aL} {S : List Value} {M : aM} : am_run (c_Nodes_kindOf s_Nodes_has) k_Nodes_kindOf J K (n + 1) 9 L S M = ai_getf 0 0 12 (am_run (c_Nodes_kindOf s_Nodes_has) k_Nodes_kindOf J K n) K 9 L S M := by rfl
theorem r_Nodes_kindOf_12 {s_Nodes_has : aS} {J : aJ} {K : aR} {n : Nat} {L : aL} {S : List Value} {M : aM} : am_run (c_Nodes_kindOf s_Nodes_has) k_Nodes_kindOf J K (n + 1) 12 L S M = ai_iload 1 13 (am_run (c_Nodes_kindOf s_Nodes_has) k_Nodes_kindOf J K n) K 12 L S M := by rfl
theorem r_Nodes_kindOf_13 {s_Nodes_has : aS} {J : aJ} {K : aR} {n : Nat} {L : aL} {S : List Value} {M : aM} : am_run (c_Nodes_kindOf s_Nodes_has) k_Nodes_kindOf J K (n + 1) 13 L S M = ai_iald 14 (am_run (c_Nodes_kindOf s_Nodes_has) k_Nodes_kindOf J K n) K 13 L S M := by rfl
theorem r_Nodes_kindOf_14 {s_Nodes_has : aS} {J : aJ} {K : aR} {n : Nat} {L : aL} {S : List Value} {M : aM} : am_run (c_Nodes_kindOf s_Nodes_has) k_Nodes_kindOf J K (n + 1) 14 L S M = ai_goto 18 (am_run (c_Nodes_kindOf s_Nodes_has) k_Nodes_kindOf J K n) K 14 L S M := by rfl
theorem r_Nodes_kindOf_17 {s_Nodes_has : aS} {J : aJ} {K : aR} {n : Nat} {L : aL} {S : List Value} {M : aM} : am_run (c_Nodes_kindOf s_Nodes_has) k_Nodes_kindOf J K (n + 1) 17 L S M = ai_const 0 18 (am_run (c_Nodes_kindOf s_Nodes_has) k_Nodes_kindOf J K n) K 17 L S M := by rfl
theorem r_Nodes_kindOf_18 {s_Nodes_has : aS} {J : aJ} {K : aR} {n : Nat} {L : aL} {S : List Value} {M : aM} : am_run (c_Nodes_kindOf s_Nodes_has) k_Nodes_kindOf J K (n + 1) 18 L S M = ai_iret (am_run (c_Nodes_kindOf s_Nodes_has) k_Nodes_kindOf J K n) K 18 L S M := by rfl
def c_Nodes_amountOf (s_Nodes_has : aS) : List (Nat × aI) := [
  (0, ai_aload 0 1),
  (1, ai_iload 1 2),
  (2, ai_callv2 0 s_Nodes_has 5),
  (5, ai_ifeq 17 8),
  (8, ai_aload 0 9),
  (9, ai_getf 0 1 12),
  (12, ai_iload 1 13),
  (13, ai_iald 14),
  (14, ai_goto 18),
  (17, ai_const 0 18),
  (18, ai_iret)]
set_option maxRecDepth 100000 in
set_option maxHeartbeats 4000000 in
theorem tb_Nodes_amountOf {G : aG} {d : Nat} {s_Nodes_has : aS} {d_Nodes_has : Nat} (h_Nodes_has : am_Sp G Y_Nodes_has d_Nodes_has s_Nodes_has) (l_Nodes_has : d_Nodes_has < d) : am_tab G Y_Nodes_amountOf d (c_Nodes_amountOf s_Nodes_has) := by
  intro K p e s m args below meth c C
  exact ⟨as_aload_n C (pc := 0) (q := 0) (by decide +kernel) rfl rfl,
    as_iload_n C (pc := 1) (q := 1) (by decide +kernel) rfl rfl,
    as_callv2 C (pc := 2) h_Nodes_has (T := T_Nodes) (N := 10) rfl w_341 w_72 w_340 w_21 w_338 hy_Nodes_has (am_rm_of l_Nodes_has (by decide)) (by decide +kernel) rfl,
    as_ifeq C (pc := 5) (off := 12) (by decide +kernel) (by decide) rfl,
    as_aload_n C (pc := 8) (q := 0) (by decide +kernel) rfl rfl,
    as_getf C (pc := 9) (T := T_Nodes) (N := 10) rfl in_Nodes (by decide) rfl w_119 (by decide +kernel) rfl,
    as_iload_n C (pc := 12) (q := 1) (by decide +kernel) rfl rfl,
    as_iald C (pc := 13) (by decide +kernel) rfl,
    as_goto C (pc := 14) (off := 4) (by decide +kernel) (by decide),
    as_iconst C (pc := 17) (n := 0) (by decide +kernel) (by decide +kernel) rfl,
    as_iret C (pc := 18) rfl (by decide +kernel), trivial⟩
abbrev k_Nodes_amountOf : List Nat := []
theorem r_Nodes_amountOf_0 {s_Nodes_has : aS} {J : aJ} {K : aR} {n : Nat} {L : aL} {S : List Value} {M : aM} : am_run (c_Nodes_amountOf s_Nodes_has) k_Nodes_amountOf J K (n + 1) 0 L S M = ai_aload 0 1 (am_run (c_Nodes_amountOf s_Nodes_has) k_Nodes_amountOf J K n) K 0 L S M := by rfl
theorem r_Nodes_amountOf_1 {s_Nodes_has : aS} {J : aJ} {K : aR} {n : Nat} {L : aL} {S : List Value} {M : aM} : am_run (c_Nodes_amountOf s_Nodes_has) k_Nodes_amountOf J K (n + 1) 1 L S M = ai_iload 1 2 (am_run (c_Nodes_amountOf s_Nodes_has) k_Nodes_amountOf J K n) K 1 L S M := by rfl
theorem r_Nodes_amountOf_2 {s_Nodes_has : aS} {J : aJ} {K : aR} {n : Nat} {L : aL} {S : List Value} {M : aM} : am_run (c_Nodes_amountOf s_Nodes_has) k_Nodes_amountOf J K (n + 1) 2 L S M = ai_callv2 0 s_Nodes_has 5 (am_run (c_Nodes_amountOf s_Nodes_has) k_Nodes_amountOf J K n) K 2 L S M := by rfl
theorem r_Nodes_amountOf_5 {s_Nodes_has : aS} {J : aJ} {K : aR} {n : Nat} {L : aL} {S : List Value} {M : aM} : am_run (c_Nodes_amountOf s_Nodes_has) k_Nodes_amountOf J K (n + 1) 5 L S M = ai_ifeq 17 8 (am_run (c_Nodes_amountOf s_Nodes_has) k_Nodes_amountOf J K n) K 5 L S M := by rfl
theorem r_Nodes_amountOf_8 {s_Nodes_has : aS} {J : aJ} {K : aR} {n : Nat} {L : aL} {S : List Value} {M : aM} : am_run (c_Nodes_amountOf s_Nodes_has) k_Nodes_amountOf J K (n + 1) 8 L S M = ai_aload 0 9 (am_run (c_Nodes_amountOf s_Nodes_has) k_Nodes_amountOf J K n) K 8 L S M := by rfl
theorem r_Nodes_amountOf_9 {s_Nodes_has : aS} {J : aJ} {K : aR} {n : Nat} {L : aL} {S : List Value} {M : aM} : am_run (c_Nodes_amountOf s_Nodes_has) k_Nodes_amountOf J K (n + 1) 9 L S M = ai_getf 0 1 12 (am_run (c_Nodes_amountOf s_Nodes_has) k_Nodes_amountOf J K n) K 9 L S M := by rfl
theorem r_Nodes_amountOf_12 {s_Nodes_has : aS} {J : aJ} {K : aR} {n : Nat} {L : aL} {S : List Value} {M : aM} : am_run (c_Nodes_amountOf s_Nodes_has) k_Nodes_amountOf J K (n + 1) 12 L S M = ai_iload 1 13 (am_run (c_Nodes_amountOf s_Nodes_has) k_Nodes_amountOf J K n) K 12 L S M := by rfl
theorem r_Nodes_amountOf_13 {s_Nodes_has : aS} {J : aJ} {K : aR} {n : Nat} {L : aL} {S : List Value} {M : aM} : am_run (c_Nodes_amountOf s_Nodes_has) k_Nodes_amountOf J K (n + 1) 13 L S M = ai_iald 14 (am_run (c_Nodes_amountOf s_Nodes_has) k_Nodes_amountOf J K n) K 13 L S M := by rfl
theorem r_Nodes_amountOf_14 {s_Nodes_has : aS} {J : aJ} {K : aR} {n : Nat} {L : aL} {S : List Value} {M : aM} : am_run (c_Nodes_amountOf s_Nodes_has) k_Nodes_amountOf J K (n + 1) 14 L S M = ai_goto 18 (am_run (c_Nodes_amountOf s_Nodes_has) k_Nodes_amountOf J K n) K 14 L S M := by rfl
theorem r_Nodes_amountOf_17 {s_Nodes_has : aS} {J : aJ} {K : aR} {n : Nat} {L : aL} {S : List Value} {M : aM} : am_run (c_Nodes_amountOf s_Nodes_has) k_Nodes_amountOf J K (n + 1) 17 L S M = ai_const 0 18 (am_run (c_Nodes_amountOf s_Nodes_has) k_Nodes_amountOf J K n) K 17 L S M := by rfl
theorem r_Nodes_amountOf_18 {s_Nodes_has : aS} {J : aJ} {K : aR} {n : Nat} {L : aL} {S : List Value} {M : aM} : am_run (c_Nodes_amountOf s_Nodes_has) k_Nodes_amountOf J K (n + 1) 18 L S M = ai_iret (am_run (c_Nodes_amountOf s_Nodes_has) k_Nodes_amountOf J K n) K 18 L S M := by rfl
def c_Nodes_byteOf (s_Nodes_isOf : aS) : List (Nat × aI) := [
  (0, ai_aload 0 1),
  (1, ai_iload 1 2),
  (2, ai_const 2 3),
  (3, ai_callv3 0 s_Nodes_isOf 6),
  (6, ai_ifne 18 9),
  (9, ai_aload 0 10),
  (10, ai_iload 1 11),
  (11, ai_const 3 12),
  (12, ai_callv3 0 s_Nodes_isOf 15),
  (15, ai_ifeq 32 18),
  (18, ai_iload 2 19),
  (19, ai_iflt 32 22),
  (22, ai_iload 2 23),
  (23, ai_aload 0 24),
  (24, ai_getf 0 1 27),
  (27, ai_iload 1 28),
  (28, ai_iald 29),
  (29, ai_cmplt 34 32),
  (32, ai_const (-1) 33),
  (33, ai_iret),
  (34, ai_aload 0 35),
  (35, ai_getf 0 2 38),
  (38, ai_iload 1 39),
  (39, ai_iald 40),
  (40, ai_iload 2 41),
  (41, ai_iadd 42),
  (42, ai_istore 3 43),
  (43, ai_iload 3 44),
  (44, ai_iflt 65 47),
  (47, ai_iload 3 48),
  (48, ai_aload 0 49),
  (49, ai_getf 0 8 52),
  (52, ai_alen 53),
  (53, ai_cmpge 65 56),
  (56, ai_aload 0 57),
  (57, ai_getf 0 8 60),
  (60, ai_iload 3 61),
  (61, ai_iald 62),
  (62, ai_goto 66),
  (65, ai_const (-1) 66),
  (66, ai_iret)]
set_option maxRecDepth 100000 in
set_option maxHeartbeats 4000000 in
theorem tb_Nodes_byteOf {G : aG} {d : Nat} {s_Nodes_isOf : aS} {d_Nodes_isOf : Nat} (h_Nodes_isOf : am_Sp G Y_Nodes_isOf d_Nodes_isOf s_Nodes_isOf) (l_Nodes_isOf : d_Nodes_isOf < d) : am_tab G Y_Nodes_byteOf d (c_Nodes_byteOf s_Nodes_isOf) := by
  intro K p e s m args below meth c C
  exact ⟨as_aload_n C (pc := 0) (q := 0) (by decide +kernel) rfl rfl,
    as_iload_n C (pc := 1) (q := 1) (by decide +kernel) rfl rfl,
    as_iconst C (pc := 2) (n := 2) (by decide +kernel) (by decide +kernel) rfl,
    as_callv3 C (pc := 3) h_Nodes_isOf (T := T_Nodes) (N := 10) rfl w_421 w_72 w_420 w_36 w_418 hy_Nodes_isOf (am_rm_of l_Nodes_isOf (by decide)) (by decide +kernel) rfl,
    as_ifne C (pc := 6) (off := 12) (by decide +kernel) (by decide) rfl,
    as_aload_n C (pc := 9) (q := 0) (by decide +kernel) rfl rfl,
    as_iload_n C (pc := 10) (q := 1) (by decide +kernel) rfl rfl,
    as_iconst C (pc := 11) (n := 3) (by decide +kernel) (by decide +kernel) rfl,
    as_callv3 C (pc := 12) h_Nodes_isOf (T := T_Nodes) (N := 10) rfl w_421 w_72 w_420 w_36 w_418 hy_Nodes_isOf (am_rm_of l_Nodes_isOf (by decide)) (by decide +kernel) rfl,
    as_ifeq C (pc := 15) (off := 17) (by decide +kernel) (by decide) rfl,
    as_iload_n C (pc := 18) (q := 2) (by decide +kernel) rfl rfl,
    as_iflt C (pc := 19) (off := 13) (by decide +kernel) (by decide) rfl,
    as_iload_n C (pc := 22) (q := 2) (by decide +kernel) rfl rfl,
    as_aload_n C (pc := 23) (q := 0) (by decide +kernel) rfl rfl,
    as_getf C (pc := 24) (T := T_Nodes) (N := 10) rfl in_Nodes (by decide) rfl w_119 (by decide +kernel) rfl,
    as_iload_n C (pc := 27) (q := 1) (by decide +kernel) rfl rfl,
    as_iald C (pc := 28) (by decide +kernel) rfl,
    as_cmplt C (pc := 29) (off := 5) (by decide +kernel) (by decide) rfl,
    as_iconst C (pc := 32) (n := (-1)) (by decide +kernel) (by decide +kernel) rfl,
    as_iret C (pc := 33) rfl (by decide +kernel),
    as_aload_n C (pc := 34) (q := 0) (by decide +kernel) rfl rfl,
    as_getf C (pc := 35) (T := T_Nodes) (N := 10) rfl in_Nodes (by decide) rfl w_120 (by decide +kernel) rfl,
    as_iload_n C (pc := 38) (q := 1) (by decide +kernel) rfl rfl,
    as_iald C (pc := 39) (by decide +kernel) rfl,
    as_iload_n C (pc := 40) (q := 2) (by decide +kernel) rfl rfl,
    as_iadd C (pc := 41) (by decide +kernel) rfl,
    as_istore_n C (pc := 42) (q := 3) (by decide +kernel) rfl (by decide) rfl,
    as_iload_n C (pc := 43) (q := 3) (by decide +kernel) rfl rfl,
    as_iflt C (pc := 44) (off := 21) (by decide +kernel) (by decide) rfl,
    as_iload_n C (pc := 47) (q := 3) (by decide +kernel) rfl rfl,
    as_aload_n C (pc := 48) (q := 0) (by decide +kernel) rfl rfl,
    as_getf C (pc := 49) (T := T_Nodes) (N := 10) rfl in_Nodes (by decide) rfl w_128 (by decide +kernel) rfl,
    as_alen C (pc := 52) (by decide +kernel) rfl,
    as_cmpge C (pc := 53) (off := 12) (by decide +kernel) (by decide) rfl,
    as_aload_n C (pc := 56) (q := 0) (by decide +kernel) rfl rfl,
    as_getf C (pc := 57) (T := T_Nodes) (N := 10) rfl in_Nodes (by decide) rfl w_128 (by decide +kernel) rfl,
    as_iload_n C (pc := 60) (q := 3) (by decide +kernel) rfl rfl,
    as_iald C (pc := 61) (by decide +kernel) rfl,
    as_goto C (pc := 62) (off := 4) (by decide +kernel) (by decide),
    as_iconst C (pc := 65) (n := (-1)) (by decide +kernel) (by decide +kernel) rfl,
    as_iret C (pc := 66) rfl (by decide +kernel), trivial⟩
abbrev k_Nodes_byteOf : List Nat := []
theorem r_Nodes_byteOf_0 {s_Nodes_isOf : aS} {J : aJ} {K : aR} {n : Nat} {L : aL} {S : List Value} {M : aM} : am_run (c_Nodes_byteOf s_Nodes_isOf) k_Nodes_byteOf J K (n + 1) 0 L S M = ai_aload 0 1 (am_run (c_Nodes_byteOf s_Nodes_isOf) k_Nodes_byteOf J K n) K 0 L S M := by rfl
theorem r_Nodes_byteOf_1 {s_Nodes_isOf : aS} {J : aJ} {K : aR} {n : Nat} {L : aL} {S : List Value} {M : aM} : am_run (c_Nodes_byteOf s_Nodes_isOf) k_Nodes_byteOf J K (n + 1) 1 L S M = ai_iload 1 2 (am_run (c_Nodes_byteOf s_Nodes_isOf) k_Nodes_byteOf J K n) K 1 L S M := by rfl
theorem r_Nodes_byteOf_2 {s_Nodes_isOf : aS} {J : aJ} {K : aR} {n : Nat} {L : aL} {S : List Value} {M : aM} : am_run (c_Nodes_byteOf s_Nodes_isOf) k_Nodes_byteOf J K (n + 1) 2 L S M = ai_const 2 3 (am_run (c_Nodes_byteOf s_Nodes_isOf) k_Nodes_byteOf J K n) K 2 L S M := by rfl
theorem r_Nodes_byteOf_3 {s_Nodes_isOf : aS} {J : aJ} {K : aR} {n : Nat} {L : aL} {S : List Value} {M : aM} : am_run (c_Nodes_byteOf s_Nodes_isOf) k_Nodes_byteOf J K (n + 1) 3 L S M = ai_callv3 0 s_Nodes_isOf 6 (am_run (c_Nodes_byteOf s_Nodes_isOf) k_Nodes_byteOf J K n) K 3 L S M := by rfl
theorem r_Nodes_byteOf_6 {s_Nodes_isOf : aS} {J : aJ} {K : aR} {n : Nat} {L : aL} {S : List Value} {M : aM} : am_run (c_Nodes_byteOf s_Nodes_isOf) k_Nodes_byteOf J K (n + 1) 6 L S M = ai_ifne 18 9 (am_run (c_Nodes_byteOf s_Nodes_isOf) k_Nodes_byteOf J K n) K 6 L S M := by rfl
theorem r_Nodes_byteOf_9 {s_Nodes_isOf : aS} {J : aJ} {K : aR} {n : Nat} {L : aL} {S : List Value} {M : aM} : am_run (c_Nodes_byteOf s_Nodes_isOf) k_Nodes_byteOf J K (n + 1) 9 L S M = ai_aload 0 10 (am_run (c_Nodes_byteOf s_Nodes_isOf) k_Nodes_byteOf J K n) K 9 L S M := by rfl
theorem r_Nodes_byteOf_10 {s_Nodes_isOf : aS} {J : aJ} {K : aR} {n : Nat} {L : aL} {S : List Value} {M : aM} : am_run (c_Nodes_byteOf s_Nodes_isOf) k_Nodes_byteOf J K (n + 1) 10 L S M = ai_iload 1 11 (am_run (c_Nodes_byteOf s_Nodes_isOf) k_Nodes_byteOf J K n) K 10 L S M := by rfl
theorem r_Nodes_byteOf_11 {s_Nodes_isOf : aS} {J : aJ} {K : aR} {n : Nat} {L : aL} {S : List Value} {M : aM} : am_run (c_Nodes_byteOf s_Nodes_isOf) k_Nodes_byteOf J K (n + 1) 11 L S M = ai_const 3 12 (am_run (c_Nodes_byteOf s_Nodes_isOf) k_Nodes_byteOf J K n) K 11 L S M := by rfl
theorem r_Nodes_byteOf_12 {s_Nodes_isOf : aS} {J : aJ} {K : aR} {n : Nat} {L : aL} {S : List Value} {M : aM} : am_run (c_Nodes_byteOf s_Nodes_isOf) k_Nodes_byteOf J K (n + 1) 12 L S M = ai_callv3 0 s_Nodes_isOf 15 (am_run (c_Nodes_byteOf s_Nodes_isOf) k_Nodes_byteOf J K n) K 12 L S M := by rfl
theorem r_Nodes_byteOf_15 {s_Nodes_isOf : aS} {J : aJ} {K : aR} {n : Nat} {L : aL} {S : List Value} {M : aM} : am_run (c_Nodes_byteOf s_Nodes_isOf) k_Nodes_byteOf J K (n + 1) 15 L S M = ai_ifeq 32 18 (am_run (c_Nodes_byteOf s_Nodes_isOf) k_Nodes_byteOf J K n) K 15 L S M := by rfl
theorem r_Nodes_byteOf_18 {s_Nodes_isOf : aS} {J : aJ} {K : aR} {n : Nat} {L : aL} {S : List Value} {M : aM} : am_run (c_Nodes_byteOf s_Nodes_isOf) k_Nodes_byteOf J K (n + 1) 18 L S M = ai_iload 2 19 (am_run (c_Nodes_byteOf s_Nodes_isOf) k_Nodes_byteOf J K n) K 18 L S M := by rfl
theorem r_Nodes_byteOf_19 {s_Nodes_isOf : aS} {J : aJ} {K : aR} {n : Nat} {L : aL} {S : List Value} {M : aM} : am_run (c_Nodes_byteOf s_Nodes_isOf) k_Nodes_byteOf J K (n + 1) 19 L S M = ai_iflt 32 22 (am_run (c_Nodes_byteOf s_Nodes_isOf) k_Nodes_byteOf J K n) K 19 L S M := by rfl
theorem r_Nodes_byteOf_22 {s_Nodes_isOf : aS} {J : aJ} {K : aR} {n : Nat} {L : aL} {S : List Value} {M : aM} : am_run (c_Nodes_byteOf s_Nodes_isOf) k_Nodes_byteOf J K (n + 1) 22 L S M = ai_iload 2 23 (am_run (c_Nodes_byteOf s_Nodes_isOf) k_Nodes_byteOf J K n) K 22 L S M := by rfl
theorem r_Nodes_byteOf_23 {s_Nodes_isOf : aS} {J : aJ} {K : aR} {n : Nat} {L : aL} {S : List Value} {M : aM} : am_run (c_Nodes_byteOf s_Nodes_isOf) k_Nodes_byteOf J K (n + 1) 23 L S M = ai_aload 0 24 (am_run (c_Nodes_byteOf s_Nodes_isOf) k_Nodes_byteOf J K n) K 23 L S M := by rfl
theorem r_Nodes_byteOf_24 {s_Nodes_isOf : aS} {J : aJ} {K : aR} {n : Nat} {L : aL} {S : List Value} {M : aM} : am_run (c_Nodes_byteOf s_Nodes_isOf) k_Nodes_byteOf J K (n + 1) 24 L S M = ai_getf 0 1 27 (am_run (c_Nodes_byteOf s_Nodes_isOf) k_Nodes_byteOf J K n) K 24 L S M := by rfl
theorem r_Nodes_byteOf_27 {s_Nodes_isOf : aS} {J : aJ} {K : aR} {n : Nat} {L : aL} {S : List Value} {M : aM} : am_run (c_Nodes_byteOf s_Nodes_isOf) k_Nodes_byteOf J K (n + 1) 27 L S M = ai_iload 1 28 (am_run (c_Nodes_byteOf s_Nodes_isOf) k_Nodes_byteOf J K n) K 27 L S M := by rfl
theorem r_Nodes_byteOf_28 {s_Nodes_isOf : aS} {J : aJ} {K : aR} {n : Nat} {L : aL} {S : List Value} {M : aM} : am_run (c_Nodes_byteOf s_Nodes_isOf) k_Nodes_byteOf J K (n + 1) 28 L S M = ai_iald 29 (am_run (c_Nodes_byteOf s_Nodes_isOf) k_Nodes_byteOf J K n) K 28 L S M := by rfl
theorem r_Nodes_byteOf_29 {s_Nodes_isOf : aS} {J : aJ} {K : aR} {n : Nat} {L : aL} {S : List Value} {M : aM} : am_run (c_Nodes_byteOf s_Nodes_isOf) k_Nodes_byteOf J K (n + 1) 29 L S M = ai_cmplt 34 32 (am_run (c_Nodes_byteOf s_Nodes_isOf) k_Nodes_byteOf J K n) K 29 L S M := by rfl
theorem r_Nodes_byteOf_32 {s_Nodes_isOf : aS} {J : aJ} {K : aR} {n : Nat} {L : aL} {S : List Value} {M : aM} : am_run (c_Nodes_byteOf s_Nodes_isOf) k_Nodes_byteOf J K (n + 1) 32 L S M = ai_const (-1) 33 (am_run (c_Nodes_byteOf s_Nodes_isOf) k_Nodes_byteOf J K n) K 32 L S M := by rfl
theorem r_Nodes_byteOf_33 {s_Nodes_isOf : aS} {J : aJ} {K : aR} {n : Nat} {L : aL} {S : List Value} {M : aM} : am_run (c_Nodes_byteOf s_Nodes_isOf) k_Nodes_byteOf J K (n + 1) 33 L S M = ai_iret (am_run (c_Nodes_byteOf s_Nodes_isOf) k_Nodes_byteOf J K n) K 33 L S M := by rfl
theorem r_Nodes_byteOf_34 {s_Nodes_isOf : aS} {J : aJ} {K : aR} {n : Nat} {L : aL} {S : List Value} {M : aM} : am_run (c_Nodes_byteOf s_Nodes_isOf) k_Nodes_byteOf J K (n + 1) 34 L S M = ai_aload 0 35 (am_run (c_Nodes_byteOf s_Nodes_isOf) k_Nodes_byteOf J K n) K 34 L S M := by rfl
theorem r_Nodes_byteOf_35 {s_Nodes_isOf : aS} {J : aJ} {K : aR} {n : Nat} {L : aL} {S : List Value} {M : aM} : am_run (c_Nodes_byteOf s_Nodes_isOf) k_Nodes_byteOf J K (n + 1) 35 L S M = ai_getf 0 2 38 (am_run (c_Nodes_byteOf s_Nodes_isOf) k_Nodes_byteOf J K n) K 35 L S M := by rfl
theorem r_Nodes_byteOf_38 {s_Nodes_isOf : aS} {J : aJ} {K : aR} {n : Nat} {L : aL} {S : List Value} {M : aM} : am_run (c_Nodes_byteOf s_Nodes_isOf) k_Nodes_byteOf J K (n + 1) 38 L S M = ai_iload 1 39 (am_run (c_Nodes_byteOf s_Nodes_isOf) k_Nodes_byteOf J K n) K 38 L S M := by rfl
theorem r_Nodes_byteOf_39 {s_Nodes_isOf : aS} {J : aJ} {K : aR} {n : Nat} {L : aL} {S : List Value} {M : aM} : am_run (c_Nodes_byteOf s_Nodes_isOf) k_Nodes_byteOf J K (n + 1) 39 L S M = ai_iald 40 (am_run (c_Nodes_byteOf s_Nodes_isOf) k_Nodes_byteOf J K n) K 39 L S M := by rfl
theorem r_Nodes_byteOf_40 {s_Nodes_isOf : aS} {J : aJ} {K : aR} {n : Nat} {L : aL} {S : List Value} {M : aM} : am_run (c_Nodes_byteOf s_Nodes_isOf) k_Nodes_byteOf J K (n + 1) 40 L S M = ai_iload 2 41 (am_run (c_Nodes_byteOf s_Nodes_isOf) k_Nodes_byteOf J K n) K 40 L S M := by rfl
theorem r_Nodes_byteOf_41 {s_Nodes_isOf : aS} {J : aJ} {K : aR} {n : Nat} {L : aL} {S : List Value} {M : aM} : am_run (c_Nodes_byteOf s_Nodes_isOf) k_Nodes_byteOf J K (n + 1) 41 L S M = ai_iadd 42 (am_run (c_Nodes_byteOf s_Nodes_isOf) k_Nodes_byteOf J K n) K 41 L S M := by rfl
theorem r_Nodes_byteOf_42 {s_Nodes_isOf : aS} {J : aJ} {K : aR} {n : Nat} {L : aL} {S : List Value} {M : aM} : am_run (c_Nodes_byteOf s_Nodes_isOf) k_Nodes_byteOf J K (n + 1) 42 L S M = ai_istore 3 43 (am_run (c_Nodes_byteOf s_Nodes_isOf) k_Nodes_byteOf J K n) K 42 L S M := by rfl
theorem r_Nodes_byteOf_43 {s_Nodes_isOf : aS} {J : aJ} {K : aR} {n : Nat} {L : aL} {S : List Value} {M : aM} : am_run (c_Nodes_byteOf s_Nodes_isOf) k_Nodes_byteOf J K (n + 1) 43 L S M = ai_iload 3 44 (am_run (c_Nodes_byteOf s_Nodes_isOf) k_Nodes_byteOf J K n) K 43 L S M := by rfl
theorem r_Nodes_byteOf_44 {s_Nodes_isOf : aS} {J : aJ} {K : aR} {n : Nat} {L : aL} {S : List Value} {M : aM} : am_run (c_Nodes_byteOf s_Nodes_isOf) k_Nodes_byteOf J K (n + 1) 44 L S M = ai_iflt 65 47 (am_run (c_Nodes_byteOf s_Nodes_isOf) k_Nodes_byteOf J K n) K 44 L S M := by rfl
theorem r_Nodes_byteOf_47 {s_Nodes_isOf : aS} {J : aJ} {K : aR} {n : Nat} {L : aL} {S : List Value} {M : aM} : am_run (c_Nodes_byteOf s_Nodes_isOf) k_Nodes_byteOf J K (n + 1) 47 L S M = ai_iload 3 48 (am_run (c_Nodes_byteOf s_Nodes_isOf) k_Nodes_byteOf J K n) K 47 L S M := by rfl
theorem r_Nodes_byteOf_48 {s_Nodes_isOf : aS} {J : aJ} {K : aR} {n : Nat} {L : aL} {S : List Value} {M : aM} : am_run (c_Nodes_byteOf s_Nodes_isOf) k_Nodes_byteOf J K (n + 1) 48 L S M = ai_aload 0 49 (am_run (c_Nodes_byteOf s_Nodes_isOf) k_Nodes_byteOf J K n) K 48 L S M := by rfl
theorem r_Nodes_byteOf_49 {s_Nodes_isOf : aS} {J : aJ} {K : aR} {n : Nat} {L : aL} {S : List Value} {M : aM} : am_run (c_Nodes_byteOf s_Nodes_isOf) k_Nodes_byteOf J K (n + 1) 49 L S M = ai_getf 0 8 52 (am_run (c_Nodes_byteOf s_Nodes_isOf) k_Nodes_byteOf J K n) K 49 L S M := by rfl
theorem r_Nodes_byteOf_52 {s_Nodes_isOf : aS} {J : aJ} {K : aR} {n : Nat} {L : aL} {S : List Value} {M : aM} : am_run (c_Nodes_byteOf s_Nodes_isOf) k_Nodes_byteOf J K (n + 1) 52 L S M = ai_alen 53 (am_run (c_Nodes_byteOf s_Nodes_isOf) k_Nodes_byteOf J K n) K 52 L S M := by rfl
theorem r_Nodes_byteOf_53 {s_Nodes_isOf : aS} {J : aJ} {K : aR} {n : Nat} {L : aL} {S : List Value} {M : aM} : am_run (c_Nodes_byteOf s_Nodes_isOf) k_Nodes_byteOf J K (n + 1) 53 L S M = ai_cmpge 65 56 (am_run (c_Nodes_byteOf s_Nodes_isOf) k_Nodes_byteOf J K n) K 53 L S M := by rfl
theorem r_Nodes_byteOf_56 {s_Nodes_isOf : aS} {J : aJ} {K : aR} {n : Nat} {L : aL} {S : List Value} {M : aM} : am_run (c_Nodes_byteOf s_Nodes_isOf) k_Nodes_byteOf J K (n + 1) 56 L S M = ai_aload 0 57 (am_run (c_Nodes_byteOf s_Nodes_isOf) k_Nodes_byteOf J K n) K 56 L S M := by rfl
theorem r_Nodes_byteOf_57 {s_Nodes_isOf : aS} {J : aJ} {K : aR} {n : Nat} {L : aL} {S : List Value} {M : aM} : am_run (c_Nodes_byteOf s_Nodes_isOf) k_Nodes_byteOf J K (n + 1) 57 L S M = ai_getf 0 8 60 (am_run (c_Nodes_byteOf s_Nodes_isOf) k_Nodes_byteOf J K n) K 57 L S M := by rfl
theorem r_Nodes_byteOf_60 {s_Nodes_isOf : aS} {J : aJ} {K : aR} {n : Nat} {L : aL} {S : List Value} {M : aM} : am_run (c_Nodes_byteOf s_Nodes_isOf) k_Nodes_byteOf J K (n + 1) 60 L S M = ai_iload 3 61 (am_run (c_Nodes_byteOf s_Nodes_isOf) k_Nodes_byteOf J K n) K 60 L S M := by rfl
theorem r_Nodes_byteOf_61 {s_Nodes_isOf : aS} {J : aJ} {K : aR} {n : Nat} {L : aL} {S : List Value} {M : aM} : am_run (c_Nodes_byteOf s_Nodes_isOf) k_Nodes_byteOf J K (n + 1) 61 L S M = ai_iald 62 (am_run (c_Nodes_byteOf s_Nodes_isOf) k_Nodes_byteOf J K n) K 61 L S M := by rfl
theorem r_Nodes_byteOf_62 {s_Nodes_isOf : aS} {J : aJ} {K : aR} {n : Nat} {L : aL} {S : List Value} {M : aM} : am_run (c_Nodes_byteOf s_Nodes_isOf) k_Nodes_byteOf J K (n + 1) 62 L S M = ai_goto 66 (am_run (c_Nodes_byteOf s_Nodes_isOf) k_Nodes_byteOf J K n) K 62 L S M := by rfl
theorem r_Nodes_byteOf_65 {s_Nodes_isOf : aS} {J : aJ} {K : aR} {n : Nat} {L : aL} {S : List Value} {M : aM} : am_run (c_Nodes_byteOf s_Nodes_isOf) k_Nodes_byteOf J K (n + 1) 65 L S M = ai_const (-1) 66 (am_run (c_Nodes_byteOf s_Nodes_isOf) k_Nodes_byteOf J K n) K 65 L S M := by rfl
theorem r_Nodes_byteOf_66 {s_Nodes_isOf : aS} {J : aJ} {K : aR} {n : Nat} {L : aL} {S : List Value} {M : aM} : am_run (c_Nodes_byteOf s_Nodes_isOf) k_Nodes_byteOf J K (n + 1) 66 L S M = ai_iret (am_run (c_Nodes_byteOf s_Nodes_isOf) k_Nodes_byteOf J K n) K 66 L S M := by rfl
def c_Nodes_headOf (s_Nodes_isOf : aS) : List (Nat × aI) := [
  (0, ai_aload 0 1),
  (1, ai_iload 1 2),
  (2, ai_const 4 3),
  (3, ai_callv3 0 s_Nodes_isOf 6),
  (6, ai_ifeq 18 9),
  (9, ai_aload 0 10),
  (10, ai_getf 0 3 13),
  (13, ai_iload 1 14),
  (14, ai_iald 15),
  (15, ai_goto 19),
  (18, ai_const (-1) 19),
  (19, ai_iret)]
set_option maxRecDepth 100000 in
set_option maxHeartbeats 4000000 in
theorem tb_Nodes_headOf {G : aG} {d : Nat} {s_Nodes_isOf : aS} {d_Nodes_isOf : Nat} (h_Nodes_isOf : am_Sp G Y_Nodes_isOf d_Nodes_isOf s_Nodes_isOf) (l_Nodes_isOf : d_Nodes_isOf < d) : am_tab G Y_Nodes_headOf d (c_Nodes_headOf s_Nodes_isOf) := by
  intro K p e s m args below meth c C
  exact ⟨as_aload_n C (pc := 0) (q := 0) (by decide +kernel) rfl rfl,
    as_iload_n C (pc := 1) (q := 1) (by decide +kernel) rfl rfl,
    as_iconst C (pc := 2) (n := 4) (by decide +kernel) (by decide +kernel) rfl,
    as_callv3 C (pc := 3) h_Nodes_isOf (T := T_Nodes) (N := 10) rfl w_421 w_72 w_420 w_36 w_418 hy_Nodes_isOf (am_rm_of l_Nodes_isOf (by decide)) (by decide +kernel) rfl,
    as_ifeq C (pc := 6) (off := 12) (by decide +kernel) (by decide) rfl,
    as_aload_n C (pc := 9) (q := 0) (by decide +kernel) rfl rfl,
    as_getf C (pc := 10) (T := T_Nodes) (N := 10) rfl in_Nodes (by decide) rfl w_121 (by decide +kernel) rfl,
    as_iload_n C (pc := 13) (q := 1) (by decide +kernel) rfl rfl,
    as_iald C (pc := 14) (by decide +kernel) rfl,
    as_goto C (pc := 15) (off := 4) (by decide +kernel) (by decide),
    as_iconst C (pc := 18) (n := (-1)) (by decide +kernel) (by decide +kernel) rfl,
    as_iret C (pc := 19) rfl (by decide +kernel), trivial⟩
abbrev k_Nodes_headOf : List Nat := []
theorem r_Nodes_headOf_0 {s_Nodes_isOf : aS} {J : aJ} {K : aR} {n : Nat} {L : aL} {S : List Value} {M : aM} : am_run (c_Nodes_headOf s_Nodes_isOf) k_Nodes_headOf J K (n + 1) 0 L S M = ai_aload 0 1 (am_run (c_Nodes_headOf s_Nodes_isOf) k_Nodes_headOf J K n) K 0 L S M := by rfl
theorem r_Nodes_headOf_1 {s_Nodes_isOf : aS} {J : aJ} {K : aR} {n : Nat} {L : aL} {S : List Value} {M : aM} : am_run (c_Nodes_headOf s_Nodes_isOf) k_Nodes_headOf J K (n + 1) 1 L S M = ai_iload 1 2 (am_run (c_Nodes_headOf s_Nodes_isOf) k_Nodes_headOf J K n) K 1 L S M := by rfl
theorem r_Nodes_headOf_2 {s_Nodes_isOf : aS} {J : aJ} {K : aR} {n : Nat} {L : aL} {S : List Value} {M : aM} : am_run (c_Nodes_headOf s_Nodes_isOf) k_Nodes_headOf J K (n + 1) 2 L S M = ai_const 4 3 (am_run (c_Nodes_headOf s_Nodes_isOf) k_Nodes_headOf J K n) K 2 L S M := by rfl
theorem r_Nodes_headOf_3 {s_Nodes_isOf : aS} {J : aJ} {K : aR} {n : Nat} {L : aL} {S : List Value} {M : aM} : am_run (c_Nodes_headOf s_Nodes_isOf) k_Nodes_headOf J K (n + 1) 3 L S M = ai_callv3 0 s_Nodes_isOf 6 (am_run (c_Nodes_headOf s_Nodes_isOf) k_Nodes_headOf J K n) K 3 L S M := by rfl
theorem r_Nodes_headOf_6 {s_Nodes_isOf : aS} {J : aJ} {K : aR} {n : Nat} {L : aL} {S : List Value} {M : aM} : am_run (c_Nodes_headOf s_Nodes_isOf) k_Nodes_headOf J K (n + 1) 6 L S M = ai_ifeq 18 9 (am_run (c_Nodes_headOf s_Nodes_isOf) k_Nodes_headOf J K n) K 6 L S M := by rfl
theorem r_Nodes_headOf_9 {s_Nodes_isOf : aS} {J : aJ} {K : aR} {n : Nat} {L : aL} {S : List Value} {M : aM} : am_run (c_Nodes_headOf s_Nodes_isOf) k_Nodes_headOf J K (n + 1) 9 L S M = ai_aload 0 10 (am_run (c_Nodes_headOf s_Nodes_isOf) k_Nodes_headOf J K n) K 9 L S M := by rfl
theorem r_Nodes_headOf_10 {s_Nodes_isOf : aS} {J : aJ} {K : aR} {n : Nat} {L : aL} {S : List Value} {M : aM} : am_run (c_Nodes_headOf s_Nodes_isOf) k_Nodes_headOf J K (n + 1) 10 L S M = ai_getf 0 3 13 (am_run (c_Nodes_headOf s_Nodes_isOf) k_Nodes_headOf J K n) K 10 L S M := by rfl
theorem r_Nodes_headOf_13 {s_Nodes_isOf : aS} {J : aJ} {K : aR} {n : Nat} {L : aL} {S : List Value} {M : aM} : am_run (c_Nodes_headOf s_Nodes_isOf) k_Nodes_headOf J K (n + 1) 13 L S M = ai_iload 1 14 (am_run (c_Nodes_headOf s_Nodes_isOf) k_Nodes_headOf J K n) K 13 L S M := by rfl
theorem r_Nodes_headOf_14 {s_Nodes_isOf : aS} {J : aJ} {K : aR} {n : Nat} {L : aL} {S : List Value} {M : aM} : am_run (c_Nodes_headOf s_Nodes_isOf) k_Nodes_headOf J K (n + 1) 14 L S M = ai_iald 15 (am_run (c_Nodes_headOf s_Nodes_isOf) k_Nodes_headOf J K n) K 14 L S M := by rfl
theorem r_Nodes_headOf_15 {s_Nodes_isOf : aS} {J : aJ} {K : aR} {n : Nat} {L : aL} {S : List Value} {M : aM} : am_run (c_Nodes_headOf s_Nodes_isOf) k_Nodes_headOf J K (n + 1) 15 L S M = ai_goto 19 (am_run (c_Nodes_headOf s_Nodes_isOf) k_Nodes_headOf J K n) K 15 L S M := by rfl
theorem r_Nodes_headOf_18 {s_Nodes_isOf : aS} {J : aJ} {K : aR} {n : Nat} {L : aL} {S : List Value} {M : aM} : am_run (c_Nodes_headOf s_Nodes_isOf) k_Nodes_headOf J K (n + 1) 18 L S M = ai_const (-1) 19 (am_run (c_Nodes_headOf s_Nodes_isOf) k_Nodes_headOf J K n) K 18 L S M := by rfl
theorem r_Nodes_headOf_19 {s_Nodes_isOf : aS} {J : aJ} {K : aR} {n : Nat} {L : aL} {S : List Value} {M : aM} : am_run (c_Nodes_headOf s_Nodes_isOf) k_Nodes_headOf J K (n + 1) 19 L S M = ai_iret (am_run (c_Nodes_headOf s_Nodes_isOf) k_Nodes_headOf J K n) K 19 L S M := by rfl
def c_Nodes_tailOf (s_Nodes_isOf : aS) : List (Nat × aI) := [
  (0, ai_aload 0 1),
  (1, ai_iload 1 2),
  (2, ai_const 4 3),
  (3, ai_callv3 0 s_Nodes_isOf 6),
  (6, ai_ifeq 18 9),
  (9, ai_aload 0 10),
  (10, ai_getf 0 4 13),
  (13, ai_iload 1 14),
  (14, ai_iald 15),
  (15, ai_goto 19),
  (18, ai_const (-1) 19),
  (19, ai_iret)]
set_option maxRecDepth 100000 in
set_option maxHeartbeats 4000000 in
theorem tb_Nodes_tailOf {G : aG} {d : Nat} {s_Nodes_isOf : aS} {d_Nodes_isOf : Nat} (h_Nodes_isOf : am_Sp G Y_Nodes_isOf d_Nodes_isOf s_Nodes_isOf) (l_Nodes_isOf : d_Nodes_isOf < d) : am_tab G Y_Nodes_tailOf d (c_Nodes_tailOf s_Nodes_isOf) := by
  intro K p e s m args below meth c C
  exact ⟨as_aload_n C (pc := 0) (q := 0) (by decide +kernel) rfl rfl,
    as_iload_n C (pc := 1) (q := 1) (by decide +kernel) rfl rfl,
    as_iconst C (pc := 2) (n := 4) (by decide +kernel) (by decide +kernel) rfl,
    as_callv3 C (pc := 3) h_Nodes_isOf (T := T_Nodes) (N := 10) rfl w_421 w_72 w_420 w_36 w_418 hy_Nodes_isOf (am_rm_of l_Nodes_isOf (by decide)) (by decide +kernel) rfl,
    as_ifeq C (pc := 6) (off := 12) (by decide +kernel) (by decide) rfl,
    as_aload_n C (pc := 9) (q := 0) (by decide +kernel) rfl rfl,
    as_getf C (pc := 10) (T := T_Nodes) (N := 10) rfl in_Nodes (by decide) rfl w_122 (by decide +kernel) rfl,
    as_iload_n C (pc := 13) (q := 1) (by decide +kernel) rfl rfl,
    as_iald C (pc := 14) (by decide +kernel) rfl,
    as_goto C (pc := 15) (off := 4) (by decide +kernel) (by decide),
    as_iconst C (pc := 18) (n := (-1)) (by decide +kernel) (by decide +kernel) rfl,
    as_iret C (pc := 19) rfl (by decide +kernel), trivial⟩
abbrev k_Nodes_tailOf : List Nat := []
theorem r_Nodes_tailOf_0 {s_Nodes_isOf : aS} {J : aJ} {K : aR} {n : Nat} {L : aL} {S : List Value} {M : aM} : am_run (c_Nodes_tailOf s_Nodes_isOf) k_Nodes_tailOf J K (n + 1) 0 L S M = ai_aload 0 1 (am_run (c_Nodes_tailOf s_Nodes_isOf) k_Nodes_tailOf J K n) K 0 L S M := by rfl
theorem r_Nodes_tailOf_1 {s_Nodes_isOf : aS} {J : aJ} {K : aR} {n : Nat} {L : aL} {S : List Value} {M : aM} : am_run (c_Nodes_tailOf s_Nodes_isOf) k_Nodes_tailOf J K (n + 1) 1 L S M = ai_iload 1 2 (am_run (c_Nodes_tailOf s_Nodes_isOf) k_Nodes_tailOf J K n) K 1 L S M := by rfl
theorem r_Nodes_tailOf_2 {s_Nodes_isOf : aS} {J : aJ} {K : aR} {n : Nat} {L : aL} {S : List Value} {M : aM} : am_run (c_Nodes_tailOf s_Nodes_isOf) k_Nodes_tailOf J K (n + 1) 2 L S M = ai_const 4 3 (am_run (c_Nodes_tailOf s_Nodes_isOf) k_Nodes_tailOf J K n) K 2 L S M := by rfl
theorem r_Nodes_tailOf_3 {s_Nodes_isOf : aS} {J : aJ} {K : aR} {n : Nat} {L : aL} {S : List Value} {M : aM} : am_run (c_Nodes_tailOf s_Nodes_isOf) k_Nodes_tailOf J K (n + 1) 3 L S M = ai_callv3 0 s_Nodes_isOf 6 (am_run (c_Nodes_tailOf s_Nodes_isOf) k_Nodes_tailOf J K n) K 3 L S M := by rfl
theorem r_Nodes_tailOf_6 {s_Nodes_isOf : aS} {J : aJ} {K : aR} {n : Nat} {L : aL} {S : List Value} {M : aM} : am_run (c_Nodes_tailOf s_Nodes_isOf) k_Nodes_tailOf J K (n + 1) 6 L S M = ai_ifeq 18 9 (am_run (c_Nodes_tailOf s_Nodes_isOf) k_Nodes_tailOf J K n) K 6 L S M := by rfl
theorem r_Nodes_tailOf_9 {s_Nodes_isOf : aS} {J : aJ} {K : aR} {n : Nat} {L : aL} {S : List Value} {M : aM} : am_run (c_Nodes_tailOf s_Nodes_isOf) k_Nodes_tailOf J K (n + 1) 9 L S M = ai_aload 0 10 (am_run (c_Nodes_tailOf s_Nodes_isOf) k_Nodes_tailOf J K n) K 9 L S M := by rfl
theorem r_Nodes_tailOf_10 {s_Nodes_isOf : aS} {J : aJ} {K : aR} {n : Nat} {L : aL} {S : List Value} {M : aM} : am_run (c_Nodes_tailOf s_Nodes_isOf) k_Nodes_tailOf J K (n + 1) 10 L S M = ai_getf 0 4 13 (am_run (c_Nodes_tailOf s_Nodes_isOf) k_Nodes_tailOf J K n) K 10 L S M := by rfl
theorem r_Nodes_tailOf_13 {s_Nodes_isOf : aS} {J : aJ} {K : aR} {n : Nat} {L : aL} {S : List Value} {M : aM} : am_run (c_Nodes_tailOf s_Nodes_isOf) k_Nodes_tailOf J K (n + 1) 13 L S M = ai_iload 1 14 (am_run (c_Nodes_tailOf s_Nodes_isOf) k_Nodes_tailOf J K n) K 13 L S M := by rfl
theorem r_Nodes_tailOf_14 {s_Nodes_isOf : aS} {J : aJ} {K : aR} {n : Nat} {L : aL} {S : List Value} {M : aM} : am_run (c_Nodes_tailOf s_Nodes_isOf) k_Nodes_tailOf J K (n + 1) 14 L S M = ai_iald 15 (am_run (c_Nodes_tailOf s_Nodes_isOf) k_Nodes_tailOf J K n) K 14 L S M := by rfl
theorem r_Nodes_tailOf_15 {s_Nodes_isOf : aS} {J : aJ} {K : aR} {n : Nat} {L : aL} {S : List Value} {M : aM} : am_run (c_Nodes_tailOf s_Nodes_isOf) k_Nodes_tailOf J K (n + 1) 15 L S M = ai_goto 19 (am_run (c_Nodes_tailOf s_Nodes_isOf) k_Nodes_tailOf J K n) K 15 L S M := by rfl
theorem r_Nodes_tailOf_18 {s_Nodes_isOf : aS} {J : aJ} {K : aR} {n : Nat} {L : aL} {S : List Value} {M : aM} : am_run (c_Nodes_tailOf s_Nodes_isOf) k_Nodes_tailOf J K (n + 1) 18 L S M = ai_const (-1) 19 (am_run (c_Nodes_tailOf s_Nodes_isOf) k_Nodes_tailOf J K n) K 18 L S M := by rfl
theorem r_Nodes_tailOf_19 {s_Nodes_isOf : aS} {J : aJ} {K : aR} {n : Nat} {L : aL} {S : List Value} {M : aM} : am_run (c_Nodes_tailOf s_Nodes_isOf) k_Nodes_tailOf J K (n + 1) 19 L S M = ai_iret (am_run (c_Nodes_tailOf s_Nodes_isOf) k_Nodes_tailOf J K n) K 19 L S M := by rfl
def c_Nodes_alike (s_Nodes_isOf : aS) (s_Nodes_kindOf : aS) (s_Nodes_sameContent : aS) (s_Nodes_alike : aS) : List (Nat × aI) := [
  (0, ai_iload 3 1),
  (1, ai_const 15 3),
  (3, ai_cmple 8 6),
  (6, ai_const 0 7),
  (7, ai_zret),
  (8, ai_iload 1 9),
  (9, ai_istore 4 11),
  (11, ai_iload 2 12),
  (12, ai_istore 5 14),
  (14, ai_const 0 15),
  (15, ai_istore 6 17),
  (17, ai_iload 6 19),
  (19, ai_const 200 22),
  (22, ai_cmpge 127 25),
  (25, ai_aload 0 26),
  (26, ai_iload 4 28),
  (28, ai_const 4 29),
  (29, ai_callv3 0 s_Nodes_isOf 32),
  (32, ai_ifeq 45 35),
  (35, ai_aload 0 36),
  (36, ai_iload 5 38),
  (38, ai_const 4 39),
  (39, ai_callv3 0 s_Nodes_isOf 42),
  (42, ai_ifne 77 45),
  (45, ai_aload 0 46),
  (46, ai_iload 4 48),
  (48, ai_callv2 0 s_Nodes_kindOf 51),
  (51, ai_aload 0 52),
  (52, ai_iload 5 54),
  (54, ai_callv2 0 s_Nodes_kindOf 57),
  (57, ai_cmpne 75 60),
  (60, ai_aload 0 61),
  (61, ai_iload 4 63),
  (63, ai_iload 5 65),
  (65, ai_callv3 0 s_Nodes_sameContent 68),
  (68, ai_ifeq 75 71),
  (71, ai_const 1 72),
  (72, ai_goto 76),
  (75, ai_const 0 76),
  (76, ai_zret),
  (77, ai_aload 0 78),
  (78, ai_aload 0 79),
  (79, ai_getf 0 3 82),
  (82, ai_iload 4 84),
  (84, ai_iald 85),
  (85, ai_aload 0 86),
  (86, ai_getf 0 3 89),
  (89, ai_iload 5 91),
  (91, ai_iald 92),
  (92, ai_iload 3 93),
  (93, ai_const 1 94),
  (94, ai_iadd 95),
  (95, ai_callv4 0 s_Nodes_alike 98),
  (98, ai_ifne 103 101),
  (101, ai_const 0 102),
  (102, ai_zret),
  (103, ai_aload 0 104),
  (104, ai_getf 0 4 107),
  (107, ai_iload 4 109),
  (109, ai_iald 110),
  (110, ai_istore 4 112),
  (112, ai_aload 0 113),
  (113, ai_getf 0 4 116),
  (116, ai_iload 5 118),
  (118, ai_iald 119),
  (119, ai_istore 5 121),
  (121, ai_iinc 6 1 124),
  (124, ai_goto 17),
  (127, ai_const 0 128),
  (128, ai_zret)]
set_option maxRecDepth 100000 in
set_option maxHeartbeats 4000000 in
theorem tb_Nodes_alike {G : aG} {d : Nat} {s_Nodes_isOf : aS} {d_Nodes_isOf : Nat} (h_Nodes_isOf : am_Sp G Y_Nodes_isOf d_Nodes_isOf s_Nodes_isOf) (l_Nodes_isOf : d_Nodes_isOf < d) {s_Nodes_kindOf : aS} {d_Nodes_kindOf : Nat} (h_Nodes_kindOf : am_Sp G Y_Nodes_kindOf d_Nodes_kindOf s_Nodes_kindOf) (l_Nodes_kindOf : d_Nodes_kindOf < d) {s_Nodes_sameContent : aS} {d_Nodes_sameContent : Nat} (h_Nodes_sameContent : am_Sp G Y_Nodes_sameContent d_Nodes_sameContent s_Nodes_sameContent) (l_Nodes_sameContent : d_Nodes_sameContent < d) {s_Nodes_alike : aS} {d_Nodes_alike : Nat} (h_Nodes_alike : am_Sp G Y_Nodes_alike d_Nodes_alike s_Nodes_alike) (l_Nodes_alike : d_Nodes_alike < d) : am_tab G Y_Nodes_alike d (c_Nodes_alike s_Nodes_isOf s_Nodes_kindOf s_Nodes_sameContent s_Nodes_alike) := by
  intro K p e s m args below meth c C
  exact ⟨as_iload_n C (pc := 0) (q := 3) (by decide +kernel) rfl rfl,
    as_bipush C (pc := 1) (n := 15) (by decide +kernel) (by decide +kernel) rfl,
    as_cmple C (pc := 3) (off := 5) (by decide +kernel) (by decide) rfl,
    as_iconst C (pc := 6) (n := 0) (by decide +kernel) (by decide +kernel) rfl,
    as_zret C (pc := 7) rfl (by decide +kernel),
    as_iload_n C (pc := 8) (q := 1) (by decide +kernel) rfl rfl,
    as_istore C (pc := 9) (k := 4) (by decide +kernel) (by decide) rfl,
    as_iload_n C (pc := 11) (q := 2) (by decide +kernel) rfl rfl,
    as_istore C (pc := 12) (k := 5) (by decide +kernel) (by decide) rfl,
    as_iconst C (pc := 14) (n := 0) (by decide +kernel) (by decide +kernel) rfl,
    as_istore C (pc := 15) (k := 6) (by decide +kernel) (by decide) rfl,
    as_iload C (pc := 17) (k := 6) (by decide +kernel) rfl,
    as_sipush C (pc := 19) (n := 200) (by decide +kernel) (by decide +kernel) rfl,
    as_cmpge C (pc := 22) (off := 105) (by decide +kernel) (by decide) rfl,
    as_aload_n C (pc := 25) (q := 0) (by decide +kernel) rfl rfl,
    as_iload C (pc := 26) (k := 4) (by decide +kernel) rfl,
    as_iconst C (pc := 28) (n := 4) (by decide +kernel) (by decide +kernel) rfl,
    as_callv3 C (pc := 29) h_Nodes_isOf (T := T_Nodes) (N := 10) rfl w_421 w_72 w_420 w_36 w_418 hy_Nodes_isOf (am_rm_of l_Nodes_isOf (by decide)) (by decide +kernel) rfl,
    as_ifeq C (pc := 32) (off := 13) (by decide +kernel) (by decide) rfl,
    as_aload_n C (pc := 35) (q := 0) (by decide +kernel) rfl rfl,
    as_iload C (pc := 36) (k := 5) (by decide +kernel) rfl,
    as_iconst C (pc := 38) (n := 4) (by decide +kernel) (by decide +kernel) rfl,
    as_callv3 C (pc := 39) h_Nodes_isOf (T := T_Nodes) (N := 10) rfl w_421 w_72 w_420 w_36 w_418 hy_Nodes_isOf (am_rm_of l_Nodes_isOf (by decide)) (by decide +kernel) rfl,
    as_ifne C (pc := 42) (off := 35) (by decide +kernel) (by decide) rfl,
    as_aload_n C (pc := 45) (q := 0) (by decide +kernel) rfl rfl,
    as_iload C (pc := 46) (k := 4) (by decide +kernel) rfl,
    as_callv2 C (pc := 48) h_Nodes_kindOf (T := T_Nodes) (N := 10) rfl w_401 w_72 w_400 w_33 w_443 hy_Nodes_kindOf (am_rm_of l_Nodes_kindOf (by decide)) (by decide +kernel) rfl,
    as_aload_n C (pc := 51) (q := 0) (by decide +kernel) rfl rfl,
    as_iload C (pc := 52) (k := 5) (by decide +kernel) rfl,
    as_callv2 C (pc := 54) h_Nodes_kindOf (T := T_Nodes) (N := 10) rfl w_401 w_72 w_400 w_33 w_443 hy_Nodes_kindOf (am_rm_of l_Nodes_kindOf (by decide)) (by decide +kernel) rfl,
    as_cmpne C (pc := 57) (off := 18) (by decide +kernel) (by decide) rfl,
    as_aload_n C (pc := 60) (q := 0) (by decide +kernel) rfl rfl,
    as_iload C (pc := 61) (k := 4) (by decide +kernel) rfl,
    as_iload C (pc := 63) (k := 5) (by decide +kernel) rfl,
    as_callv3 C (pc := 65) h_Nodes_sameContent (T := T_Nodes) (N := 10) rfl w_447 w_72 w_446 w_40 w_444 hy_Nodes_sameContent (am_rm_of l_Nodes_sameContent (by decide)) (by decide +kernel) rfl,
    as_ifeq C (pc := 68) (off := 7) (by decide +kernel) (by decide) rfl,
    as_iconst C (pc := 71) (n := 1) (by decide +kernel) (by decide +kernel) rfl,
    as_goto C (pc := 72) (off := 4) (by decide +kernel) (by decide),
    as_iconst C (pc := 75) (n := 0) (by decide +kernel) (by decide +kernel) rfl,
    as_zret C (pc := 76) rfl (by decide +kernel),
    as_aload_n C (pc := 77) (q := 0) (by decide +kernel) rfl rfl,
    as_aload_n C (pc := 78) (q := 0) (by decide +kernel) rfl rfl,
    as_getf C (pc := 79) (T := T_Nodes) (N := 10) rfl in_Nodes (by decide) rfl w_121 (by decide +kernel) rfl,
    as_iload C (pc := 82) (k := 4) (by decide +kernel) rfl,
    as_iald C (pc := 84) (by decide +kernel) rfl,
    as_aload_n C (pc := 85) (q := 0) (by decide +kernel) rfl rfl,
    as_getf C (pc := 86) (T := T_Nodes) (N := 10) rfl in_Nodes (by decide) rfl w_121 (by decide +kernel) rfl,
    as_iload C (pc := 89) (k := 5) (by decide +kernel) rfl,
    as_iald C (pc := 91) (by decide +kernel) rfl,
    as_iload_n C (pc := 92) (q := 3) (by decide +kernel) rfl rfl,
    as_iconst C (pc := 93) (n := 1) (by decide +kernel) (by decide +kernel) rfl,
    as_iadd C (pc := 94) (by decide +kernel) rfl,
    as_callv4 C (pc := 95) h_Nodes_alike (T := T_Nodes) (N := 10) rfl w_442 w_72 w_441 w_39 w_450 hy_Nodes_alike (am_rm_of l_Nodes_alike (by decide)) (by decide +kernel) rfl,
    as_ifne C (pc := 98) (off := 5) (by decide +kernel) (by decide) rfl,
    as_iconst C (pc := 101) (n := 0) (by decide +kernel) (by decide +kernel) rfl,
    as_zret C (pc := 102) rfl (by decide +kernel),
    as_aload_n C (pc := 103) (q := 0) (by decide +kernel) rfl rfl,
    as_getf C (pc := 104) (T := T_Nodes) (N := 10) rfl in_Nodes (by decide) rfl w_122 (by decide +kernel) rfl,
    as_iload C (pc := 107) (k := 4) (by decide +kernel) rfl,
    as_iald C (pc := 109) (by decide +kernel) rfl,
    as_istore C (pc := 110) (k := 4) (by decide +kernel) (by decide) rfl,
    as_aload_n C (pc := 112) (q := 0) (by decide +kernel) rfl rfl,
    as_getf C (pc := 113) (T := T_Nodes) (N := 10) rfl in_Nodes (by decide) rfl w_122 (by decide +kernel) rfl,
    as_iload C (pc := 116) (k := 5) (by decide +kernel) rfl,
    as_iald C (pc := 118) (by decide +kernel) rfl,
    as_istore C (pc := 119) (k := 5) (by decide +kernel) (by decide) rfl,
    as_iinc C (pc := 121) (k := 6) (n := 1) (by decide +kernel) (by decide +kernel) (by decide) rfl,
    as_goto C (pc := 124) (off := (-107)) (by decide +kernel) (by decide),
    as_iconst C (pc := 127) (n := 0) (by decide +kernel) (by decide +kernel) rfl,
    as_zret C (pc := 128) rfl (by decide +kernel), trivial⟩
abbrev k_Nodes_alike : List Nat := [17]
set_option maxRecDepth 20000 in
theorem q_Nodes_alike_17 {s_Nodes_isOf : aS} {s_Nodes_kindOf : aS} {s_Nodes_sameContent : aS} {s_Nodes_alike : aS} : am_at (c_Nodes_alike s_Nodes_isOf s_Nodes_kindOf s_Nodes_sameContent s_Nodes_alike) 17 = ai_iload 6 19 := by rfl
set_option maxRecDepth 20000 in
theorem r_Nodes_alike_0 {s_Nodes_isOf : aS} {s_Nodes_kindOf : aS} {s_Nodes_sameContent : aS} {s_Nodes_alike : aS} {J : aJ} {K : aR} {n : Nat} {L : aL} {S : List Value} {M : aM} : am_run (c_Nodes_alike s_Nodes_isOf s_Nodes_kindOf s_Nodes_sameContent s_Nodes_alike) k_Nodes_alike J K (n + 1) 0 L S M = ai_iload 3 1 (am_run (c_Nodes_alike s_Nodes_isOf s_Nodes_kindOf s_Nodes_sameContent s_Nodes_alike) k_Nodes_alike J K n) K 0 L S M := by rfl
set_option maxRecDepth 20000 in
theorem r_Nodes_alike_1 {s_Nodes_isOf : aS} {s_Nodes_kindOf : aS} {s_Nodes_sameContent : aS} {s_Nodes_alike : aS} {J : aJ} {K : aR} {n : Nat} {L : aL} {S : List Value} {M : aM} : am_run (c_Nodes_alike s_Nodes_isOf s_Nodes_kindOf s_Nodes_sameContent s_Nodes_alike) k_Nodes_alike J K (n + 1) 1 L S M = ai_const 15 3 (am_run (c_Nodes_alike s_Nodes_isOf s_Nodes_kindOf s_Nodes_sameContent s_Nodes_alike) k_Nodes_alike J K n) K 1 L S M := by rfl
set_option maxRecDepth 20000 in
theorem r_Nodes_alike_3 {s_Nodes_isOf : aS} {s_Nodes_kindOf : aS} {s_Nodes_sameContent : aS} {s_Nodes_alike : aS} {J : aJ} {K : aR} {n : Nat} {L : aL} {S : List Value} {M : aM} : am_run (c_Nodes_alike s_Nodes_isOf s_Nodes_kindOf s_Nodes_sameContent s_Nodes_alike) k_Nodes_alike J K (n + 1) 3 L S M = ai_cmple 8 6 (am_run (c_Nodes_alike s_Nodes_isOf s_Nodes_kindOf s_Nodes_sameContent s_Nodes_alike) k_Nodes_alike J K n) K 3 L S M := by rfl
set_option maxRecDepth 20000 in
theorem r_Nodes_alike_6 {s_Nodes_isOf : aS} {s_Nodes_kindOf : aS} {s_Nodes_sameContent : aS} {s_Nodes_alike : aS} {J : aJ} {K : aR} {n : Nat} {L : aL} {S : List Value} {M : aM} : am_run (c_Nodes_alike s_Nodes_isOf s_Nodes_kindOf s_Nodes_sameContent s_Nodes_alike) k_Nodes_alike J K (n + 1) 6 L S M = ai_const 0 7 (am_run (c_Nodes_alike s_Nodes_isOf s_Nodes_kindOf s_Nodes_sameContent s_Nodes_alike) k_Nodes_alike J K n) K 6 L S M := by rfl
set_option maxRecDepth 20000 in
theorem r_Nodes_alike_7 {s_Nodes_isOf : aS} {s_Nodes_kindOf : aS} {s_Nodes_sameContent : aS} {s_Nodes_alike : aS} {J : aJ} {K : aR} {n : Nat} {L : aL} {S : List Value} {M : aM} : am_run (c_Nodes_alike s_Nodes_isOf s_Nodes_kindOf s_Nodes_sameContent s_Nodes_alike) k_Nodes_alike J K (n + 1) 7 L S M = ai_zret (am_run (c_Nodes_alike s_Nodes_isOf s_Nodes_kindOf s_Nodes_sameContent s_Nodes_alike) k_Nodes_alike J K n) K 7 L S M := by rfl
set_option maxRecDepth 20000 in
theorem r_Nodes_alike_8 {s_Nodes_isOf : aS} {s_Nodes_kindOf : aS} {s_Nodes_sameContent : aS} {s_Nodes_alike : aS} {J : aJ} {K : aR} {n : Nat} {L : aL} {S : List Value} {M : aM} : am_run (c_Nodes_alike s_Nodes_isOf s_Nodes_kindOf s_Nodes_sameContent s_Nodes_alike) k_Nodes_alike J K (n + 1) 8 L S M = ai_iload 1 9 (am_run (c_Nodes_alike s_Nodes_isOf s_Nodes_kindOf s_Nodes_sameContent s_Nodes_alike) k_Nodes_alike J K n) K 8 L S M := by rfl
set_option maxRecDepth 20000 in
theorem r_Nodes_alike_9 {s_Nodes_isOf : aS} {s_Nodes_kindOf : aS} {s_Nodes_sameContent : aS} {s_Nodes_alike : aS} {J : aJ} {K : aR} {n : Nat} {L : aL} {S : List Value} {M : aM} : am_run (c_Nodes_alike s_Nodes_isOf s_Nodes_kindOf s_Nodes_sameContent s_Nodes_alike) k_Nodes_alike J K (n + 1) 9 L S M = ai_istore 4 11 (am_run (c_Nodes_alike s_Nodes_isOf s_Nodes_kindOf s_Nodes_sameContent s_Nodes_alike) k_Nodes_alike J K n) K 9 L S M := by rfl
set_option maxRecDepth 20000 in
theorem r_Nodes_alike_11 {s_Nodes_isOf : aS} {s_Nodes_kindOf : aS} {s_Nodes_sameContent : aS} {s_Nodes_alike : aS} {J : aJ} {K : aR} {n : Nat} {L : aL} {S : List Value} {M : aM} : am_run (c_Nodes_alike s_Nodes_isOf s_Nodes_kindOf s_Nodes_sameContent s_Nodes_alike) k_Nodes_alike J K (n + 1) 11 L S M = ai_iload 2 12 (am_run (c_Nodes_alike s_Nodes_isOf s_Nodes_kindOf s_Nodes_sameContent s_Nodes_alike) k_Nodes_alike J K n) K 11 L S M := by rfl
set_option maxRecDepth 20000 in
theorem r_Nodes_alike_12 {s_Nodes_isOf : aS} {s_Nodes_kindOf : aS} {s_Nodes_sameContent : aS} {s_Nodes_alike : aS} {J : aJ} {K : aR} {n : Nat} {L : aL} {S : List Value} {M : aM} : am_run (c_Nodes_alike s_Nodes_isOf s_Nodes_kindOf s_Nodes_sameContent s_Nodes_alike) k_Nodes_alike J K (n + 1) 12 L S M = ai_istore 5 14 (am_run (c_Nodes_alike s_Nodes_isOf s_Nodes_kindOf s_Nodes_sameContent s_Nodes_alike) k_Nodes_alike J K n) K 12 L S M := by rfl
set_option maxRecDepth 20000 in
theorem r_Nodes_alike_14 {s_Nodes_isOf : aS} {s_Nodes_kindOf : aS} {s_Nodes_sameContent : aS} {s_Nodes_alike : aS} {J : aJ} {K : aR} {n : Nat} {L : aL} {S : List Value} {M : aM} : am_run (c_Nodes_alike s_Nodes_isOf s_Nodes_kindOf s_Nodes_sameContent s_Nodes_alike) k_Nodes_alike J K (n + 1) 14 L S M = ai_const 0 15 (am_run (c_Nodes_alike s_Nodes_isOf s_Nodes_kindOf s_Nodes_sameContent s_Nodes_alike) k_Nodes_alike J K n) K 14 L S M := by rfl
set_option maxRecDepth 20000 in
theorem r_Nodes_alike_15 {s_Nodes_isOf : aS} {s_Nodes_kindOf : aS} {s_Nodes_sameContent : aS} {s_Nodes_alike : aS} {J : aJ} {K : aR} {n : Nat} {L : aL} {S : List Value} {M : aM} : am_run (c_Nodes_alike s_Nodes_isOf s_Nodes_kindOf s_Nodes_sameContent s_Nodes_alike) k_Nodes_alike J K (n + 1) 15 L S M = ai_istore 6 17 (am_run (c_Nodes_alike s_Nodes_isOf s_Nodes_kindOf s_Nodes_sameContent s_Nodes_alike) k_Nodes_alike J K n) K 15 L S M := by rfl
set_option maxRecDepth 20000 in
theorem r_Nodes_alike_17 {s_Nodes_isOf : aS} {s_Nodes_kindOf : aS} {s_Nodes_sameContent : aS} {s_Nodes_alike : aS} {J : aJ} {K : aR} {n : Nat} {L : aL} {S : List Value} {M : aM} : am_run (c_Nodes_alike s_Nodes_isOf s_Nodes_kindOf s_Nodes_sameContent s_Nodes_alike) k_Nodes_alike J K (n + 1) 17 L S M = J 17 L S M := by rfl
set_option maxRecDepth 20000 in
theorem r_Nodes_alike_19 {s_Nodes_isOf : aS} {s_Nodes_kindOf : aS} {s_Nodes_sameContent : aS} {s_Nodes_alike : aS} {J : aJ} {K : aR} {n : Nat} {L : aL} {S : List Value} {M : aM} : am_run (c_Nodes_alike s_Nodes_isOf s_Nodes_kindOf s_Nodes_sameContent s_Nodes_alike) k_Nodes_alike J K (n + 1) 19 L S M = ai_const 200 22 (am_run (c_Nodes_alike s_Nodes_isOf s_Nodes_kindOf s_Nodes_sameContent s_Nodes_alike) k_Nodes_alike J K n) K 19 L S M := by rfl
set_option maxRecDepth 20000 in
theorem r_Nodes_alike_22 {s_Nodes_isOf : aS} {s_Nodes_kindOf : aS} {s_Nodes_sameContent : aS} {s_Nodes_alike : aS} {J : aJ} {K : aR} {n : Nat} {L : aL} {S : List Value} {M : aM} : am_run (c_Nodes_alike s_Nodes_isOf s_Nodes_kindOf s_Nodes_sameContent s_Nodes_alike) k_Nodes_alike J K (n + 1) 22 L S M = ai_cmpge 127 25 (am_run (c_Nodes_alike s_Nodes_isOf s_Nodes_kindOf s_Nodes_sameContent s_Nodes_alike) k_Nodes_alike J K n) K 22 L S M := by rfl
set_option maxRecDepth 20000 in
theorem r_Nodes_alike_25 {s_Nodes_isOf : aS} {s_Nodes_kindOf : aS} {s_Nodes_sameContent : aS} {s_Nodes_alike : aS} {J : aJ} {K : aR} {n : Nat} {L : aL} {S : List Value} {M : aM} : am_run (c_Nodes_alike s_Nodes_isOf s_Nodes_kindOf s_Nodes_sameContent s_Nodes_alike) k_Nodes_alike J K (n + 1) 25 L S M = ai_aload 0 26 (am_run (c_Nodes_alike s_Nodes_isOf s_Nodes_kindOf s_Nodes_sameContent s_Nodes_alike) k_Nodes_alike J K n) K 25 L S M := by rfl
set_option maxRecDepth 20000 in
theorem r_Nodes_alike_26 {s_Nodes_isOf : aS} {s_Nodes_kindOf : aS} {s_Nodes_sameContent : aS} {s_Nodes_alike : aS} {J : aJ} {K : aR} {n : Nat} {L : aL} {S : List Value} {M : aM} : am_run (c_Nodes_alike s_Nodes_isOf s_Nodes_kindOf s_Nodes_sameContent s_Nodes_alike) k_Nodes_alike J K (n + 1) 26 L S M = ai_iload 4 28 (am_run (c_Nodes_alike s_Nodes_isOf s_Nodes_kindOf s_Nodes_sameContent s_Nodes_alike) k_Nodes_alike J K n) K 26 L S M := by rfl
set_option maxRecDepth 20000 in
theorem r_Nodes_alike_28 {s_Nodes_isOf : aS} {s_Nodes_kindOf : aS} {s_Nodes_sameContent : aS} {s_Nodes_alike : aS} {J : aJ} {K : aR} {n : Nat} {L : aL} {S : List Value} {M : aM} : am_run (c_Nodes_alike s_Nodes_isOf s_Nodes_kindOf s_Nodes_sameContent s_Nodes_alike) k_Nodes_alike J K (n + 1) 28 L S M = ai_const 4 29 (am_run (c_Nodes_alike s_Nodes_isOf s_Nodes_kindOf s_Nodes_sameContent s_Nodes_alike) k_Nodes_alike J K n) K 28 L S M := by rfl
set_option maxRecDepth 20000 in
theorem r_Nodes_alike_29 {s_Nodes_isOf : aS} {s_Nodes_kindOf : aS} {s_Nodes_sameContent : aS} {s_Nodes_alike : aS} {J : aJ} {K : aR} {n : Nat} {L : aL} {S : List Value} {M : aM} : am_run (c_Nodes_alike s_Nodes_isOf s_Nodes_kindOf s_Nodes_sameContent s_Nodes_alike) k_Nodes_alike J K (n + 1) 29 L S M = ai_callv3 0 s_Nodes_isOf 32 (am_run (c_Nodes_alike s_Nodes_isOf s_Nodes_kindOf s_Nodes_sameContent s_Nodes_alike) k_Nodes_alike J K n) K 29 L S M := by rfl
set_option maxRecDepth 20000 in
theorem r_Nodes_alike_32 {s_Nodes_isOf : aS} {s_Nodes_kindOf : aS} {s_Nodes_sameContent : aS} {s_Nodes_alike : aS} {J : aJ} {K : aR} {n : Nat} {L : aL} {S : List Value} {M : aM} : am_run (c_Nodes_alike s_Nodes_isOf s_Nodes_kindOf s_Nodes_sameContent s_Nodes_alike) k_Nodes_alike J K (n + 1) 32 L S M = ai_ifeq 45 35 (am_run (c_Nodes_alike s_Nodes_isOf s_Nodes_kindOf s_Nodes_sameContent s_Nodes_alike) k_Nodes_alike J K n) K 32 L S M := by rfl
set_option maxRecDepth 20000 in
theorem r_Nodes_alike_35 {s_Nodes_isOf : aS} {s_Nodes_kindOf : aS} {s_Nodes_sameContent : aS} {s_Nodes_alike : aS} {J : aJ} {K : aR} {n : Nat} {L : aL} {S : List Value} {M : aM} : am_run (c_Nodes_alike s_Nodes_isOf s_Nodes_kindOf s_Nodes_sameContent s_Nodes_alike) k_Nodes_alike J K (n + 1) 35 L S M = ai_aload 0 36 (am_run (c_Nodes_alike s_Nodes_isOf s_Nodes_kindOf s_Nodes_sameContent s_Nodes_alike) k_Nodes_alike J K n) K 35 L S M := by rfl
set_option maxRecDepth 20000 in
theorem r_Nodes_alike_36 {s_Nodes_isOf : aS} {s_Nodes_kindOf : aS} {s_Nodes_sameContent : aS} {s_Nodes_alike : aS} {J : aJ} {K : aR} {n : Nat} {L : aL} {S : List Value} {M : aM} : am_run (c_Nodes_alike s_Nodes_isOf s_Nodes_kindOf s_Nodes_sameContent s_Nodes_alike) k_Nodes_alike J K (n + 1) 36 L S M = ai_iload 5 38 (am_run (c_Nodes_alike s_Nodes_isOf s_Nodes_kindOf s_Nodes_sameContent s_Nodes_alike) k_Nodes_alike J K n) K 36 L S M := by rfl
set_option maxRecDepth 20000 in
theorem r_Nodes_alike_38 {s_Nodes_isOf : aS} {s_Nodes_kindOf : aS} {s_Nodes_sameContent : aS} {s_Nodes_alike : aS} {J : aJ} {K : aR} {n : Nat} {L : aL} {S : List Value} {M : aM} : am_run (c_Nodes_alike s_Nodes_isOf s_Nodes_kindOf s_Nodes_sameContent s_Nodes_alike) k_Nodes_alike J K (n + 1) 38 L S M = ai_const 4 39 (am_run (c_Nodes_alike s_Nodes_isOf s_Nodes_kindOf s_Nodes_sameContent s_Nodes_alike) k_Nodes_alike J K n) K 38 L S M := by rfl
set_option maxRecDepth 20000 in
theorem r_Nodes_alike_39 {s_Nodes_isOf : aS} {s_Nodes_kindOf : aS} {s_Nodes_sameContent : aS} {s_Nodes_alike : aS} {J : aJ} {K : aR} {n : Nat} {L : aL} {S : List Value} {M : aM} : am_run (c_Nodes_alike s_Nodes_isOf s_Nodes_kindOf s_Nodes_sameContent s_Nodes_alike) k_Nodes_alike J K (n + 1) 39 L S M = ai_callv3 0 s_Nodes_isOf 42 (am_run (c_Nodes_alike s_Nodes_isOf s_Nodes_kindOf s_Nodes_sameContent s_Nodes_alike) k_Nodes_alike J K n) K 39 L S M := by rfl
set_option maxRecDepth 20000 in
theorem r_Nodes_alike_42 {s_Nodes_isOf : aS} {s_Nodes_kindOf : aS} {s_Nodes_sameContent : aS} {s_Nodes_alike : aS} {J : aJ} {K : aR} {n : Nat} {L : aL} {S : List Value} {M : aM} : am_run (c_Nodes_alike s_Nodes_isOf s_Nodes_kindOf s_Nodes_sameContent s_Nodes_alike) k_Nodes_alike J K (n + 1) 42 L S M = ai_ifne 77 45 (am_run (c_Nodes_alike s_Nodes_isOf s_Nodes_kindOf s_Nodes_sameContent s_Nodes_alike) k_Nodes_alike J K n) K 42 L S M := by rfl
set_option maxRecDepth 20000 in
theorem r_Nodes_alike_45 {s_Nodes_isOf : aS} {s_Nodes_kindOf : aS} {s_Nodes_sameContent : aS} {s_Nodes_alike : aS} {J : aJ} {K : aR} {n : Nat} {L : aL} {S : List Value} {M : aM} : am_run (c_Nodes_alike s_Nodes_isOf s_Nodes_kindOf s_Nodes_sameContent s_Nodes_alike) k_Nodes_alike J K (n + 1) 45 L S M = ai_aload 0 46 (am_run (c_Nodes_alike s_Nodes_isOf s_Nodes_kindOf s_Nodes_sameContent s_Nodes_alike) k_Nodes_alike J K n) K 45 L S M := by rfl
set_option maxRecDepth 20000 in
theorem r_Nodes_alike_46 {s_Nodes_isOf : aS} {s_Nodes_kindOf : aS} {s_Nodes_sameContent : aS} {s_Nodes_alike : aS} {J : aJ} {K : aR} {n : Nat} {L : aL} {S : List Value} {M : aM} : am_run (c_Nodes_alike s_Nodes_isOf s_Nodes_kindOf s_Nodes_sameContent s_Nodes_alike) k_Nodes_alike J K (n + 1) 46 L S M = ai_iload 4 48 (am_run (c_Nodes_alike s_Nodes_isOf s_Nodes_kindOf s_Nodes_sameContent s_Nodes_alike) k_Nodes_alike J K n) K 46 L S M := by rfl
set_option maxRecDepth 20000 in
theorem r_Nodes_alike_48 {s_Nodes_isOf : aS} {s_Nodes_kindOf : aS} {s_Nodes_sameContent : aS} {s_Nodes_alike : aS} {J : aJ} {K : aR} {n : Nat} {L : aL} {S : List Value} {M : aM} : am_run (c_Nodes_alike s_Nodes_isOf s_Nodes_kindOf s_Nodes_sameContent s_Nodes_alike) k_Nodes_alike J K (n + 1) 48 L S M = ai_callv2 0 s_Nodes_kindOf 51 (am_run (c_Nodes_alike s_Nodes_isOf s_Nodes_kindOf s_Nodes_sameContent s_Nodes_alike) k_Nodes_alike J K n) K 48 L S M := by rfl
set_option maxRecDepth 20000 in
theorem r_Nodes_alike_51 {s_Nodes_isOf : aS} {s_Nodes_kindOf : aS} {s_Nodes_sameContent : aS} {s_Nodes_alike : aS} {J : aJ} {K : aR} {n : Nat} {L : aL} {S : List Value} {M : aM} : am_run (c_Nodes_alike s_Nodes_isOf s_Nodes_kindOf s_Nodes_sameContent s_Nodes_alike) k_Nodes_alike J K (n + 1) 51 L S M = ai_aload 0 52 (am_run (c_Nodes_alike s_Nodes_isOf s_Nodes_kindOf s_Nodes_sameContent s_Nodes_alike) k_Nodes_alike J K n) K 51 L S M := by rfl
set_option maxRecDepth 20000 in
theorem r_Nodes_alike_52 {s_Nodes_isOf : aS} {s_Nodes_kindOf : aS} {s_Nodes_sameContent : aS} {s_Nodes_alike : aS} {J : aJ} {K : aR} {n : Nat} {L : aL} {S : List Value} {M : aM} : am_run (c_Nodes_alike s_Nodes_isOf s_Nodes_kindOf s_Nodes_sameContent s_Nodes_alike) k_Nodes_alike J K (n + 1) 52 L S M = ai_iload 5 54 (am_run (c_Nodes_alike s_Nodes_isOf s_Nodes_kindOf s_Nodes_sameContent s_Nodes_alike) k_Nodes_alike J K n) K 52 L S M := by rfl
set_option maxRecDepth 20000 in
theorem r_Nodes_alike_54 {s_Nodes_isOf : aS} {s_Nodes_kindOf : aS} {s_Nodes_sameContent : aS} {s_Nodes_alike : aS} {J : aJ} {K : aR} {n : Nat} {L : aL} {S : List Value} {M : aM} : am_run (c_Nodes_alike s_Nodes_isOf s_Nodes_kindOf s_Nodes_sameContent s_Nodes_alike) k_Nodes_alike J K (n + 1) 54 L S M = ai_callv2 0 s_Nodes_kindOf 57 (am_run (c_Nodes_alike s_Nodes_isOf s_Nodes_kindOf s_Nodes_sameContent s_Nodes_alike) k_Nodes_alike J K n) K 54 L S M := by rfl
set_option maxRecDepth 20000 in
theorem r_Nodes_alike_57 {s_Nodes_isOf : aS} {s_Nodes_kindOf : aS} {s_Nodes_sameContent : aS} {s_Nodes_alike : aS} {J : aJ} {K : aR} {n : Nat} {L : aL} {S : List Value} {M : aM} : am_run (c_Nodes_alike s_Nodes_isOf s_Nodes_kindOf s_Nodes_sameContent s_Nodes_alike) k_Nodes_alike J K (n + 1) 57 L S M = ai_cmpne 75 60 (am_run (c_Nodes_alike s_Nodes_isOf s_Nodes_kindOf s_Nodes_sameContent s_Nodes_alike) k_Nodes_alike J K n) K 57 L S M := by rfl
set_option maxRecDepth 20000 in
theorem r_Nodes_alike_60 {s_Nodes_isOf : aS} {s_Nodes_kindOf : aS} {s_Nodes_sameContent : aS} {s_Nodes_alike : aS} {J : aJ} {K : aR} {n : Nat} {L : aL} {S : List Value} {M : aM} : am_run (c_Nodes_alike s_Nodes_isOf s_Nodes_kindOf s_Nodes_sameContent s_Nodes_alike) k_Nodes_alike J K (n + 1) 60 L S M = ai_aload 0 61 (am_run (c_Nodes_alike s_Nodes_isOf s_Nodes_kindOf s_Nodes_sameContent s_Nodes_alike) k_Nodes_alike J K n) K 60 L S M := by rfl
set_option maxRecDepth 20000 in
theorem r_Nodes_alike_61 {s_Nodes_isOf : aS} {s_Nodes_kindOf : aS} {s_Nodes_sameContent : aS} {s_Nodes_alike : aS} {J : aJ} {K : aR} {n : Nat} {L : aL} {S : List Value} {M : aM} : am_run (c_Nodes_alike s_Nodes_isOf s_Nodes_kindOf s_Nodes_sameContent s_Nodes_alike) k_Nodes_alike J K (n + 1) 61 L S M = ai_iload 4 63 (am_run (c_Nodes_alike s_Nodes_isOf s_Nodes_kindOf s_Nodes_sameContent s_Nodes_alike) k_Nodes_alike J K n) K 61 L S M := by rfl
set_option maxRecDepth 20000 in
theorem r_Nodes_alike_63 {s_Nodes_isOf : aS} {s_Nodes_kindOf : aS} {s_Nodes_sameContent : aS} {s_Nodes_alike : aS} {J : aJ} {K : aR} {n : Nat} {L : aL} {S : List Value} {M : aM} : am_run (c_Nodes_alike s_Nodes_isOf s_Nodes_kindOf s_Nodes_sameContent s_Nodes_alike) k_Nodes_alike J K (n + 1) 63 L S M = ai_iload 5 65 (am_run (c_Nodes_alike s_Nodes_isOf s_Nodes_kindOf s_Nodes_sameContent s_Nodes_alike) k_Nodes_alike J K n) K 63 L S M := by rfl
set_option maxRecDepth 20000 in
theorem r_Nodes_alike_65 {s_Nodes_isOf : aS} {s_Nodes_kindOf : aS} {s_Nodes_sameContent : aS} {s_Nodes_alike : aS} {J : aJ} {K : aR} {n : Nat} {L : aL} {S : List Value} {M : aM} : am_run (c_Nodes_alike s_Nodes_isOf s_Nodes_kindOf s_Nodes_sameContent s_Nodes_alike) k_Nodes_alike J K (n + 1) 65 L S M = ai_callv3 0 s_Nodes_sameContent 68 (am_run (c_Nodes_alike s_Nodes_isOf s_Nodes_kindOf s_Nodes_sameContent s_Nodes_alike) k_Nodes_alike J K n) K 65 L S M := by rfl
set_option maxRecDepth 20000 in
theorem r_Nodes_alike_68 {s_Nodes_isOf : aS} {s_Nodes_kindOf : aS} {s_Nodes_sameContent : aS} {s_Nodes_alike : aS} {J : aJ} {K : aR} {n : Nat} {L : aL} {S : List Value} {M : aM} : am_run (c_Nodes_alike s_Nodes_isOf s_Nodes_kindOf s_Nodes_sameContent s_Nodes_alike) k_Nodes_alike J K (n + 1) 68 L S M = ai_ifeq 75 71 (am_run (c_Nodes_alike s_Nodes_isOf s_Nodes_kindOf s_Nodes_sameContent s_Nodes_alike) k_Nodes_alike J K n) K 68 L S M := by rfl
set_option maxRecDepth 20000 in
theorem r_Nodes_alike_71 {s_Nodes_isOf : aS} {s_Nodes_kindOf : aS} {s_Nodes_sameContent : aS} {s_Nodes_alike : aS} {J : aJ} {K : aR} {n : Nat} {L : aL} {S : List Value} {M : aM} : am_run (c_Nodes_alike s_Nodes_isOf s_Nodes_kindOf s_Nodes_sameContent s_Nodes_alike) k_Nodes_alike J K (n + 1) 71 L S M = ai_const 1 72 (am_run (c_Nodes_alike s_Nodes_isOf s_Nodes_kindOf s_Nodes_sameContent s_Nodes_alike) k_Nodes_alike J K n) K 71 L S M := by rfl
set_option maxRecDepth 20000 in
theorem r_Nodes_alike_72 {s_Nodes_isOf : aS} {s_Nodes_kindOf : aS} {s_Nodes_sameContent : aS} {s_Nodes_alike : aS} {J : aJ} {K : aR} {n : Nat} {L : aL} {S : List Value} {M : aM} : am_run (c_Nodes_alike s_Nodes_isOf s_Nodes_kindOf s_Nodes_sameContent s_Nodes_alike) k_Nodes_alike J K (n + 1) 72 L S M = ai_goto 76 (am_run (c_Nodes_alike s_Nodes_isOf s_Nodes_kindOf s_Nodes_sameContent s_Nodes_alike) k_Nodes_alike J K n) K 72 L S M := by rfl
set_option maxRecDepth 20000 in
theorem r_Nodes_alike_75 {s_Nodes_isOf : aS} {s_Nodes_kindOf : aS} {s_Nodes_sameContent : aS} {s_Nodes_alike : aS} {J : aJ} {K : aR} {n : Nat} {L : aL} {S : List Value} {M : aM} : am_run (c_Nodes_alike s_Nodes_isOf s_Nodes_kindOf s_Nodes_sameContent s_Nodes_alike) k_Nodes_alike J K (n + 1) 75 L S M = ai_const 0 76 (am_run (c_Nodes_alike s_Nodes_isOf s_Nodes_kindOf s_Nodes_sameContent s_Nodes_alike) k_Nodes_alike J K n) K 75 L S M := by rfl
set_option maxRecDepth 20000 in
theorem r_Nodes_alike_76 {s_Nodes_isOf : aS} {s_Nodes_kindOf : aS} {s_Nodes_sameContent : aS} {s_Nodes_alike : aS} {J : aJ} {K : aR} {n : Nat} {L : aL} {S : List Value} {M : aM} : am_run (c_Nodes_alike s_Nodes_isOf s_Nodes_kindOf s_Nodes_sameContent s_Nodes_alike) k_Nodes_alike J K (n + 1) 76 L S M = ai_zret (am_run (c_Nodes_alike s_Nodes_isOf s_Nodes_kindOf s_Nodes_sameContent s_Nodes_alike) k_Nodes_alike J K n) K 76 L S M := by rfl
set_option maxRecDepth 20000 in
theorem r_Nodes_alike_77 {s_Nodes_isOf : aS} {s_Nodes_kindOf : aS} {s_Nodes_sameContent : aS} {s_Nodes_alike : aS} {J : aJ} {K : aR} {n : Nat} {L : aL} {S : List Value} {M : aM} : am_run (c_Nodes_alike s_Nodes_isOf s_Nodes_kindOf s_Nodes_sameContent s_Nodes_alike) k_Nodes_alike J K (n + 1) 77 L S M = ai_aload 0 78 (am_run (c_Nodes_alike s_Nodes_isOf s_Nodes_kindOf s_Nodes_sameContent s_Nodes_alike) k_Nodes_alike J K n) K 77 L S M := by rfl
set_option maxRecDepth 20000 in
theorem r_Nodes_alike_78 {s_Nodes_isOf : aS} {s_Nodes_kindOf : aS} {s_Nodes_sameContent : aS} {s_Nodes_alike : aS} {J : aJ} {K : aR} {n : Nat} {L : aL} {S : List Value} {M : aM} : am_run (c_Nodes_alike s_Nodes_isOf s_Nodes_kindOf s_Nodes_sameContent s_Nodes_alike) k_Nodes_alike J K (n + 1) 78 L S M = ai_aload 0 79 (am_run (c_Nodes_alike s_Nodes_isOf s_Nodes_kindOf s_Nodes_sameContent s_Nodes_alike) k_Nodes_alike J K n) K 78 L S M := by rfl
set_option maxRecDepth 20000 in
theorem r_Nodes_alike_79 {s_Nodes_isOf : aS} {s_Nodes_kindOf : aS} {s_Nodes_sameContent : aS} {s_Nodes_alike : aS} {J : aJ} {K : aR} {n : Nat} {L : aL} {S : List Value} {M : aM} : am_run (c_Nodes_alike s_Nodes_isOf s_Nodes_kindOf s_Nodes_sameContent s_Nodes_alike) k_Nodes_alike J K (n + 1) 79 L S M = ai_getf 0 3 82 (am_run (c_Nodes_alike s_Nodes_isOf s_Nodes_kindOf s_Nodes_sameContent s_Nodes_alike) k_Nodes_alike J K n) K 79 L S M := by rfl
set_option maxRecDepth 20000 in
theorem r_Nodes_alike_82 {s_Nodes_isOf : aS} {s_Nodes_kindOf : aS} {s_Nodes_sameContent : aS} {s_Nodes_alike : aS} {J : aJ} {K : aR} {n : Nat} {L : aL} {S : List Value} {M : aM} : am_run (c_Nodes_alike s_Nodes_isOf s_Nodes_kindOf s_Nodes_sameContent s_Nodes_alike) k_Nodes_alike J K (n + 1) 82 L S M = ai_iload 4 84 (am_run (c_Nodes_alike s_Nodes_isOf s_Nodes_kindOf s_Nodes_sameContent s_Nodes_alike) k_Nodes_alike J K n) K 82 L S M := by rfl
set_option maxRecDepth 20000 in
theorem r_Nodes_alike_84 {s_Nodes_isOf : aS} {s_Nodes_kindOf : aS} {s_Nodes_sameContent : aS} {s_Nodes_alike : aS} {J : aJ} {K : aR} {n : Nat} {L : aL} {S : List Value} {M : aM} : am_run (c_Nodes_alike s_Nodes_isOf s_Nodes_kindOf s_Nodes_sameContent s_Nodes_alike) k_Nodes_alike J K (n + 1) 84 L S M = ai_iald 85 (am_run (c_Nodes_alike s_Nodes_isOf s_Nodes_kindOf s_Nodes_sameContent s_Nodes_alike) k_Nodes_alike J K n) K 84 L S M := by rfl
set_option maxRecDepth 20000 in
theorem r_Nodes_alike_85 {s_Nodes_isOf : aS} {s_Nodes_kindOf : aS} {s_Nodes_sameContent : aS} {s_Nodes_alike : aS} {J : aJ} {K : aR} {n : Nat} {L : aL} {S : List Value} {M : aM} : am_run (c_Nodes_alike s_Nodes_isOf s_Nodes_kindOf s_Nodes_sameContent s_Nodes_alike) k_Nodes_alike J K (n + 1) 85 L S M = ai_aload 0 86 (am_run (c_Nodes_alike s_Nodes_isOf s_Nodes_kindOf s_Nodes_sameContent s_Nodes_alike) k_Nodes_alike J K n) K 85 L S M := by rfl
set_option maxRecDepth 20000 in
theorem r_Nodes_alike_86 {s_Nodes_isOf : aS} {s_Nodes_kindOf : aS} {s_Nodes_sameContent : aS} {s_Nodes_alike : aS} {J : aJ} {K : aR} {n : Nat} {L : aL} {S : List Value} {M : aM} : am_run (c_Nodes_alike s_Nodes_isOf s_Nodes_kindOf s_Nodes_sameContent s_Nodes_alike) k_Nodes_alike J K (n + 1) 86 L S M = ai_getf 0 3 89 (am_run (c_Nodes_alike s_Nodes_isOf s_Nodes_kindOf s_Nodes_sameContent s_Nodes_alike) k_Nodes_alike J K n) K 86 L S M := by rfl
set_option maxRecDepth 20000 in
theorem r_Nodes_alike_89 {s_Nodes_isOf : aS} {s_Nodes_kindOf : aS} {s_Nodes_sameContent : aS} {s_Nodes_alike : aS} {J : aJ} {K : aR} {n : Nat} {L : aL} {S : List Value} {M : aM} : am_run (c_Nodes_alike s_Nodes_isOf s_Nodes_kindOf s_Nodes_sameContent s_Nodes_alike) k_Nodes_alike J K (n + 1) 89 L S M = ai_iload 5 91 (am_run (c_Nodes_alike s_Nodes_isOf s_Nodes_kindOf s_Nodes_sameContent s_Nodes_alike) k_Nodes_alike J K n) K 89 L S M := by rfl
set_option maxRecDepth 20000 in
theorem r_Nodes_alike_91 {s_Nodes_isOf : aS} {s_Nodes_kindOf : aS} {s_Nodes_sameContent : aS} {s_Nodes_alike : aS} {J : aJ} {K : aR} {n : Nat} {L : aL} {S : List Value} {M : aM} : am_run (c_Nodes_alike s_Nodes_isOf s_Nodes_kindOf s_Nodes_sameContent s_Nodes_alike) k_Nodes_alike J K (n + 1) 91 L S M = ai_iald 92 (am_run (c_Nodes_alike s_Nodes_isOf s_Nodes_kindOf s_Nodes_sameContent s_Nodes_alike) k_Nodes_alike J K n) K 91 L S M := by rfl
set_option maxRecDepth 20000 in
theorem r_Nodes_alike_92 {s_Nodes_isOf : aS} {s_Nodes_kindOf : aS} {s_Nodes_sameContent : aS} {s_Nodes_alike : aS} {J : aJ} {K : aR} {n : Nat} {L : aL} {S : List Value} {M : aM} : am_run (c_Nodes_alike s_Nodes_isOf s_Nodes_kindOf s_Nodes_sameContent s_Nodes_alike) k_Nodes_alike J K (n + 1) 92 L S M = ai_iload 3 93 (am_run (c_Nodes_alike s_Nodes_isOf s_Nodes_kindOf s_Nodes_sameContent s_Nodes_alike) k_Nodes_alike J K n) K 92 L S M := by rfl
set_option maxRecDepth 20000 in
theorem r_Nodes_alike_93 {s_Nodes_isOf : aS} {s_Nodes_kindOf : aS} {s_Nodes_sameContent : aS} {s_Nodes_alike : aS} {J : aJ} {K : aR} {n : Nat} {L : aL} {S : List Value} {M : aM} : am_run (c_Nodes_alike s_Nodes_isOf s_Nodes_kindOf s_Nodes_sameContent s_Nodes_alike) k_Nodes_alike J K (n + 1) 93 L S M = ai_const 1 94 (am_run (c_Nodes_alike s_Nodes_isOf s_Nodes_kindOf s_Nodes_sameContent s_Nodes_alike) k_Nodes_alike J K n) K 93 L S M := by rfl
set_option maxRecDepth 20000 in
theorem r_Nodes_alike_94 {s_Nodes_isOf : aS} {s_Nodes_kindOf : aS} {s_Nodes_sameContent : aS} {s_Nodes_alike : aS} {J : aJ} {K : aR} {n : Nat} {L : aL} {S : List Value} {M : aM} : am_run (c_Nodes_alike s_Nodes_isOf s_Nodes_kindOf s_Nodes_sameContent s_Nodes_alike) k_Nodes_alike J K (n + 1) 94 L S M = ai_iadd 95 (am_run (c_Nodes_alike s_Nodes_isOf s_Nodes_kindOf s_Nodes_sameContent s_Nodes_alike) k_Nodes_alike J K n) K 94 L S M := by rfl
set_option maxRecDepth 20000 in
theorem r_Nodes_alike_95 {s_Nodes_isOf : aS} {s_Nodes_kindOf : aS} {s_Nodes_sameContent : aS} {s_Nodes_alike : aS} {J : aJ} {K : aR} {n : Nat} {L : aL} {S : List Value} {M : aM} : am_run (c_Nodes_alike s_Nodes_isOf s_Nodes_kindOf s_Nodes_sameContent s_Nodes_alike) k_Nodes_alike J K (n + 1) 95 L S M = ai_callv4 0 s_Nodes_alike 98 (am_run (c_Nodes_alike s_Nodes_isOf s_Nodes_kindOf s_Nodes_sameContent s_Nodes_alike) k_Nodes_alike J K n) K 95 L S M := by rfl
set_option maxRecDepth 20000 in
theorem r_Nodes_alike_98 {s_Nodes_isOf : aS} {s_Nodes_kindOf : aS} {s_Nodes_sameContent : aS} {s_Nodes_alike : aS} {J : aJ} {K : aR} {n : Nat} {L : aL} {S : List Value} {M : aM} : am_run (c_Nodes_alike s_Nodes_isOf s_Nodes_kindOf s_Nodes_sameContent s_Nodes_alike) k_Nodes_alike J K (n + 1) 98 L S M = ai_ifne 103 101 (am_run (c_Nodes_alike s_Nodes_isOf s_Nodes_kindOf s_Nodes_sameContent s_Nodes_alike) k_Nodes_alike J K n) K 98 L S M := by rfl
set_option maxRecDepth 20000 in
theorem r_Nodes_alike_101 {s_Nodes_isOf : aS} {s_Nodes_kindOf : aS} {s_Nodes_sameContent : aS} {s_Nodes_alike : aS} {J : aJ} {K : aR} {n : Nat} {L : aL} {S : List Value} {M : aM} : am_run (c_Nodes_alike s_Nodes_isOf s_Nodes_kindOf s_Nodes_sameContent s_Nodes_alike) k_Nodes_alike J K (n + 1) 101 L S M = ai_const 0 102 (am_run (c_Nodes_alike s_Nodes_isOf s_Nodes_kindOf s_Nodes_sameContent s_Nodes_alike) k_Nodes_alike J K n) K 101 L S M := by rfl
set_option maxRecDepth 20000 in
theorem r_Nodes_alike_102 {s_Nodes_isOf : aS} {s_Nodes_kindOf : aS} {s_Nodes_sameContent : aS} {s_Nodes_alike : aS} {J : aJ} {K : aR} {n : Nat} {L : aL} {S : List Value} {M : aM} : am_run (c_Nodes_alike s_Nodes_isOf s_Nodes_kindOf s_Nodes_sameContent s_Nodes_alike) k_Nodes_alike J K (n + 1) 102 L S M = ai_zret (am_run (c_Nodes_alike s_Nodes_isOf s_Nodes_kindOf s_Nodes_sameContent s_Nodes_alike) k_Nodes_alike J K n) K 102 L S M := by rfl
set_option maxRecDepth 20000 in
theorem r_Nodes_alike_103 {s_Nodes_isOf : aS} {s_Nodes_kindOf : aS} {s_Nodes_sameContent : aS} {s_Nodes_alike : aS} {J : aJ} {K : aR} {n : Nat} {L : aL} {S : List Value} {M : aM} : am_run (c_Nodes_alike s_Nodes_isOf s_Nodes_kindOf s_Nodes_sameContent s_Nodes_alike) k_Nodes_alike J K (n + 1) 103 L S M = ai_aload 0 104 (am_run (c_Nodes_alike s_Nodes_isOf s_Nodes_kindOf s_Nodes_sameContent s_Nodes_alike) k_Nodes_alike J K n) K 103 L S M := by rfl
set_option maxRecDepth 20000 in
theorem r_Nodes_alike_104 {s_Nodes_isOf : aS} {s_Nodes_kindOf : aS} {s_Nodes_sameContent : aS} {s_Nodes_alike : aS} {J : aJ} {K : aR} {n : Nat} {L : aL} {S : List Value} {M : aM} : am_run (c_Nodes_alike s_Nodes_isOf s_Nodes_kindOf s_Nodes_sameContent s_Nodes_alike) k_Nodes_alike J K (n + 1) 104 L S M = ai_getf 0 4 107 (am_run (c_Nodes_alike s_Nodes_isOf s_Nodes_kindOf s_Nodes_sameContent s_Nodes_alike) k_Nodes_alike J K n) K 104 L S M := by rfl
set_option maxRecDepth 20000 in
theorem r_Nodes_alike_107 {s_Nodes_isOf : aS} {s_Nodes_kindOf : aS} {s_Nodes_sameContent : aS} {s_Nodes_alike : aS} {J : aJ} {K : aR} {n : Nat} {L : aL} {S : List Value} {M : aM} : am_run (c_Nodes_alike s_Nodes_isOf s_Nodes_kindOf s_Nodes_sameContent s_Nodes_alike) k_Nodes_alike J K (n + 1) 107 L S M = ai_iload 4 109 (am_run (c_Nodes_alike s_Nodes_isOf s_Nodes_kindOf s_Nodes_sameContent s_Nodes_alike) k_Nodes_alike J K n) K 107 L S M := by rfl
set_option maxRecDepth 20000 in
theorem r_Nodes_alike_109 {s_Nodes_isOf : aS} {s_Nodes_kindOf : aS} {s_Nodes_sameContent : aS} {s_Nodes_alike : aS} {J : aJ} {K : aR} {n : Nat} {L : aL} {S : List Value} {M : aM} : am_run (c_Nodes_alike s_Nodes_isOf s_Nodes_kindOf s_Nodes_sameContent s_Nodes_alike) k_Nodes_alike J K (n + 1) 109 L S M = ai_iald 110 (am_run (c_Nodes_alike s_Nodes_isOf s_Nodes_kindOf s_Nodes_sameContent s_Nodes_alike) k_Nodes_alike J K n) K 109 L S M := by rfl
set_option maxRecDepth 20000 in
theorem r_Nodes_alike_110 {s_Nodes_isOf : aS} {s_Nodes_kindOf : aS} {s_Nodes_sameContent : aS} {s_Nodes_alike : aS} {J : aJ} {K : aR} {n : Nat} {L : aL} {S : List Value} {M : aM} : am_run (c_Nodes_alike s_Nodes_isOf s_Nodes_kindOf s_Nodes_sameContent s_Nodes_alike) k_Nodes_alike J K (n + 1) 110 L S M = ai_istore 4 112 (am_run (c_Nodes_alike s_Nodes_isOf s_Nodes_kindOf s_Nodes_sameContent s_Nodes_alike) k_Nodes_alike J K n) K 110 L S M := by rfl
set_option maxRecDepth 20000 in
theorem r_Nodes_alike_112 {s_Nodes_isOf : aS} {s_Nodes_kindOf : aS} {s_Nodes_sameContent : aS} {s_Nodes_alike : aS} {J : aJ} {K : aR} {n : Nat} {L : aL} {S : List Value} {M : aM} : am_run (c_Nodes_alike s_Nodes_isOf s_Nodes_kindOf s_Nodes_sameContent s_Nodes_alike) k_Nodes_alike J K (n + 1) 112 L S M = ai_aload 0 113 (am_run (c_Nodes_alike s_Nodes_isOf s_Nodes_kindOf s_Nodes_sameContent s_Nodes_alike) k_Nodes_alike J K n) K 112 L S M := by rfl
set_option maxRecDepth 20000 in
theorem r_Nodes_alike_113 {s_Nodes_isOf : aS} {s_Nodes_kindOf : aS} {s_Nodes_sameContent : aS} {s_Nodes_alike : aS} {J : aJ} {K : aR} {n : Nat} {L : aL} {S : List Value} {M : aM} : am_run (c_Nodes_alike s_Nodes_isOf s_Nodes_kindOf s_Nodes_sameContent s_Nodes_alike) k_Nodes_alike J K (n + 1) 113 L S M = ai_getf 0 4 116 (am_run (c_Nodes_alike s_Nodes_isOf s_Nodes_kindOf s_Nodes_sameContent s_Nodes_alike) k_Nodes_alike J K n) K 113 L S M := by rfl
set_option maxRecDepth 20000 in
theorem r_Nodes_alike_116 {s_Nodes_isOf : aS} {s_Nodes_kindOf : aS} {s_Nodes_sameContent : aS} {s_Nodes_alike : aS} {J : aJ} {K : aR} {n : Nat} {L : aL} {S : List Value} {M : aM} : am_run (c_Nodes_alike s_Nodes_isOf s_Nodes_kindOf s_Nodes_sameContent s_Nodes_alike) k_Nodes_alike J K (n + 1) 116 L S M = ai_iload 5 118 (am_run (c_Nodes_alike s_Nodes_isOf s_Nodes_kindOf s_Nodes_sameContent s_Nodes_alike) k_Nodes_alike J K n) K 116 L S M := by rfl
set_option maxRecDepth 20000 in
theorem r_Nodes_alike_118 {s_Nodes_isOf : aS} {s_Nodes_kindOf : aS} {s_Nodes_sameContent : aS} {s_Nodes_alike : aS} {J : aJ} {K : aR} {n : Nat} {L : aL} {S : List Value} {M : aM} : am_run (c_Nodes_alike s_Nodes_isOf s_Nodes_kindOf s_Nodes_sameContent s_Nodes_alike) k_Nodes_alike J K (n + 1) 118 L S M = ai_iald 119 (am_run (c_Nodes_alike s_Nodes_isOf s_Nodes_kindOf s_Nodes_sameContent s_Nodes_alike) k_Nodes_alike J K n) K 118 L S M := by rfl
set_option maxRecDepth 20000 in
theorem r_Nodes_alike_119 {s_Nodes_isOf : aS} {s_Nodes_kindOf : aS} {s_Nodes_sameContent : aS} {s_Nodes_alike : aS} {J : aJ} {K : aR} {n : Nat} {L : aL} {S : List Value} {M : aM} : am_run (c_Nodes_alike s_Nodes_isOf s_Nodes_kindOf s_Nodes_sameContent s_Nodes_alike) k_Nodes_alike J K (n + 1) 119 L S M = ai_istore 5 121 (am_run (c_Nodes_alike s_Nodes_isOf s_Nodes_kindOf s_Nodes_sameContent s_Nodes_alike) k_Nodes_alike J K n) K 119 L S M := by rfl
set_option maxRecDepth 20000 in
theorem r_Nodes_alike_121 {s_Nodes_isOf : aS} {s_Nodes_kindOf : aS} {s_Nodes_sameContent : aS} {s_Nodes_alike : aS} {J : aJ} {K : aR} {n : Nat} {L : aL} {S : List Value} {M : aM} : am_run (c_Nodes_alike s_Nodes_isOf s_Nodes_kindOf s_Nodes_sameContent s_Nodes_alike) k_Nodes_alike J K (n + 1) 121 L S M = ai_iinc 6 1 124 (am_run (c_Nodes_alike s_Nodes_isOf s_Nodes_kindOf s_Nodes_sameContent s_Nodes_alike) k_Nodes_alike J K n) K 121 L S M := by rfl
set_option maxRecDepth 20000 in
theorem r_Nodes_alike_124 {s_Nodes_isOf : aS} {s_Nodes_kindOf : aS} {s_Nodes_sameContent : aS} {s_Nodes_alike : aS} {J : aJ} {K : aR} {n : Nat} {L : aL} {S : List Value} {M : aM} : am_run (c_Nodes_alike s_Nodes_isOf s_Nodes_kindOf s_Nodes_sameContent s_Nodes_alike) k_Nodes_alike J K (n + 1) 124 L S M = ai_goto 17 (am_run (c_Nodes_alike s_Nodes_isOf s_Nodes_kindOf s_Nodes_sameContent s_Nodes_alike) k_Nodes_alike J K n) K 124 L S M := by rfl
set_option maxRecDepth 20000 in
theorem r_Nodes_alike_127 {s_Nodes_isOf : aS} {s_Nodes_kindOf : aS} {s_Nodes_sameContent : aS} {s_Nodes_alike : aS} {J : aJ} {K : aR} {n : Nat} {L : aL} {S : List Value} {M : aM} : am_run (c_Nodes_alike s_Nodes_isOf s_Nodes_kindOf s_Nodes_sameContent s_Nodes_alike) k_Nodes_alike J K (n + 1) 127 L S M = ai_const 0 128 (am_run (c_Nodes_alike s_Nodes_isOf s_Nodes_kindOf s_Nodes_sameContent s_Nodes_alike) k_Nodes_alike J K n) K 127 L S M := by rfl
set_option maxRecDepth 20000 in
theorem r_Nodes_alike_128 {s_Nodes_isOf : aS} {s_Nodes_kindOf : aS} {s_Nodes_sameContent : aS} {s_Nodes_alike : aS} {J : aJ} {K : aR} {n : Nat} {L : aL} {S : List Value} {M : aM} : am_run (c_Nodes_alike s_Nodes_isOf s_Nodes_kindOf s_Nodes_sameContent s_Nodes_alike) k_Nodes_alike J K (n + 1) 128 L S M = ai_zret (am_run (c_Nodes_alike s_Nodes_isOf s_Nodes_kindOf s_Nodes_sameContent s_Nodes_alike) k_Nodes_alike J K n) K 128 L S M := by rfl
def c_Nodes_sameContent (s_Nodes_amountOf : aS) (s_Nodes_isOf : aS) (s_Nodes_byteOf : aS) : List (Nat × aI) := [
  (0, ai_aload 0 1),
  (1, ai_iload 1 2),
  (2, ai_callv2 0 s_Nodes_amountOf 5),
  (5, ai_istore 3 6),
  (6, ai_iload 3 7),
  (7, ai_aload 0 8),
  (8, ai_iload 2 9),
  (9, ai_callv2 0 s_Nodes_amountOf 12),
  (12, ai_cmpeq 17 15),
  (15, ai_const 0 16),
  (16, ai_zret),
  (17, ai_aload 0 18),
  (18, ai_iload 1 19),
  (19, ai_const 1 20),
  (20, ai_callv3 0 s_Nodes_isOf 23),
  (23, ai_ifeq 28 26),
  (26, ai_const 1 27),
  (27, ai_zret),
  (28, ai_const 0 29),
  (29, ai_istore 4 31),
  (31, ai_iload 4 33),
  (33, ai_iload 3 34),
  (34, ai_cmpge 62 37),
  (37, ai_aload 0 38),
  (38, ai_iload 1 39),
  (39, ai_iload 4 41),
  (41, ai_callv3 0 s_Nodes_byteOf 44),
  (44, ai_aload 0 45),
  (45, ai_iload 2 46),
  (46, ai_iload 4 48),
  (48, ai_callv3 0 s_Nodes_byteOf 51),
  (51, ai_cmpeq 56 54),
  (54, ai_const 0 55),
  (55, ai_zret),
  (56, ai_iinc 4 1 59),
  (59, ai_goto 31),
  (62, ai_const 1 63),
  (63, ai_zret)]
set_option maxRecDepth 100000 in
set_option maxHeartbeats 4000000 in
theorem tb_Nodes_sameContent {G : aG} {d : Nat} {s_Nodes_amountOf : aS} {d_Nodes_amountOf : Nat} (h_Nodes_amountOf : am_Sp G Y_Nodes_amountOf d_Nodes_amountOf s_Nodes_amountOf) (l_Nodes_amountOf : d_Nodes_amountOf < d) {s_Nodes_isOf : aS} {d_Nodes_isOf : Nat} (h_Nodes_isOf : am_Sp G Y_Nodes_isOf d_Nodes_isOf s_Nodes_isOf) (l_Nodes_isOf : d_Nodes_isOf < d) {s_Nodes_byteOf : aS} {d_Nodes_byteOf : Nat} (h_Nodes_byteOf : am_Sp G Y_Nodes_byteOf d_Nodes_byteOf s_Nodes_byteOf) (l_Nodes_byteOf : d_Nodes_byteOf < d) : am_tab G Y_Nodes_sameContent d (c_Nodes_sameContent s_Nodes_amountOf s_Nodes_isOf s_Nodes_byteOf) := by
  intro K p e s m args below meth c C
  exact ⟨as_aload_n C (pc := 0) (q := 0) (by decide +kernel) rfl rfl,
    as_iload_n C (pc := 1) (q := 1) (by decide +kernel) rfl rfl,
    as_callv2 C (pc := 2) h_Nodes_amountOf (T := T_Nodes) (N := 10) rfl w_409 w_72 w_408 w_34 w_448 hy_Nodes_amountOf (am_rm_of l_Nodes_amountOf (by decide)) (by decide +kernel) rfl,
    as_istore_n C (pc := 5) (q := 3) (by decide +kernel) rfl (by decide) rfl,
    as_iload_n C (pc := 6) (q := 3) (by decide +kernel) rfl rfl,
    as_aload_n C (pc := 7) (q := 0) (by decide +kernel) rfl rfl,
    as_iload_n C (pc := 8) (q := 2) (by decide +kernel) rfl rfl,
    as_callv2 C (pc := 9) h_Nodes_amountOf (T := T_Nodes) (N := 10) rfl w_409 w_72 w_408 w_34 w_448 hy_Nodes_amountOf (am_rm_of l_Nodes_amountOf (by decide)) (by decide +kernel) rfl,
    as_cmpeq C (pc := 12) (off := 5) (by decide +kernel) (by decide) rfl,
    as_iconst C (pc := 15) (n := 0) (by decide +kernel) (by decide +kernel) rfl,
    as_zret C (pc := 16) rfl (by decide +kernel),
    as_aload_n C (pc := 17) (q := 0) (by decide +kernel) rfl rfl,
    as_iload_n C (pc := 18) (q := 1) (by decide +kernel) rfl rfl,
    as_iconst C (pc := 19) (n := 1) (by decide +kernel) (by decide +kernel) rfl,
    as_callv3 C (pc := 20) h_Nodes_isOf (T := T_Nodes) (N := 10) rfl w_421 w_72 w_420 w_36 w_418 hy_Nodes_isOf (am_rm_of l_Nodes_isOf (by decide)) (by decide +kernel) rfl,
    as_ifeq C (pc := 23) (off := 5) (by decide +kernel) (by decide) rfl,
    as_iconst C (pc := 26) (n := 1) (by decide +kernel) (by decide +kernel) rfl,
    as_zret C (pc := 27) rfl (by decide +kernel),
    as_iconst C (pc := 28) (n := 0) (by decide +kernel) (by decide +kernel) rfl,
    as_istore C (pc := 29) (k := 4) (by decide +kernel) (by decide) rfl,
    as_iload C (pc := 31) (k := 4) (by decide +kernel) rfl,
    as_iload_n C (pc := 33) (q := 3) (by decide +kernel) rfl rfl,
    as_cmpge C (pc := 34) (off := 28) (by decide +kernel) (by decide) rfl,
    as_aload_n C (pc := 37) (q := 0) (by decide +kernel) rfl rfl,
    as_iload_n C (pc := 38) (q := 1) (by decide +kernel) rfl rfl,
    as_iload C (pc := 39) (k := 4) (by decide +kernel) rfl,
    as_callv3 C (pc := 41) h_Nodes_byteOf (T := T_Nodes) (N := 10) rfl w_417 w_72 w_416 w_35 w_449 hy_Nodes_byteOf (am_rm_of l_Nodes_byteOf (by decide)) (by decide +kernel) rfl,
    as_aload_n C (pc := 44) (q := 0) (by decide +kernel) rfl rfl,
    as_iload_n C (pc := 45) (q := 2) (by decide +kernel) rfl rfl,
    as_iload C (pc := 46) (k := 4) (by decide +kernel) rfl,
    as_callv3 C (pc := 48) h_Nodes_byteOf (T := T_Nodes) (N := 10) rfl w_417 w_72 w_416 w_35 w_449 hy_Nodes_byteOf (am_rm_of l_Nodes_byteOf (by decide)) (by decide +kernel) rfl,
    as_cmpeq C (pc := 51) (off := 5) (by decide +kernel) (by decide) rfl,
    as_iconst C (pc := 54) (n := 0) (by decide +kernel) (by decide +kernel) rfl,
    as_zret C (pc := 55) rfl (by decide +kernel),
    as_iinc C (pc := 56) (k := 4) (n := 1) (by decide +kernel) (by decide +kernel) (by decide) rfl,
    as_goto C (pc := 59) (off := (-28)) (by decide +kernel) (by decide),
    as_iconst C (pc := 62) (n := 1) (by decide +kernel) (by decide +kernel) rfl,
    as_zret C (pc := 63) rfl (by decide +kernel), trivial⟩
abbrev k_Nodes_sameContent : List Nat := [31]
theorem q_Nodes_sameContent_31 {s_Nodes_amountOf : aS} {s_Nodes_isOf : aS} {s_Nodes_byteOf : aS} : am_at (c_Nodes_sameContent s_Nodes_amountOf s_Nodes_isOf s_Nodes_byteOf) 31 = ai_iload 4 33 := by rfl
theorem r_Nodes_sameContent_0 {s_Nodes_amountOf : aS} {s_Nodes_isOf : aS} {s_Nodes_byteOf : aS} {J : aJ} {K : aR} {n : Nat} {L : aL} {S : List Value} {M : aM} : am_run (c_Nodes_sameContent s_Nodes_amountOf s_Nodes_isOf s_Nodes_byteOf) k_Nodes_sameContent J K (n + 1) 0 L S M = ai_aload 0 1 (am_run (c_Nodes_sameContent s_Nodes_amountOf s_Nodes_isOf s_Nodes_byteOf) k_Nodes_sameContent J K n) K 0 L S M := by rfl
theorem r_Nodes_sameContent_1 {s_Nodes_amountOf : aS} {s_Nodes_isOf : aS} {s_Nodes_byteOf : aS} {J : aJ} {K : aR} {n : Nat} {L : aL} {S : List Value} {M : aM} : am_run (c_Nodes_sameContent s_Nodes_amountOf s_Nodes_isOf s_Nodes_byteOf) k_Nodes_sameContent J K (n + 1) 1 L S M = ai_iload 1 2 (am_run (c_Nodes_sameContent s_Nodes_amountOf s_Nodes_isOf s_Nodes_byteOf) k_Nodes_sameContent J K n) K 1 L S M := by rfl
theorem r_Nodes_sameContent_2 {s_Nodes_amountOf : aS} {s_Nodes_isOf : aS} {s_Nodes_byteOf : aS} {J : aJ} {K : aR} {n : Nat} {L : aL} {S : List Value} {M : aM} : am_run (c_Nodes_sameContent s_Nodes_amountOf s_Nodes_isOf s_Nodes_byteOf) k_Nodes_sameContent J K (n + 1) 2 L S M = ai_callv2 0 s_Nodes_amountOf 5 (am_run (c_Nodes_sameContent s_Nodes_amountOf s_Nodes_isOf s_Nodes_byteOf) k_Nodes_sameContent J K n) K 2 L S M := by rfl
theorem r_Nodes_sameContent_5 {s_Nodes_amountOf : aS} {s_Nodes_isOf : aS} {s_Nodes_byteOf : aS} {J : aJ} {K : aR} {n : Nat} {L : aL} {S : List Value} {M : aM} : am_run (c_Nodes_sameContent s_Nodes_amountOf s_Nodes_isOf s_Nodes_byteOf) k_Nodes_sameContent J K (n + 1) 5 L S M = ai_istore 3 6 (am_run (c_Nodes_sameContent s_Nodes_amountOf s_Nodes_isOf s_Nodes_byteOf) k_Nodes_sameContent J K n) K 5 L S M := by rfl
theorem r_Nodes_sameContent_6 {s_Nodes_amountOf : aS} {s_Nodes_isOf : aS} {s_Nodes_byteOf : aS} {J : aJ} {K : aR} {n : Nat} {L : aL} {S : List Value} {M : aM} : am_run (c_Nodes_sameContent s_Nodes_amountOf s_Nodes_isOf s_Nodes_byteOf) k_Nodes_sameContent J K (n + 1) 6 L S M = ai_iload 3 7 (am_run (c_Nodes_sameContent s_Nodes_amountOf s_Nodes_isOf s_Nodes_byteOf) k_Nodes_sameContent J K n) K 6 L S M := by rfl
theorem r_Nodes_sameContent_7 {s_Nodes_amountOf : aS} {s_Nodes_isOf : aS} {s_Nodes_byteOf : aS} {J : aJ} {K : aR} {n : Nat} {L : aL} {S : List Value} {M : aM} : am_run (c_Nodes_sameContent s_Nodes_amountOf s_Nodes_isOf s_Nodes_byteOf) k_Nodes_sameContent J K (n + 1) 7 L S M = ai_aload 0 8 (am_run (c_Nodes_sameContent s_Nodes_amountOf s_Nodes_isOf s_Nodes_byteOf) k_Nodes_sameContent J K n) K 7 L S M := by rfl
theorem r_Nodes_sameContent_8 {s_Nodes_amountOf : aS} {s_Nodes_isOf : aS} {s_Nodes_byteOf : aS} {J : aJ} {K : aR} {n : Nat} {L : aL} {S : List Value} {M : aM} : am_run (c_Nodes_sameContent s_Nodes_amountOf s_Nodes_isOf s_Nodes_byteOf) k_Nodes_sameContent J K (n + 1) 8 L S M = ai_iload 2 9 (am_run (c_Nodes_sameContent s_Nodes_amountOf s_Nodes_isOf s_Nodes_byteOf) k_Nodes_sameContent J K n) K 8 L S M := by rfl
theorem r_Nodes_sameContent_9 {s_Nodes_amountOf : aS} {s_Nodes_isOf : aS} {s_Nodes_byteOf : aS} {J : aJ} {K : aR} {n : Nat} {L : aL} {S : List Value} {M : aM} : am_run (c_Nodes_sameContent s_Nodes_amountOf s_Nodes_isOf s_Nodes_byteOf) k_Nodes_sameContent J K (n + 1) 9 L S M = ai_callv2 0 s_Nodes_amountOf 12 (am_run (c_Nodes_sameContent s_Nodes_amountOf s_Nodes_isOf s_Nodes_byteOf) k_Nodes_sameContent J K n) K 9 L S M := by rfl
theorem r_Nodes_sameContent_12 {s_Nodes_amountOf : aS} {s_Nodes_isOf : aS} {s_Nodes_byteOf : aS} {J : aJ} {K : aR} {n : Nat} {L : aL} {S : List Value} {M : aM} : am_run (c_Nodes_sameContent s_Nodes_amountOf s_Nodes_isOf s_Nodes_byteOf) k_Nodes_sameContent J K (n + 1) 12 L S M = ai_cmpeq 17 15 (am_run (c_Nodes_sameContent s_Nodes_amountOf s_Nodes_isOf s_Nodes_byteOf) k_Nodes_sameContent J K n) K 12 L S M := by rfl
theorem r_Nodes_sameContent_15 {s_Nodes_amountOf : aS} {s_Nodes_isOf : aS} {s_Nodes_byteOf : aS} {J : aJ} {K : aR} {n : Nat} {L : aL} {S : List Value} {M : aM} : am_run (c_Nodes_sameContent s_Nodes_amountOf s_Nodes_isOf s_Nodes_byteOf) k_Nodes_sameContent J K (n + 1) 15 L S M = ai_const 0 16 (am_run (c_Nodes_sameContent s_Nodes_amountOf s_Nodes_isOf s_Nodes_byteOf) k_Nodes_sameContent J K n) K 15 L S M := by rfl
theorem r_Nodes_sameContent_16 {s_Nodes_amountOf : aS} {s_Nodes_isOf : aS} {s_Nodes_byteOf : aS} {J : aJ} {K : aR} {n : Nat} {L : aL} {S : List Value} {M : aM} : am_run (c_Nodes_sameContent s_Nodes_amountOf s_Nodes_isOf s_Nodes_byteOf) k_Nodes_sameContent J K (n + 1) 16 L S M = ai_zret (am_run (c_Nodes_sameContent s_Nodes_amountOf s_Nodes_isOf s_Nodes_byteOf) k_Nodes_sameContent J K n) K 16 L S M := by rfl
theorem r_Nodes_sameContent_17 {s_Nodes_amountOf : aS} {s_Nodes_isOf : aS} {s_Nodes_byteOf : aS} {J : aJ} {K : aR} {n : Nat} {L : aL} {S : List Value} {M : aM} : am_run (c_Nodes_sameContent s_Nodes_amountOf s_Nodes_isOf s_Nodes_byteOf) k_Nodes_sameContent J K (n + 1) 17 L S M = ai_aload 0 18 (am_run (c_Nodes_sameContent s_Nodes_amountOf s_Nodes_isOf s_Nodes_byteOf) k_Nodes_sameContent J K n) K 17 L S M := by rfl
theorem r_Nodes_sameContent_18 {s_Nodes_amountOf : aS} {s_Nodes_isOf : aS} {s_Nodes_byteOf : aS} {J : aJ} {K : aR} {n : Nat} {L : aL} {S : List Value} {M : aM} : am_run (c_Nodes_sameContent s_Nodes_amountOf s_Nodes_isOf s_Nodes_byteOf) k_Nodes_sameContent J K (n + 1) 18 L S M = ai_iload 1 19 (am_run (c_Nodes_sameContent s_Nodes_amountOf s_Nodes_isOf s_Nodes_byteOf) k_Nodes_sameContent J K n) K 18 L S M := by rfl
theorem r_Nodes_sameContent_19 {s_Nodes_amountOf : aS} {s_Nodes_isOf : aS} {s_Nodes_byteOf : aS} {J : aJ} {K : aR} {n : Nat} {L : aL} {S : List Value} {M : aM} : am_run (c_Nodes_sameContent s_Nodes_amountOf s_Nodes_isOf s_Nodes_byteOf) k_Nodes_sameContent J K (n + 1) 19 L S M = ai_const 1 20 (am_run (c_Nodes_sameContent s_Nodes_amountOf s_Nodes_isOf s_Nodes_byteOf) k_Nodes_sameContent J K n) K 19 L S M := by rfl
theorem r_Nodes_sameContent_20 {s_Nodes_amountOf : aS} {s_Nodes_isOf : aS} {s_Nodes_byteOf : aS} {J : aJ} {K : aR} {n : Nat} {L : aL} {S : List Value} {M : aM} : am_run (c_Nodes_sameContent s_Nodes_amountOf s_Nodes_isOf s_Nodes_byteOf) k_Nodes_sameContent J K (n + 1) 20 L S M = ai_callv3 0 s_Nodes_isOf 23 (am_run (c_Nodes_sameContent s_Nodes_amountOf s_Nodes_isOf s_Nodes_byteOf) k_Nodes_sameContent J K n) K 20 L S M := by rfl
theorem r_Nodes_sameContent_23 {s_Nodes_amountOf : aS} {s_Nodes_isOf : aS} {s_Nodes_byteOf : aS} {J : aJ} {K : aR} {n : Nat} {L : aL} {S : List Value} {M : aM} : am_run (c_Nodes_sameContent s_Nodes_amountOf s_Nodes_isOf s_Nodes_byteOf) k_Nodes_sameContent J K (n + 1) 23 L S M = ai_ifeq 28 26 (am_run (c_Nodes_sameContent s_Nodes_amountOf s_Nodes_isOf s_Nodes_byteOf) k_Nodes_sameContent J K n) K 23 L S M := by rfl
theorem r_Nodes_sameContent_26 {s_Nodes_amountOf : aS} {s_Nodes_isOf : aS} {s_Nodes_byteOf : aS} {J : aJ} {K : aR} {n : Nat} {L : aL} {S : List Value} {M : aM} : am_run (c_Nodes_sameContent s_Nodes_amountOf s_Nodes_isOf s_Nodes_byteOf) k_Nodes_sameContent J K (n + 1) 26 L S M = ai_const 1 27 (am_run (c_Nodes_sameContent s_Nodes_amountOf s_Nodes_isOf s_Nodes_byteOf) k_Nodes_sameContent J K n) K 26 L S M := by rfl
theorem r_Nodes_sameContent_27 {s_Nodes_amountOf : aS} {s_Nodes_isOf : aS} {s_Nodes_byteOf : aS} {J : aJ} {K : aR} {n : Nat} {L : aL} {S : List Value} {M : aM} : am_run (c_Nodes_sameContent s_Nodes_amountOf s_Nodes_isOf s_Nodes_byteOf) k_Nodes_sameContent J K (n + 1) 27 L S M = ai_zret (am_run (c_Nodes_sameContent s_Nodes_amountOf s_Nodes_isOf s_Nodes_byteOf) k_Nodes_sameContent J K n) K 27 L S M := by rfl
theorem r_Nodes_sameContent_28 {s_Nodes_amountOf : aS} {s_Nodes_isOf : aS} {s_Nodes_byteOf : aS} {J : aJ} {K : aR} {n : Nat} {L : aL} {S : List Value} {M : aM} : am_run (c_Nodes_sameContent s_Nodes_amountOf s_Nodes_isOf s_Nodes_byteOf) k_Nodes_sameContent J K (n + 1) 28 L S M = ai_const 0 29 (am_run (c_Nodes_sameContent s_Nodes_amountOf s_Nodes_isOf s_Nodes_byteOf) k_Nodes_sameContent J K n) K 28 L S M := by rfl
theorem r_Nodes_sameContent_29 {s_Nodes_amountOf : aS} {s_Nodes_isOf : aS} {s_Nodes_byteOf : aS} {J : aJ} {K : aR} {n : Nat} {L : aL} {S : List Value} {M : aM} : am_run (c_Nodes_sameContent s_Nodes_amountOf s_Nodes_isOf s_Nodes_byteOf) k_Nodes_sameContent J K (n + 1) 29 L S M = ai_istore 4 31 (am_run (c_Nodes_sameContent s_Nodes_amountOf s_Nodes_isOf s_Nodes_byteOf) k_Nodes_sameContent J K n) K 29 L S M := by rfl
theorem r_Nodes_sameContent_31 {s_Nodes_amountOf : aS} {s_Nodes_isOf : aS} {s_Nodes_byteOf : aS} {J : aJ} {K : aR} {n : Nat} {L : aL} {S : List Value} {M : aM} : am_run (c_Nodes_sameContent s_Nodes_amountOf s_Nodes_isOf s_Nodes_byteOf) k_Nodes_sameContent J K (n + 1) 31 L S M = J 31 L S M := by rfl
theorem r_Nodes_sameContent_33 {s_Nodes_amountOf : aS} {s_Nodes_isOf : aS} {s_Nodes_byteOf : aS} {J : aJ} {K : aR} {n : Nat} {L : aL} {S : List Value} {M : aM} : am_run (c_Nodes_sameContent s_Nodes_amountOf s_Nodes_isOf s_Nodes_byteOf) k_Nodes_sameContent J K (n + 1) 33 L S M = ai_iload 3 34 (am_run (c_Nodes_sameContent s_Nodes_amountOf s_Nodes_isOf s_Nodes_byteOf) k_Nodes_sameContent J K n) K 33 L S M := by rfl
theorem r_Nodes_sameContent_34 {s_Nodes_amountOf : aS} {s_Nodes_isOf : aS} {s_Nodes_byteOf : aS} {J : aJ} {K : aR} {n : Nat} {L : aL} {S : List Value} {M : aM} : am_run (c_Nodes_sameContent s_Nodes_amountOf s_Nodes_isOf s_Nodes_byteOf) k_Nodes_sameContent J K (n + 1) 34 L S M = ai_cmpge 62 37 (am_run (c_Nodes_sameContent s_Nodes_amountOf s_Nodes_isOf s_Nodes_byteOf) k_Nodes_sameContent J K n) K 34 L S M := by rfl
theorem r_Nodes_sameContent_37 {s_Nodes_amountOf : aS} {s_Nodes_isOf : aS} {s_Nodes_byteOf : aS} {J : aJ} {K : aR} {n : Nat} {L : aL} {S : List Value} {M : aM} : am_run (c_Nodes_sameContent s_Nodes_amountOf s_Nodes_isOf s_Nodes_byteOf) k_Nodes_sameContent J K (n + 1) 37 L S M = ai_aload 0 38 (am_run (c_Nodes_sameContent s_Nodes_amountOf s_Nodes_isOf s_Nodes_byteOf) k_Nodes_sameContent J K n) K 37 L S M := by rfl
theorem r_Nodes_sameContent_38 {s_Nodes_amountOf : aS} {s_Nodes_isOf : aS} {s_Nodes_byteOf : aS} {J : aJ} {K : aR} {n : Nat} {L : aL} {S : List Value} {M : aM} : am_run (c_Nodes_sameContent s_Nodes_amountOf s_Nodes_isOf s_Nodes_byteOf) k_Nodes_sameContent J K (n + 1) 38 L S M = ai_iload 1 39 (am_run (c_Nodes_sameContent s_Nodes_amountOf s_Nodes_isOf s_Nodes_byteOf) k_Nodes_sameContent J K n) K 38 L S M := by rfl
theorem r_Nodes_sameContent_39 {s_Nodes_amountOf : aS} {s_Nodes_isOf : aS} {s_Nodes_byteOf : aS} {J : aJ} {K : aR} {n : Nat} {L : aL} {S : List Value} {M : aM} : am_run (c_Nodes_sameContent s_Nodes_amountOf s_Nodes_isOf s_Nodes_byteOf) k_Nodes_sameContent J K (n + 1) 39 L S M = ai_iload 4 41 (am_run (c_Nodes_sameContent s_Nodes_amountOf s_Nodes_isOf s_Nodes_byteOf) k_Nodes_sameContent J K n) K 39 L S M := by rfl
theorem r_Nodes_sameContent_41 {s_Nodes_amountOf : aS} {s_Nodes_isOf : aS} {s_Nodes_byteOf : aS} {J : aJ} {K : aR} {n : Nat} {L : aL} {S : List Value} {M : aM} : am_run (c_Nodes_sameContent s_Nodes_amountOf s_Nodes_isOf s_Nodes_byteOf) k_Nodes_sameContent J K (n + 1) 41 L S M = ai_callv3 0 s_Nodes_byteOf 44 (am_run (c_Nodes_sameContent s_Nodes_amountOf s_Nodes_isOf s_Nodes_byteOf) k_Nodes_sameContent J K n) K 41 L S M := by rfl
theorem r_Nodes_sameContent_44 {s_Nodes_amountOf : aS} {s_Nodes_isOf : aS} {s_Nodes_byteOf : aS} {J : aJ} {K : aR} {n : Nat} {L : aL} {S : List Value} {M : aM} : am_run (c_Nodes_sameContent s_Nodes_amountOf s_Nodes_isOf s_Nodes_byteOf) k_Nodes_sameContent J K (n + 1) 44 L S M = ai_aload 0 45 (am_run (c_Nodes_sameContent s_Nodes_amountOf s_Nodes_isOf s_Nodes_byteOf) k_Nodes_sameContent J K n) K 44 L S M := by rfl
theorem r_Nodes_sameContent_45 {s_Nodes_amountOf : aS} {s_Nodes_isOf : aS} {s_Nodes_byteOf : aS} {J : aJ} {K : aR} {n : Nat} {L : aL} {S : List Value} {M : aM} : am_run (c_Nodes_sameContent s_Nodes_amountOf s_Nodes_isOf s_Nodes_byteOf) k_Nodes_sameContent J K (n + 1) 45 L S M = ai_iload 2 46 (am_run (c_Nodes_sameContent s_Nodes_amountOf s_Nodes_isOf s_Nodes_byteOf) k_Nodes_sameContent J K n) K 45 L S M := by rfl
theorem r_Nodes_sameContent_46 {s_Nodes_amountOf : aS} {s_Nodes_isOf : aS} {s_Nodes_byteOf : aS} {J : aJ} {K : aR} {n : Nat} {L : aL} {S : List Value} {M : aM} : am_run (c_Nodes_sameContent s_Nodes_amountOf s_Nodes_isOf s_Nodes_byteOf) k_Nodes_sameContent J K (n + 1) 46 L S M = ai_iload 4 48 (am_run (c_Nodes_sameContent s_Nodes_amountOf s_Nodes_isOf s_Nodes_byteOf) k_Nodes_sameContent J K n) K 46 L S M := by rfl
theorem r_Nodes_sameContent_48 {s_Nodes_amountOf : aS} {s_Nodes_isOf : aS} {s_Nodes_byteOf : aS} {J : aJ} {K : aR} {n : Nat} {L : aL} {S : List Value} {M : aM} : am_run (c_Nodes_sameContent s_Nodes_amountOf s_Nodes_isOf s_Nodes_byteOf) k_Nodes_sameContent J K (n + 1) 48 L S M = ai_callv3 0 s_Nodes_byteOf 51 (am_run (c_Nodes_sameContent s_Nodes_amountOf s_Nodes_isOf s_Nodes_byteOf) k_Nodes_sameContent J K n) K 48 L S M := by rfl
theorem r_Nodes_sameContent_51 {s_Nodes_amountOf : aS} {s_Nodes_isOf : aS} {s_Nodes_byteOf : aS} {J : aJ} {K : aR} {n : Nat} {L : aL} {S : List Value} {M : aM} : am_run (c_Nodes_sameContent s_Nodes_amountOf s_Nodes_isOf s_Nodes_byteOf) k_Nodes_sameContent J K (n + 1) 51 L S M = ai_cmpeq 56 54 (am_run (c_Nodes_sameContent s_Nodes_amountOf s_Nodes_isOf s_Nodes_byteOf) k_Nodes_sameContent J K n) K 51 L S M := by rfl
theorem r_Nodes_sameContent_54 {s_Nodes_amountOf : aS} {s_Nodes_isOf : aS} {s_Nodes_byteOf : aS} {J : aJ} {K : aR} {n : Nat} {L : aL} {S : List Value} {M : aM} : am_run (c_Nodes_sameContent s_Nodes_amountOf s_Nodes_isOf s_Nodes_byteOf) k_Nodes_sameContent J K (n + 1) 54 L S M = ai_const 0 55 (am_run (c_Nodes_sameContent s_Nodes_amountOf s_Nodes_isOf s_Nodes_byteOf) k_Nodes_sameContent J K n) K 54 L S M := by rfl
theorem r_Nodes_sameContent_55 {s_Nodes_amountOf : aS} {s_Nodes_isOf : aS} {s_Nodes_byteOf : aS} {J : aJ} {K : aR} {n : Nat} {L : aL} {S : List Value} {M : aM} : am_run (c_Nodes_sameContent s_Nodes_amountOf s_Nodes_isOf s_Nodes_byteOf) k_Nodes_sameContent J K (n + 1) 55 L S M = ai_zret (am_run (c_Nodes_sameContent s_Nodes_amountOf s_Nodes_isOf s_Nodes_byteOf) k_Nodes_sameContent J K n) K 55 L S M := by rfl
theorem r_Nodes_sameContent_56 {s_Nodes_amountOf : aS} {s_Nodes_isOf : aS} {s_Nodes_byteOf : aS} {J : aJ} {K : aR} {n : Nat} {L : aL} {S : List Value} {M : aM} : am_run (c_Nodes_sameContent s_Nodes_amountOf s_Nodes_isOf s_Nodes_byteOf) k_Nodes_sameContent J K (n + 1) 56 L S M = ai_iinc 4 1 59 (am_run (c_Nodes_sameContent s_Nodes_amountOf s_Nodes_isOf s_Nodes_byteOf) k_Nodes_sameContent J K n) K 56 L S M := by rfl
theorem r_Nodes_sameContent_59 {s_Nodes_amountOf : aS} {s_Nodes_isOf : aS} {s_Nodes_byteOf : aS} {J : aJ} {K : aR} {n : Nat} {L : aL} {S : List Value} {M : aM} : am_run (c_Nodes_sameContent s_Nodes_amountOf s_Nodes_isOf s_Nodes_byteOf) k_Nodes_sameContent J K (n + 1) 59 L S M = ai_goto 31 (am_run (c_Nodes_sameContent s_Nodes_amountOf s_Nodes_isOf s_Nodes_byteOf) k_Nodes_sameContent J K n) K 59 L S M := by rfl
theorem r_Nodes_sameContent_62 {s_Nodes_amountOf : aS} {s_Nodes_isOf : aS} {s_Nodes_byteOf : aS} {J : aJ} {K : aR} {n : Nat} {L : aL} {S : List Value} {M : aM} : am_run (c_Nodes_sameContent s_Nodes_amountOf s_Nodes_isOf s_Nodes_byteOf) k_Nodes_sameContent J K (n + 1) 62 L S M = ai_const 1 63 (am_run (c_Nodes_sameContent s_Nodes_amountOf s_Nodes_isOf s_Nodes_byteOf) k_Nodes_sameContent J K n) K 62 L S M := by rfl
theorem r_Nodes_sameContent_63 {s_Nodes_amountOf : aS} {s_Nodes_isOf : aS} {s_Nodes_byteOf : aS} {J : aJ} {K : aR} {n : Nat} {L : aL} {S : List Value} {M : aM} : am_run (c_Nodes_sameContent s_Nodes_amountOf s_Nodes_isOf s_Nodes_byteOf) k_Nodes_sameContent J K (n + 1) 63 L S M = ai_zret (am_run (c_Nodes_sameContent s_Nodes_amountOf s_Nodes_isOf s_Nodes_byteOf) k_Nodes_sameContent J K n) K 63 L S M := by rfl
def c_Nodes_quotedIn (s_Nodes_tailOf : aS) (s_Nodes_headOf : aS) (s_Nodes_isQuoteName : aS) (s_Nodes_isOf : aS) : List (Nat × aI) := [
  (0, ai_aload 0 1),
  (1, ai_iload 1 2),
  (2, ai_callv2 0 s_Nodes_tailOf 5),
  (5, ai_istore 2 6),
  (6, ai_aload 0 7),
  (7, ai_aload 0 8),
  (8, ai_iload 1 9),
  (9, ai_callv2 0 s_Nodes_headOf 12),
  (12, ai_callv2 0 s_Nodes_isQuoteName 15),
  (15, ai_ifeq 31 18),
  (18, ai_aload 0 19),
  (19, ai_aload 0 20),
  (20, ai_iload 2 21),
  (21, ai_callv2 0 s_Nodes_tailOf 24),
  (24, ai_const 5 25),
  (25, ai_callv3 0 s_Nodes_isOf 28),
  (28, ai_ifne 33 31),
  (31, ai_const (-1) 32),
  (32, ai_iret),
  (33, ai_aload 0 34),
  (34, ai_iload 2 35),
  (35, ai_callv2 0 s_Nodes_headOf 38),
  (38, ai_iret)]
set_option maxRecDepth 100000 in
set_option maxHeartbeats 4000000 in
theorem tb_Nodes_quotedIn {G : aG} {d : Nat} {s_Nodes_tailOf : aS} {d_Nodes_tailOf : Nat} (h_Nodes_tailOf : am_Sp G Y_Nodes_tailOf d_Nodes_tailOf s_Nodes_tailOf) (l_Nodes_tailOf : d_Nodes_tailOf < d) {s_Nodes_headOf : aS} {d_Nodes_headOf : Nat} (h_Nodes_headOf : am_Sp G Y_Nodes_headOf d_Nodes_headOf s_Nodes_headOf) (l_Nodes_headOf : d_Nodes_headOf < d) {s_Nodes_isQuoteName : aS} {d_Nodes_isQuoteName : Nat} (h_Nodes_isQuoteName : am_Sp G Y_Nodes_isQuoteName d_Nodes_isQuoteName s_Nodes_isQuoteName) (l_Nodes_isQuoteName : d_Nodes_isQuoteName < d) {s_Nodes_isOf : aS} {d_Nodes_isOf : Nat} (h_Nodes_isOf : am_Sp G Y_Nodes_isOf d_Nodes_isOf s_Nodes_isOf) (l_Nodes_isOf : d_Nodes_isOf < d) : am_tab G Y_Nodes_quotedIn d (c_Nodes_quotedIn s_Nodes_tailOf s_Nodes_headOf s_Nodes_isQuoteName s_Nodes_isOf) := by
  intro K p e s m args below meth c C
  exact ⟨as_aload_n C (pc := 0) (q := 0) (by decide +kernel) rfl rfl,
    as_iload_n C (pc := 1) (q := 1) (by decide +kernel) rfl rfl,
    as_callv2 C (pc := 2) h_Nodes_tailOf (T := T_Nodes) (N := 10) rfl w_433 w_72 w_432 w_38 w_487 hy_Nodes_tailOf (am_rm_of l_Nodes_tailOf (by decide)) (by decide +kernel) rfl,
    as_istore_n C (pc := 5) (q := 2) (by decide +kernel) rfl (by decide) rfl,
    as_aload_n C (pc := 6) (q := 0) (by decide +kernel) rfl rfl,
    as_aload_n C (pc := 7) (q := 0) (by decide +kernel) rfl rfl,
    as_iload_n C (pc := 8) (q := 1) (by decide +kernel) rfl rfl,
    as_callv2 C (pc := 9) h_Nodes_headOf (T := T_Nodes) (N := 10) rfl w_429 w_72 w_428 w_37 w_488 hy_Nodes_headOf (am_rm_of l_Nodes_headOf (by decide)) (by decide +kernel) rfl,
    as_callv2 C (pc := 12) h_Nodes_isQuoteName (T := T_Nodes) (N := 10) rfl w_492 w_72 w_491 w_48 w_489 hy_Nodes_isQuoteName (am_rm_of l_Nodes_isQuoteName (by decide)) (by decide +kernel) rfl,
    as_ifeq C (pc := 15) (off := 16) (by decide +kernel) (by decide) rfl,
    as_aload_n C (pc := 18) (q := 0) (by decide +kernel) rfl rfl,
    as_aload_n C (pc := 19) (q := 0) (by decide +kernel) rfl rfl,
    as_iload_n C (pc := 20) (q := 2) (by decide +kernel) rfl rfl,
    as_callv2 C (pc := 21) h_Nodes_tailOf (T := T_Nodes) (N := 10) rfl w_433 w_72 w_432 w_38 w_487 hy_Nodes_tailOf (am_rm_of l_Nodes_tailOf (by decide)) (by decide +kernel) rfl,
    as_iconst C (pc := 24) (n := 5) (by decide +kernel) (by decide +kernel) rfl,
    as_callv3 C (pc := 25) h_Nodes_isOf (T := T_Nodes) (N := 10) rfl w_421 w_72 w_420 w_36 w_418 hy_Nodes_isOf (am_rm_of l_Nodes_isOf (by decide)) (by decide +kernel) rfl,
    as_ifne C (pc := 28) (off := 5) (by decide +kernel) (by decide) rfl,
    as_iconst C (pc := 31) (n := (-1)) (by decide +kernel) (by decide +kernel) rfl,
    as_iret C (pc := 32) rfl (by decide +kernel),
    as_aload_n C (pc := 33) (q := 0) (by decide +kernel) rfl rfl,
    as_iload_n C (pc := 34) (q := 2) (by decide +kernel) rfl rfl,
    as_callv2 C (pc := 35) h_Nodes_headOf (T := T_Nodes) (N := 10) rfl w_429 w_72 w_428 w_37 w_488 hy_Nodes_headOf (am_rm_of l_Nodes_headOf (by decide)) (by decide +kernel) rfl,
    as_iret C (pc := 38) rfl (by decide +kernel), trivial⟩
abbrev k_Nodes_quotedIn : List Nat := []
theorem r_Nodes_quotedIn_0 {s_Nodes_tailOf : aS} {s_Nodes_headOf : aS} {s_Nodes_isQuoteName : aS} {s_Nodes_isOf : aS} {J : aJ} {K : aR} {n : Nat} {L : aL} {S : List Value} {M : aM} : am_run (c_Nodes_quotedIn s_Nodes_tailOf s_Nodes_headOf s_Nodes_isQuoteName s_Nodes_isOf) k_Nodes_quotedIn J K (n + 1) 0 L S M = ai_aload 0 1 (am_run (c_Nodes_quotedIn s_Nodes_tailOf s_Nodes_headOf s_Nodes_isQuoteName s_Nodes_isOf) k_Nodes_quotedIn J K n) K 0 L S M := by rfl
theorem r_Nodes_quotedIn_1 {s_Nodes_tailOf : aS} {s_Nodes_headOf : aS} {s_Nodes_isQuoteName : aS} {s_Nodes_isOf : aS} {J : aJ} {K : aR} {n : Nat} {L : aL} {S : List Value} {M : aM} : am_run (c_Nodes_quotedIn s_Nodes_tailOf s_Nodes_headOf s_Nodes_isQuoteName s_Nodes_isOf) k_Nodes_quotedIn J K (n + 1) 1 L S M = ai_iload 1 2 (am_run (c_Nodes_quotedIn s_Nodes_tailOf s_Nodes_headOf s_Nodes_isQuoteName s_Nodes_isOf) k_Nodes_quotedIn J K n) K 1 L S M := by rfl
theorem r_Nodes_quotedIn_2 {s_Nodes_tailOf : aS} {s_Nodes_headOf : aS} {s_Nodes_isQuoteName : aS} {s_Nodes_isOf : aS} {J : aJ} {K : aR} {n : Nat} {L : aL} {S : List Value} {M : aM} : am_run (c_Nodes_quotedIn s_Nodes_tailOf s_Nodes_headOf s_Nodes_isQuoteName s_Nodes_isOf) k_Nodes_quotedIn J K (n + 1) 2 L S M = ai_callv2 0 s_Nodes_tailOf 5 (am_run (c_Nodes_quotedIn s_Nodes_tailOf s_Nodes_headOf s_Nodes_isQuoteName s_Nodes_isOf) k_Nodes_quotedIn J K n) K 2 L S M := by rfl
theorem r_Nodes_quotedIn_5 {s_Nodes_tailOf : aS} {s_Nodes_headOf : aS} {s_Nodes_isQuoteName : aS} {s_Nodes_isOf : aS} {J : aJ} {K : aR} {n : Nat} {L : aL} {S : List Value} {M : aM} : am_run (c_Nodes_quotedIn s_Nodes_tailOf s_Nodes_headOf s_Nodes_isQuoteName s_Nodes_isOf) k_Nodes_quotedIn J K (n + 1) 5 L S M = ai_istore 2 6 (am_run (c_Nodes_quotedIn s_Nodes_tailOf s_Nodes_headOf s_Nodes_isQuoteName s_Nodes_isOf) k_Nodes_quotedIn J K n) K 5 L S M := by rfl
theorem r_Nodes_quotedIn_6 {s_Nodes_tailOf : aS} {s_Nodes_headOf : aS} {s_Nodes_isQuoteName : aS} {s_Nodes_isOf : aS} {J : aJ} {K : aR} {n : Nat} {L : aL} {S : List Value} {M : aM} : am_run (c_Nodes_quotedIn s_Nodes_tailOf s_Nodes_headOf s_Nodes_isQuoteName s_Nodes_isOf) k_Nodes_quotedIn J K (n + 1) 6 L S M = ai_aload 0 7 (am_run (c_Nodes_quotedIn s_Nodes_tailOf s_Nodes_headOf s_Nodes_isQuoteName s_Nodes_isOf) k_Nodes_quotedIn J K n) K 6 L S M := by rfl
theorem r_Nodes_quotedIn_7 {s_Nodes_tailOf : aS} {s_Nodes_headOf : aS} {s_Nodes_isQuoteName : aS} {s_Nodes_isOf : aS} {J : aJ} {K : aR} {n : Nat} {L : aL} {S : List Value} {M : aM} : am_run (c_Nodes_quotedIn s_Nodes_tailOf s_Nodes_headOf s_Nodes_isQuoteName s_Nodes_isOf) k_Nodes_quotedIn J K (n + 1) 7 L S M = ai_aload 0 8 (am_run (c_Nodes_quotedIn s_Nodes_tailOf s_Nodes_headOf s_Nodes_isQuoteName s_Nodes_isOf) k_Nodes_quotedIn J K n) K 7 L S M := by rfl
theorem r_Nodes_quotedIn_8 {s_Nodes_tailOf : aS} {s_Nodes_headOf : aS} {s_Nodes_isQuoteName : aS} {s_Nodes_isOf : aS} {J : aJ} {K : aR} {n : Nat} {L : aL} {S : List Value} {M : aM} : am_run (c_Nodes_quotedIn s_Nodes_tailOf s_Nodes_headOf s_Nodes_isQuoteName s_Nodes_isOf) k_Nodes_quotedIn J K (n + 1) 8 L S M = ai_iload 1 9 (am_run (c_Nodes_quotedIn s_Nodes_tailOf s_Nodes_headOf s_Nodes_isQuoteName s_Nodes_isOf) k_Nodes_quotedIn J K n) K 8 L S M := by rfl
theorem r_Nodes_quotedIn_9 {s_Nodes_tailOf : aS} {s_Nodes_headOf : aS} {s_Nodes_isQuoteName : aS} {s_Nodes_isOf : aS} {J : aJ} {K : aR} {n : Nat} {L : aL} {S : List Value} {M : aM} : am_run (c_Nodes_quotedIn s_Nodes_tailOf s_Nodes_headOf s_Nodes_isQuoteName s_Nodes_isOf) k_Nodes_quotedIn J K (n + 1) 9 L S M = ai_callv2 0 s_Nodes_headOf 12 (am_run (c_Nodes_quotedIn s_Nodes_tailOf s_Nodes_headOf s_Nodes_isQuoteName s_Nodes_isOf) k_Nodes_quotedIn J K n) K 9 L S M := by rfl
theorem r_Nodes_quotedIn_12 {s_Nodes_tailOf : aS} {s_Nodes_headOf : aS} {s_Nodes_isQuoteName : aS} {s_Nodes_isOf : aS} {J : aJ} {K : aR} {n : Nat} {L : aL} {S : List Value} {M : aM} : am_run (c_Nodes_quotedIn s_Nodes_tailOf s_Nodes_headOf s_Nodes_isQuoteName s_Nodes_isOf) k_Nodes_quotedIn J K (n + 1) 12 L S M = ai_callv2 0 s_Nodes_isQuoteName 15 (am_run (c_Nodes_quotedIn s_Nodes_tailOf s_Nodes_headOf s_Nodes_isQuoteName s_Nodes_isOf) k_Nodes_quotedIn J K n) K 12 L S M := by rfl
theorem r_Nodes_quotedIn_15 {s_Nodes_tailOf : aS} {s_Nodes_headOf : aS} {s_Nodes_isQuoteName : aS} {s_Nodes_isOf : aS} {J : aJ} {K : aR} {n : Nat} {L : aL} {S : List Value} {M : aM} : am_run (c_Nodes_quotedIn s_Nodes_tailOf s_Nodes_headOf s_Nodes_isQuoteName s_Nodes_isOf) k_Nodes_quotedIn J K (n + 1) 15 L S M = ai_ifeq 31 18 (am_run (c_Nodes_quotedIn s_Nodes_tailOf s_Nodes_headOf s_Nodes_isQuoteName s_Nodes_isOf) k_Nodes_quotedIn J K n) K 15 L S M := by rfl
theorem r_Nodes_quotedIn_18 {s_Nodes_tailOf : aS} {s_Nodes_headOf : aS} {s_Nodes_isQuoteName : aS} {s_Nodes_isOf : aS} {J : aJ} {K : aR} {n : Nat} {L : aL} {S : List Value} {M : aM} : am_run (c_Nodes_quotedIn s_Nodes_tailOf s_Nodes_headOf s_Nodes_isQuoteName s_Nodes_isOf) k_Nodes_quotedIn J K (n + 1) 18 L S M = ai_aload 0 19 (am_run (c_Nodes_quotedIn s_Nodes_tailOf s_Nodes_headOf s_Nodes_isQuoteName s_Nodes_isOf) k_Nodes_quotedIn J K n) K 18 L S M := by rfl
theorem r_Nodes_quotedIn_19 {s_Nodes_tailOf : aS} {s_Nodes_headOf : aS} {s_Nodes_isQuoteName : aS} {s_Nodes_isOf : aS} {J : aJ} {K : aR} {n : Nat} {L : aL} {S : List Value} {M : aM} : am_run (c_Nodes_quotedIn s_Nodes_tailOf s_Nodes_headOf s_Nodes_isQuoteName s_Nodes_isOf) k_Nodes_quotedIn J K (n + 1) 19 L S M = ai_aload 0 20 (am_run (c_Nodes_quotedIn s_Nodes_tailOf s_Nodes_headOf s_Nodes_isQuoteName s_Nodes_isOf) k_Nodes_quotedIn J K n) K 19 L S M := by rfl
theorem r_Nodes_quotedIn_20 {s_Nodes_tailOf : aS} {s_Nodes_headOf : aS} {s_Nodes_isQuoteName : aS} {s_Nodes_isOf : aS} {J : aJ} {K : aR} {n : Nat} {L : aL} {S : List Value} {M : aM} : am_run (c_Nodes_quotedIn s_Nodes_tailOf s_Nodes_headOf s_Nodes_isQuoteName s_Nodes_isOf) k_Nodes_quotedIn J K (n + 1) 20 L S M = ai_iload 2 21 (am_run (c_Nodes_quotedIn s_Nodes_tailOf s_Nodes_headOf s_Nodes_isQuoteName s_Nodes_isOf) k_Nodes_quotedIn J K n) K 20 L S M := by rfl
theorem r_Nodes_quotedIn_21 {s_Nodes_tailOf : aS} {s_Nodes_headOf : aS} {s_Nodes_isQuoteName : aS} {s_Nodes_isOf : aS} {J : aJ} {K : aR} {n : Nat} {L : aL} {S : List Value} {M : aM} : am_run (c_Nodes_quotedIn s_Nodes_tailOf s_Nodes_headOf s_Nodes_isQuoteName s_Nodes_isOf) k_Nodes_quotedIn J K (n + 1) 21 L S M = ai_callv2 0 s_Nodes_tailOf 24 (am_run (c_Nodes_quotedIn s_Nodes_tailOf s_Nodes_headOf s_Nodes_isQuoteName s_Nodes_isOf) k_Nodes_quotedIn J K n) K 21 L S M := by rfl
theorem r_Nodes_quotedIn_24 {s_Nodes_tailOf : aS} {s_Nodes_headOf : aS} {s_Nodes_isQuoteName : aS} {s_Nodes_isOf : aS} {J : aJ} {K : aR} {n : Nat} {L : aL} {S : List Value} {M : aM} : am_run (c_Nodes_quotedIn s_Nodes_tailOf s_Nodes_headOf s_Nodes_isQuoteName s_Nodes_isOf) k_Nodes_quotedIn J K (n + 1) 24 L S M = ai_const 5 25 (am_run (c_Nodes_quotedIn s_Nodes_tailOf s_Nodes_headOf s_Nodes_isQuoteName s_Nodes_isOf) k_Nodes_quotedIn J K n) K 24 L S M := by rfl
theorem r_Nodes_quotedIn_25 {s_Nodes_tailOf : aS} {s_Nodes_headOf : aS} {s_Nodes_isQuoteName : aS} {s_Nodes_isOf : aS} {J : aJ} {K : aR} {n : Nat} {L : aL} {S : List Value} {M : aM} : am_run (c_Nodes_quotedIn s_Nodes_tailOf s_Nodes_headOf s_Nodes_isQuoteName s_Nodes_isOf) k_Nodes_quotedIn J K (n + 1) 25 L S M = ai_callv3 0 s_Nodes_isOf 28 (am_run (c_Nodes_quotedIn s_Nodes_tailOf s_Nodes_headOf s_Nodes_isQuoteName s_Nodes_isOf) k_Nodes_quotedIn J K n) K 25 L S M := by rfl
theorem r_Nodes_quotedIn_28 {s_Nodes_tailOf : aS} {s_Nodes_headOf : aS} {s_Nodes_isQuoteName : aS} {s_Nodes_isOf : aS} {J : aJ} {K : aR} {n : Nat} {L : aL} {S : List Value} {M : aM} : am_run (c_Nodes_quotedIn s_Nodes_tailOf s_Nodes_headOf s_Nodes_isQuoteName s_Nodes_isOf) k_Nodes_quotedIn J K (n + 1) 28 L S M = ai_ifne 33 31 (am_run (c_Nodes_quotedIn s_Nodes_tailOf s_Nodes_headOf s_Nodes_isQuoteName s_Nodes_isOf) k_Nodes_quotedIn J K n) K 28 L S M := by rfl
theorem r_Nodes_quotedIn_31 {s_Nodes_tailOf : aS} {s_Nodes_headOf : aS} {s_Nodes_isQuoteName : aS} {s_Nodes_isOf : aS} {J : aJ} {K : aR} {n : Nat} {L : aL} {S : List Value} {M : aM} : am_run (c_Nodes_quotedIn s_Nodes_tailOf s_Nodes_headOf s_Nodes_isQuoteName s_Nodes_isOf) k_Nodes_quotedIn J K (n + 1) 31 L S M = ai_const (-1) 32 (am_run (c_Nodes_quotedIn s_Nodes_tailOf s_Nodes_headOf s_Nodes_isQuoteName s_Nodes_isOf) k_Nodes_quotedIn J K n) K 31 L S M := by rfl
theorem r_Nodes_quotedIn_32 {s_Nodes_tailOf : aS} {s_Nodes_headOf : aS} {s_Nodes_isQuoteName : aS} {s_Nodes_isOf : aS} {J : aJ} {K : aR} {n : Nat} {L : aL} {S : List Value} {M : aM} : am_run (c_Nodes_quotedIn s_Nodes_tailOf s_Nodes_headOf s_Nodes_isQuoteName s_Nodes_isOf) k_Nodes_quotedIn J K (n + 1) 32 L S M = ai_iret (am_run (c_Nodes_quotedIn s_Nodes_tailOf s_Nodes_headOf s_Nodes_isQuoteName s_Nodes_isOf) k_Nodes_quotedIn J K n) K 32 L S M := by rfl
theorem r_Nodes_quotedIn_33 {s_Nodes_tailOf : aS} {s_Nodes_headOf : aS} {s_Nodes_isQuoteName : aS} {s_Nodes_isOf : aS} {J : aJ} {K : aR} {n : Nat} {L : aL} {S : List Value} {M : aM} : am_run (c_Nodes_quotedIn s_Nodes_tailOf s_Nodes_headOf s_Nodes_isQuoteName s_Nodes_isOf) k_Nodes_quotedIn J K (n + 1) 33 L S M = ai_aload 0 34 (am_run (c_Nodes_quotedIn s_Nodes_tailOf s_Nodes_headOf s_Nodes_isQuoteName s_Nodes_isOf) k_Nodes_quotedIn J K n) K 33 L S M := by rfl
theorem r_Nodes_quotedIn_34 {s_Nodes_tailOf : aS} {s_Nodes_headOf : aS} {s_Nodes_isQuoteName : aS} {s_Nodes_isOf : aS} {J : aJ} {K : aR} {n : Nat} {L : aL} {S : List Value} {M : aM} : am_run (c_Nodes_quotedIn s_Nodes_tailOf s_Nodes_headOf s_Nodes_isQuoteName s_Nodes_isOf) k_Nodes_quotedIn J K (n + 1) 34 L S M = ai_iload 2 35 (am_run (c_Nodes_quotedIn s_Nodes_tailOf s_Nodes_headOf s_Nodes_isQuoteName s_Nodes_isOf) k_Nodes_quotedIn J K n) K 34 L S M := by rfl
theorem r_Nodes_quotedIn_35 {s_Nodes_tailOf : aS} {s_Nodes_headOf : aS} {s_Nodes_isQuoteName : aS} {s_Nodes_isOf : aS} {J : aJ} {K : aR} {n : Nat} {L : aL} {S : List Value} {M : aM} : am_run (c_Nodes_quotedIn s_Nodes_tailOf s_Nodes_headOf s_Nodes_isQuoteName s_Nodes_isOf) k_Nodes_quotedIn J K (n + 1) 35 L S M = ai_callv2 0 s_Nodes_headOf 38 (am_run (c_Nodes_quotedIn s_Nodes_tailOf s_Nodes_headOf s_Nodes_isQuoteName s_Nodes_isOf) k_Nodes_quotedIn J K n) K 35 L S M := by rfl
theorem r_Nodes_quotedIn_38 {s_Nodes_tailOf : aS} {s_Nodes_headOf : aS} {s_Nodes_isQuoteName : aS} {s_Nodes_isOf : aS} {J : aJ} {K : aR} {n : Nat} {L : aL} {S : List Value} {M : aM} : am_run (c_Nodes_quotedIn s_Nodes_tailOf s_Nodes_headOf s_Nodes_isQuoteName s_Nodes_isOf) k_Nodes_quotedIn J K (n + 1) 38 L S M = ai_iret (am_run (c_Nodes_quotedIn s_Nodes_tailOf s_Nodes_headOf s_Nodes_isQuoteName s_Nodes_isOf) k_Nodes_quotedIn J K n) K 38 L S M := by rfl
def c_Nodes_isQuoteName (s_Nodes_isOf : aS) (s_Nodes_byteOf : aS) : List (Nat × aI) := [
  (0, ai_aload 0 1),
  (1, ai_iload 1 2),
  (2, ai_const 2 3),
  (3, ai_callv3 0 s_Nodes_isOf 6),
  (6, ai_ifeq 22 9),
  (9, ai_aload 0 10),
  (10, ai_getf 0 1 13),
  (13, ai_iload 1 14),
  (14, ai_iald 15),
  (15, ai_gets (.ref 1000) 18),
  (18, ai_xlen 1000 5 19),
  (19, ai_cmpeq 24 22),
  (22, ai_const 0 23),
  (23, ai_zret),
  (24, ai_const 0 25),
  (25, ai_istore 2 26),
  (26, ai_iload 2 27),
  (27, ai_gets (.ref 1000) 30),
  (30, ai_xlen 1000 5 31),
  (31, ai_cmpge 56 34),
  (34, ai_aload 0 35),
  (35, ai_iload 1 36),
  (36, ai_iload 2 37),
  (37, ai_callv3 0 s_Nodes_byteOf 40),
  (40, ai_gets (.ref 1000) 43),
  (43, ai_iload 2 44),
  (44, ai_xald 1000 5 QF 45),
  (45, ai_cmpeq 50 48),
  (48, ai_const 0 49),
  (49, ai_zret),
  (50, ai_iinc 2 1 53),
  (53, ai_goto 26),
  (56, ai_const 1 57),
  (57, ai_zret)]
set_option maxRecDepth 100000 in
set_option maxHeartbeats 4000000 in
theorem tb_Nodes_isQuoteName {G : aG} {d : Nat} {s_Nodes_isOf : aS} {d_Nodes_isOf : Nat} (h_Nodes_isOf : am_Sp G Y_Nodes_isOf d_Nodes_isOf s_Nodes_isOf) (l_Nodes_isOf : d_Nodes_isOf < d) {s_Nodes_byteOf : aS} {d_Nodes_byteOf : Nat} (h_Nodes_byteOf : am_Sp G Y_Nodes_byteOf d_Nodes_byteOf s_Nodes_byteOf) (l_Nodes_byteOf : d_Nodes_byteOf < d) : am_tab G Y_Nodes_isQuoteName d (c_Nodes_isQuoteName s_Nodes_isOf s_Nodes_byteOf) := by
  intro K p e s m args below meth c C
  exact ⟨as_aload_n C (pc := 0) (q := 0) (by decide +kernel) rfl rfl,
    as_iload_n C (pc := 1) (q := 1) (by decide +kernel) rfl rfl,
    as_iconst C (pc := 2) (n := 2) (by decide +kernel) (by decide +kernel) rfl,
    as_callv3 C (pc := 3) h_Nodes_isOf (T := T_Nodes) (N := 10) rfl w_421 w_72 w_420 w_36 w_418 hy_Nodes_isOf (am_rm_of l_Nodes_isOf (by decide)) (by decide +kernel) rfl,
    as_ifeq C (pc := 6) (off := 16) (by decide +kernel) (by decide) rfl,
    as_aload_n C (pc := 9) (q := 0) (by decide +kernel) rfl rfl,
    as_getf C (pc := 10) (T := T_Nodes) (N := 10) rfl in_Nodes (by decide) rfl w_119 (by decide +kernel) rfl,
    as_iload_n C (pc := 13) (q := 1) (by decide +kernel) rfl rfl,
    as_iald C (pc := 14) (by decide +kernel) rfl,
    as_getsN C (pc := 15) (Cn := "DatumDesk") (f := "QUOTE") (d := "[I") List.mem_cons_self w_113 (by decide +kernel) rfl,
    as_xlen C (pc := 18) (hm_1000 G) (by decide +kernel) rfl,
    as_cmpeq C (pc := 19) (off := 5) (by decide +kernel) (by decide) rfl,
    as_iconst C (pc := 22) (n := 0) (by decide +kernel) (by decide +kernel) rfl,
    as_zret C (pc := 23) rfl (by decide +kernel),
    as_iconst C (pc := 24) (n := 0) (by decide +kernel) (by decide +kernel) rfl,
    as_istore_n C (pc := 25) (q := 2) (by decide +kernel) rfl (by decide) rfl,
    as_iload_n C (pc := 26) (q := 2) (by decide +kernel) rfl rfl,
    as_getsN C (pc := 27) (Cn := "DatumDesk") (f := "QUOTE") (d := "[I") List.mem_cons_self w_113 (by decide +kernel) rfl,
    as_xlen C (pc := 30) (hm_1000 G) (by decide +kernel) rfl,
    as_cmpge C (pc := 31) (off := 25) (by decide +kernel) (by decide) rfl,
    as_aload_n C (pc := 34) (q := 0) (by decide +kernel) rfl rfl,
    as_iload_n C (pc := 35) (q := 1) (by decide +kernel) rfl rfl,
    as_iload_n C (pc := 36) (q := 2) (by decide +kernel) rfl rfl,
    as_callv3 C (pc := 37) h_Nodes_byteOf (T := T_Nodes) (N := 10) rfl w_417 w_72 w_416 w_35 w_449 hy_Nodes_byteOf (am_rm_of l_Nodes_byteOf (by decide)) (by decide +kernel) rfl,
    as_getsN C (pc := 40) (Cn := "DatumDesk") (f := "QUOTE") (d := "[I") List.mem_cons_self w_113 (by decide +kernel) rfl,
    as_iload_n C (pc := 43) (q := 2) (by decide +kernel) rfl rfl,
    as_xald C (pc := 44) (hm_1000 G) (by decide +kernel) rfl,
    as_cmpeq C (pc := 45) (off := 5) (by decide +kernel) (by decide) rfl,
    as_iconst C (pc := 48) (n := 0) (by decide +kernel) (by decide +kernel) rfl,
    as_zret C (pc := 49) rfl (by decide +kernel),
    as_iinc C (pc := 50) (k := 2) (n := 1) (by decide +kernel) (by decide +kernel) (by decide) rfl,
    as_goto C (pc := 53) (off := (-27)) (by decide +kernel) (by decide),
    as_iconst C (pc := 56) (n := 1) (by decide +kernel) (by decide +kernel) rfl,
    as_zret C (pc := 57) rfl (by decide +kernel), trivial⟩
abbrev k_Nodes_isQuoteName : List Nat := [26]
theorem q_Nodes_isQuoteName_26 {s_Nodes_isOf : aS} {s_Nodes_byteOf : aS} : am_at (c_Nodes_isQuoteName s_Nodes_isOf s_Nodes_byteOf) 26 = ai_iload 2 27 := by rfl
theorem r_Nodes_isQuoteName_0 {s_Nodes_isOf : aS} {s_Nodes_byteOf : aS} {J : aJ} {K : aR} {n : Nat} {L : aL} {S : List Value} {M : aM} : am_run (c_Nodes_isQuoteName s_Nodes_isOf s_Nodes_byteOf) k_Nodes_isQuoteName J K (n + 1) 0 L S M = ai_aload 0 1 (am_run (c_Nodes_isQuoteName s_Nodes_isOf s_Nodes_byteOf) k_Nodes_isQuoteName J K n) K 0 L S M := by rfl
theorem r_Nodes_isQuoteName_1 {s_Nodes_isOf : aS} {s_Nodes_byteOf : aS} {J : aJ} {K : aR} {n : Nat} {L : aL} {S : List Value} {M : aM} : am_run (c_Nodes_isQuoteName s_Nodes_isOf s_Nodes_byteOf) k_Nodes_isQuoteName J K (n + 1) 1 L S M = ai_iload 1 2 (am_run (c_Nodes_isQuoteName s_Nodes_isOf s_Nodes_byteOf) k_Nodes_isQuoteName J K n) K 1 L S M := by rfl
theorem r_Nodes_isQuoteName_2 {s_Nodes_isOf : aS} {s_Nodes_byteOf : aS} {J : aJ} {K : aR} {n : Nat} {L : aL} {S : List Value} {M : aM} : am_run (c_Nodes_isQuoteName s_Nodes_isOf s_Nodes_byteOf) k_Nodes_isQuoteName J K (n + 1) 2 L S M = ai_const 2 3 (am_run (c_Nodes_isQuoteName s_Nodes_isOf s_Nodes_byteOf) k_Nodes_isQuoteName J K n) K 2 L S M := by rfl
theorem r_Nodes_isQuoteName_3 {s_Nodes_isOf : aS} {s_Nodes_byteOf : aS} {J : aJ} {K : aR} {n : Nat} {L : aL} {S : List Value} {M : aM} : am_run (c_Nodes_isQuoteName s_Nodes_isOf s_Nodes_byteOf) k_Nodes_isQuoteName J K (n + 1) 3 L S M = ai_callv3 0 s_Nodes_isOf 6 (am_run (c_Nodes_isQuoteName s_Nodes_isOf s_Nodes_byteOf) k_Nodes_isQuoteName J K n) K 3 L S M := by rfl
theorem r_Nodes_isQuoteName_6 {s_Nodes_isOf : aS} {s_Nodes_byteOf : aS} {J : aJ} {K : aR} {n : Nat} {L : aL} {S : List Value} {M : aM} : am_run (c_Nodes_isQuoteName s_Nodes_isOf s_Nodes_byteOf) k_Nodes_isQuoteName J K (n + 1) 6 L S M = ai_ifeq 22 9 (am_run (c_Nodes_isQuoteName s_Nodes_isOf s_Nodes_byteOf) k_Nodes_isQuoteName J K n) K 6 L S M := by rfl
theorem r_Nodes_isQuoteName_9 {s_Nodes_isOf : aS} {s_Nodes_byteOf : aS} {J : aJ} {K : aR} {n : Nat} {L : aL} {S : List Value} {M : aM} : am_run (c_Nodes_isQuoteName s_Nodes_isOf s_Nodes_byteOf) k_Nodes_isQuoteName J K (n + 1) 9 L S M = ai_aload 0 10 (am_run (c_Nodes_isQuoteName s_Nodes_isOf s_Nodes_byteOf) k_Nodes_isQuoteName J K n) K 9 L S M := by rfl
theorem r_Nodes_isQuoteName_10 {s_Nodes_isOf : aS} {s_Nodes_byteOf : aS} {J : aJ} {K : aR} {n : Nat} {L : aL} {S : List Value} {M : aM} : am_run (c_Nodes_isQuoteName s_Nodes_isOf s_Nodes_byteOf) k_Nodes_isQuoteName J K (n + 1) 10 L S M = ai_getf 0 1 13 (am_run (c_Nodes_isQuoteName s_Nodes_isOf s_Nodes_byteOf) k_Nodes_isQuoteName J K n) K 10 L S M := by rfl
theorem r_Nodes_isQuoteName_13 {s_Nodes_isOf : aS} {s_Nodes_byteOf : aS} {J : aJ} {K : aR} {n : Nat} {L : aL} {S : List Value} {M : aM} : am_run (c_Nodes_isQuoteName s_Nodes_isOf s_Nodes_byteOf) k_Nodes_isQuoteName J K (n + 1) 13 L S M = ai_iload 1 14 (am_run (c_Nodes_isQuoteName s_Nodes_isOf s_Nodes_byteOf) k_Nodes_isQuoteName J K n) K 13 L S M := by rfl
theorem r_Nodes_isQuoteName_14 {s_Nodes_isOf : aS} {s_Nodes_byteOf : aS} {J : aJ} {K : aR} {n : Nat} {L : aL} {S : List Value} {M : aM} : am_run (c_Nodes_isQuoteName s_Nodes_isOf s_Nodes_byteOf) k_Nodes_isQuoteName J K (n + 1) 14 L S M = ai_iald 15 (am_run (c_Nodes_isQuoteName s_Nodes_isOf s_Nodes_byteOf) k_Nodes_isQuoteName J K n) K 14 L S M := by rfl
theorem r_Nodes_isQuoteName_15 {s_Nodes_isOf : aS} {s_Nodes_byteOf : aS} {J : aJ} {K : aR} {n : Nat} {L : aL} {S : List Value} {M : aM} : am_run (c_Nodes_isQuoteName s_Nodes_isOf s_Nodes_byteOf) k_Nodes_isQuoteName J K (n + 1) 15 L S M = ai_gets (.ref 1000) 18 (am_run (c_Nodes_isQuoteName s_Nodes_isOf s_Nodes_byteOf) k_Nodes_isQuoteName J K n) K 15 L S M := by rfl
theorem r_Nodes_isQuoteName_18 {s_Nodes_isOf : aS} {s_Nodes_byteOf : aS} {J : aJ} {K : aR} {n : Nat} {L : aL} {S : List Value} {M : aM} : am_run (c_Nodes_isQuoteName s_Nodes_isOf s_Nodes_byteOf) k_Nodes_isQuoteName J K (n + 1) 18 L S M = ai_xlen 1000 5 19 (am_run (c_Nodes_isQuoteName s_Nodes_isOf s_Nodes_byteOf) k_Nodes_isQuoteName J K n) K 18 L S M := by rfl
theorem r_Nodes_isQuoteName_19 {s_Nodes_isOf : aS} {s_Nodes_byteOf : aS} {J : aJ} {K : aR} {n : Nat} {L : aL} {S : List Value} {M : aM} : am_run (c_Nodes_isQuoteName s_Nodes_isOf s_Nodes_byteOf) k_Nodes_isQuoteName J K (n + 1) 19 L S M = ai_cmpeq 24 22 (am_run (c_Nodes_isQuoteName s_Nodes_isOf s_Nodes_byteOf) k_Nodes_isQuoteName J K n) K 19 L S M := by rfl
theorem r_Nodes_isQuoteName_22 {s_Nodes_isOf : aS} {s_Nodes_byteOf : aS} {J : aJ} {K : aR} {n : Nat} {L : aL} {S : List Value} {M : aM} : am_run (c_Nodes_isQuoteName s_Nodes_isOf s_Nodes_byteOf) k_Nodes_isQuoteName J K (n + 1) 22 L S M = ai_const 0 23 (am_run (c_Nodes_isQuoteName s_Nodes_isOf s_Nodes_byteOf) k_Nodes_isQuoteName J K n) K 22 L S M := by rfl
theorem r_Nodes_isQuoteName_23 {s_Nodes_isOf : aS} {s_Nodes_byteOf : aS} {J : aJ} {K : aR} {n : Nat} {L : aL} {S : List Value} {M : aM} : am_run (c_Nodes_isQuoteName s_Nodes_isOf s_Nodes_byteOf) k_Nodes_isQuoteName J K (n + 1) 23 L S M = ai_zret (am_run (c_Nodes_isQuoteName s_Nodes_isOf s_Nodes_byteOf) k_Nodes_isQuoteName J K n) K 23 L S M := by rfl
theorem r_Nodes_isQuoteName_24 {s_Nodes_isOf : aS} {s_Nodes_byteOf : aS} {J : aJ} {K : aR} {n : Nat} {L : aL} {S : List Value} {M : aM} : am_run (c_Nodes_isQuoteName s_Nodes_isOf s_Nodes_byteOf) k_Nodes_isQuoteName J K (n + 1) 24 L S M = ai_const 0 25 (am_run (c_Nodes_isQuoteName s_Nodes_isOf s_Nodes_byteOf) k_Nodes_isQuoteName J K n) K 24 L S M := by rfl
theorem r_Nodes_isQuoteName_25 {s_Nodes_isOf : aS} {s_Nodes_byteOf : aS} {J : aJ} {K : aR} {n : Nat} {L : aL} {S : List Value} {M : aM} : am_run (c_Nodes_isQuoteName s_Nodes_isOf s_Nodes_byteOf) k_Nodes_isQuoteName J K (n + 1) 25 L S M = ai_istore 2 26 (am_run (c_Nodes_isQuoteName s_Nodes_isOf s_Nodes_byteOf) k_Nodes_isQuoteName J K n) K 25 L S M := by rfl
theorem r_Nodes_isQuoteName_26 {s_Nodes_isOf : aS} {s_Nodes_byteOf : aS} {J : aJ} {K : aR} {n : Nat} {L : aL} {S : List Value} {M : aM} : am_run (c_Nodes_isQuoteName s_Nodes_isOf s_Nodes_byteOf) k_Nodes_isQuoteName J K (n + 1) 26 L S M = J 26 L S M := by rfl
theorem r_Nodes_isQuoteName_27 {s_Nodes_isOf : aS} {s_Nodes_byteOf : aS} {J : aJ} {K : aR} {n : Nat} {L : aL} {S : List Value} {M : aM} : am_run (c_Nodes_isQuoteName s_Nodes_isOf s_Nodes_byteOf) k_Nodes_isQuoteName J K (n + 1) 27 L S M = ai_gets (.ref 1000) 30 (am_run (c_Nodes_isQuoteName s_Nodes_isOf s_Nodes_byteOf) k_Nodes_isQuoteName J K n) K 27 L S M := by rfl
theorem r_Nodes_isQuoteName_30 {s_Nodes_isOf : aS} {s_Nodes_byteOf : aS} {J : aJ} {K : aR} {n : Nat} {L : aL} {S : List Value} {M : aM} : am_run (c_Nodes_isQuoteName s_Nodes_isOf s_Nodes_byteOf) k_Nodes_isQuoteName J K (n + 1) 30 L S M = ai_xlen 1000 5 31 (am_run (c_Nodes_isQuoteName s_Nodes_isOf s_Nodes_byteOf) k_Nodes_isQuoteName J K n) K 30 L S M := by rfl
theorem r_Nodes_isQuoteName_31 {s_Nodes_isOf : aS} {s_Nodes_byteOf : aS} {J : aJ} {K : aR} {n : Nat} {L : aL} {S : List Value} {M : aM} : am_run (c_Nodes_isQuoteName s_Nodes_isOf s_Nodes_byteOf) k_Nodes_isQuoteName J K (n + 1) 31 L S M = ai_cmpge 56 34 (am_run (c_Nodes_isQuoteName s_Nodes_isOf s_Nodes_byteOf) k_Nodes_isQuoteName J K n) K 31 L S M := by rfl
theorem r_Nodes_isQuoteName_34 {s_Nodes_isOf : aS} {s_Nodes_byteOf : aS} {J : aJ} {K : aR} {n : Nat} {L : aL} {S : List Value} {M : aM} : am_run (c_Nodes_isQuoteName s_Nodes_isOf s_Nodes_byteOf) k_Nodes_isQuoteName J K (n + 1) 34 L S M = ai_aload 0 35 (am_run (c_Nodes_isQuoteName s_Nodes_isOf s_Nodes_byteOf) k_Nodes_isQuoteName J K n) K 34 L S M := by rfl
theorem r_Nodes_isQuoteName_35 {s_Nodes_isOf : aS} {s_Nodes_byteOf : aS} {J : aJ} {K : aR} {n : Nat} {L : aL} {S : List Value} {M : aM} : am_run (c_Nodes_isQuoteName s_Nodes_isOf s_Nodes_byteOf) k_Nodes_isQuoteName J K (n + 1) 35 L S M = ai_iload 1 36 (am_run (c_Nodes_isQuoteName s_Nodes_isOf s_Nodes_byteOf) k_Nodes_isQuoteName J K n) K 35 L S M := by rfl
theorem r_Nodes_isQuoteName_36 {s_Nodes_isOf : aS} {s_Nodes_byteOf : aS} {J : aJ} {K : aR} {n : Nat} {L : aL} {S : List Value} {M : aM} : am_run (c_Nodes_isQuoteName s_Nodes_isOf s_Nodes_byteOf) k_Nodes_isQuoteName J K (n + 1) 36 L S M = ai_iload 2 37 (am_run (c_Nodes_isQuoteName s_Nodes_isOf s_Nodes_byteOf) k_Nodes_isQuoteName J K n) K 36 L S M := by rfl
theorem r_Nodes_isQuoteName_37 {s_Nodes_isOf : aS} {s_Nodes_byteOf : aS} {J : aJ} {K : aR} {n : Nat} {L : aL} {S : List Value} {M : aM} : am_run (c_Nodes_isQuoteName s_Nodes_isOf s_Nodes_byteOf) k_Nodes_isQuoteName J K (n + 1) 37 L S M = ai_callv3 0 s_Nodes_byteOf 40 (am_run (c_Nodes_isQuoteName s_Nodes_isOf s_Nodes_byteOf) k_Nodes_isQuoteName J K n) K 37 L S M := by rfl
theorem r_Nodes_isQuoteName_40 {s_Nodes_isOf : aS} {s_Nodes_byteOf : aS} {J : aJ} {K : aR} {n : Nat} {L : aL} {S : List Value} {M : aM} : am_run (c_Nodes_isQuoteName s_Nodes_isOf s_Nodes_byteOf) k_Nodes_isQuoteName J K (n + 1) 40 L S M = ai_gets (.ref 1000) 43 (am_run (c_Nodes_isQuoteName s_Nodes_isOf s_Nodes_byteOf) k_Nodes_isQuoteName J K n) K 40 L S M := by rfl
theorem r_Nodes_isQuoteName_43 {s_Nodes_isOf : aS} {s_Nodes_byteOf : aS} {J : aJ} {K : aR} {n : Nat} {L : aL} {S : List Value} {M : aM} : am_run (c_Nodes_isQuoteName s_Nodes_isOf s_Nodes_byteOf) k_Nodes_isQuoteName J K (n + 1) 43 L S M = ai_iload 2 44 (am_run (c_Nodes_isQuoteName s_Nodes_isOf s_Nodes_byteOf) k_Nodes_isQuoteName J K n) K 43 L S M := by rfl
theorem r_Nodes_isQuoteName_44 {s_Nodes_isOf : aS} {s_Nodes_byteOf : aS} {J : aJ} {K : aR} {n : Nat} {L : aL} {S : List Value} {M : aM} : am_run (c_Nodes_isQuoteName s_Nodes_isOf s_Nodes_byteOf) k_Nodes_isQuoteName J K (n + 1) 44 L S M = ai_xald 1000 5 QF 45 (am_run (c_Nodes_isQuoteName s_Nodes_isOf s_Nodes_byteOf) k_Nodes_isQuoteName J K n) K 44 L S M := by rfl
theorem r_Nodes_isQuoteName_45 {s_Nodes_isOf : aS} {s_Nodes_byteOf : aS} {J : aJ} {K : aR} {n : Nat} {L : aL} {S : List Value} {M : aM} : am_run (c_Nodes_isQuoteName s_Nodes_isOf s_Nodes_byteOf) k_Nodes_isQuoteName J K (n + 1) 45 L S M = ai_cmpeq 50 48 (am_run (c_Nodes_isQuoteName s_Nodes_isOf s_Nodes_byteOf) k_Nodes_isQuoteName J K n) K 45 L S M := by rfl
theorem r_Nodes_isQuoteName_48 {s_Nodes_isOf : aS} {s_Nodes_byteOf : aS} {J : aJ} {K : aR} {n : Nat} {L : aL} {S : List Value} {M : aM} : am_run (c_Nodes_isQuoteName s_Nodes_isOf s_Nodes_byteOf) k_Nodes_isQuoteName J K (n + 1) 48 L S M = ai_const 0 49 (am_run (c_Nodes_isQuoteName s_Nodes_isOf s_Nodes_byteOf) k_Nodes_isQuoteName J K n) K 48 L S M := by rfl
theorem r_Nodes_isQuoteName_49 {s_Nodes_isOf : aS} {s_Nodes_byteOf : aS} {J : aJ} {K : aR} {n : Nat} {L : aL} {S : List Value} {M : aM} : am_run (c_Nodes_isQuoteName s_Nodes_isOf s_Nodes_byteOf) k_Nodes_isQuoteName J K (n + 1) 49 L S M = ai_zret (am_run (c_Nodes_isQuoteName s_Nodes_isOf s_Nodes_byteOf) k_Nodes_isQuoteName J K n) K 49 L S M := by rfl
theorem r_Nodes_isQuoteName_50 {s_Nodes_isOf : aS} {s_Nodes_byteOf : aS} {J : aJ} {K : aR} {n : Nat} {L : aL} {S : List Value} {M : aM} : am_run (c_Nodes_isQuoteName s_Nodes_isOf s_Nodes_byteOf) k_Nodes_isQuoteName J K (n + 1) 50 L S M = ai_iinc 2 1 53 (am_run (c_Nodes_isQuoteName s_Nodes_isOf s_Nodes_byteOf) k_Nodes_isQuoteName J K n) K 50 L S M := by rfl
theorem r_Nodes_isQuoteName_53 {s_Nodes_isOf : aS} {s_Nodes_byteOf : aS} {J : aJ} {K : aR} {n : Nat} {L : aL} {S : List Value} {M : aM} : am_run (c_Nodes_isQuoteName s_Nodes_isOf s_Nodes_byteOf) k_Nodes_isQuoteName J K (n + 1) 53 L S M = ai_goto 26 (am_run (c_Nodes_isQuoteName s_Nodes_isOf s_Nodes_byteOf) k_Nodes_isQuoteName J K n) K 53 L S M := by rfl
theorem r_Nodes_isQuoteName_56 {s_Nodes_isOf : aS} {s_Nodes_byteOf : aS} {J : aJ} {K : aR} {n : Nat} {L : aL} {S : List Value} {M : aM} : am_run (c_Nodes_isQuoteName s_Nodes_isOf s_Nodes_byteOf) k_Nodes_isQuoteName J K (n + 1) 56 L S M = ai_const 1 57 (am_run (c_Nodes_isQuoteName s_Nodes_isOf s_Nodes_byteOf) k_Nodes_isQuoteName J K n) K 56 L S M := by rfl
theorem r_Nodes_isQuoteName_57 {s_Nodes_isOf : aS} {s_Nodes_byteOf : aS} {J : aJ} {K : aR} {n : Nat} {L : aL} {S : List Value} {M : aM} : am_run (c_Nodes_isQuoteName s_Nodes_isOf s_Nodes_byteOf) k_Nodes_isQuoteName J K (n + 1) 57 L S M = ai_zret (am_run (c_Nodes_isQuoteName s_Nodes_isOf s_Nodes_byteOf) k_Nodes_isQuoteName J K n) K 57 L S M := by rfl
end
section
def c_Tokens_scan (s_Text_skipBlanks : aS) (s_Text_sortAt : aS) (s_Text_tokenEnd : aS) : List (Nat × aI) := [
  (0, ai_aload 0 1),
  (1, ai_const 0 2),
  (2, ai_putf 3 3 5),
  (5, ai_const 0 6),
  (6, ai_istore 2 7),
  (7, ai_const 0 8),
  (8, ai_istore 3 9),
  (9, ai_iload 3 10),
  (10, ai_const 400 13),
  (13, ai_cmpgt 106 16),
  (16, ai_aload 1 17),
  (17, ai_iload 2 18),
  (18, ai_callv2 2 s_Text_skipBlanks 21),
  (21, ai_istore 4 23),
  (23, ai_aload 1 24),
  (24, ai_iload 4 26),
  (26, ai_callv2 2 s_Text_sortAt 29),
  (29, ai_istore 5 31),
  (31, ai_aload 1 32),
  (32, ai_iload 4 34),
  (34, ai_iload 5 36),
  (36, ai_callv3 2 s_Text_tokenEnd 39),
  (39, ai_istore 6 41),
  (41, ai_aload 0 42),
  (42, ai_getf 3 0 45),
  (45, ai_iload 3 46),
  (46, ai_iload 6 48),
  (48, ai_const (-1) 49),
  (49, ai_cmpne 57 52),
  (52, ai_const 11 54),
  (54, ai_goto 59),
  (57, ai_iload 5 59),
  (59, ai_iast 60),
  (60, ai_aload 0 61),
  (61, ai_getf 3 1 64),
  (64, ai_iload 3 65),
  (65, ai_iload 4 67),
  (67, ai_iast 68),
  (68, ai_aload 0 69),
  (69, ai_getf 3 2 72),
  (72, ai_iload 3 73),
  (73, ai_iload 6 75),
  (75, ai_iast 76),
  (76, ai_aload 0 77),
  (77, ai_iload 3 78),
  (78, ai_const 1 79),
  (79, ai_iadd 80),
  (80, ai_putf 3 3 83),
  (83, ai_iload 6 85),
  (85, ai_const (-1) 86),
  (86, ai_cmpeq 96 89),
  (89, ai_iload 5 91),
  (91, ai_const 10 93),
  (93, ai_cmpne 97 96),
  (96, ai_vret),
  (97, ai_iload 6 99),
  (99, ai_istore 2 100),
  (100, ai_iinc 3 1 103),
  (103, ai_goto 9),
  (106, ai_vret)]
set_option maxRecDepth 100000 in
set_option maxHeartbeats 4000000 in
theorem tb_Tokens_scan {G : aG} {d : Nat} {s_Text_skipBlanks : aS} {d_Text_skipBlanks : Nat} (h_Text_skipBlanks : am_Sp G Y_Text_skipBlanks d_Text_skipBlanks s_Text_skipBlanks) (l_Text_skipBlanks : d_Text_skipBlanks < d) {s_Text_sortAt : aS} {d_Text_sortAt : Nat} (h_Text_sortAt : am_Sp G Y_Text_sortAt d_Text_sortAt s_Text_sortAt) (l_Text_sortAt : d_Text_sortAt < d) {s_Text_tokenEnd : aS} {d_Text_tokenEnd : Nat} (h_Text_tokenEnd : am_Sp G Y_Text_tokenEnd d_Text_tokenEnd s_Text_tokenEnd) (l_Text_tokenEnd : d_Text_tokenEnd < d) : am_tab G Y_Tokens_scan d (c_Tokens_scan s_Text_skipBlanks s_Text_sortAt s_Text_tokenEnd) := by
  intro K p e s m args below meth c C
  exact ⟨as_aload_n C (pc := 0) (q := 0) (by decide +kernel) rfl rfl,
    as_iconst C (pc := 1) (n := 0) (by decide +kernel) (by decide +kernel) rfl,
    as_putf C (pc := 2) t_Tokens (T := T_Tokens) (N := 4) rfl in_Tokens tok_Tokens nm_Tokens (by decide) rfl rfl (by decide +kernel) w_166 (by decide +kernel) rfl,
    as_iconst C (pc := 5) (n := 0) (by decide +kernel) (by decide +kernel) rfl,
    as_istore_n C (pc := 6) (q := 2) (by decide +kernel) rfl (by decide) rfl,
    as_iconst C (pc := 7) (n := 0) (by decide +kernel) (by decide +kernel) rfl,
    as_istore_n C (pc := 8) (q := 3) (by decide +kernel) rfl (by decide) rfl,
    as_iload_n C (pc := 9) (q := 3) (by decide +kernel) rfl rfl,
    as_sipush C (pc := 10) (n := 400) (by decide +kernel) (by decide +kernel) rfl,
    as_cmpgt C (pc := 13) (off := 93) (by decide +kernel) (by decide) rfl,
    as_aload_n C (pc := 16) (q := 1) (by decide +kernel) rfl rfl,
    as_iload_n C (pc := 17) (q := 2) (by decide +kernel) rfl rfl,
    as_callv2N C (pc := 18) h_Text_skipBlanks (T := T_Text) (N := 2) rfl w_266 w_71 w_265 w_4 w_263 hy_Text_skipBlanks (am_rm_of l_Text_skipBlanks (by decide)) (by decide +kernel) rfl,
    as_istore C (pc := 21) (k := 4) (by decide +kernel) (by decide) rfl,
    as_aload_n C (pc := 23) (q := 1) (by decide +kernel) rfl rfl,
    as_iload C (pc := 24) (k := 4) (by decide +kernel) rfl,
    as_callv2N C (pc := 26) h_Text_sortAt (T := T_Text) (N := 2) rfl w_274 w_71 w_273 w_6 w_271 hy_Text_sortAt (am_rm_of l_Text_sortAt (by decide)) (by decide +kernel) rfl,
    as_istore C (pc := 29) (k := 5) (by decide +kernel) (by decide) rfl,
    as_aload_n C (pc := 31) (q := 1) (by decide +kernel) rfl rfl,
    as_iload C (pc := 32) (k := 4) (by decide +kernel) rfl,
    as_iload C (pc := 34) (k := 5) (by decide +kernel) rfl,
    as_callv3N C (pc := 36) h_Text_tokenEnd (T := T_Text) (N := 2) rfl w_284 w_71 w_283 w_7 w_281 hy_Text_tokenEnd (am_rm_of l_Text_tokenEnd (by decide)) (by decide +kernel) rfl,
    as_istore C (pc := 39) (k := 6) (by decide +kernel) (by decide) rfl,
    as_aload_n C (pc := 41) (q := 0) (by decide +kernel) rfl rfl,
    as_getf C (pc := 42) (T := T_Tokens) (N := 4) rfl in_Tokens (by decide) rfl w_163 (by decide +kernel) rfl,
    as_iload_n C (pc := 45) (q := 3) (by decide +kernel) rfl rfl,
    as_iload C (pc := 46) (k := 6) (by decide +kernel) rfl,
    as_iconst C (pc := 48) (n := (-1)) (by decide +kernel) (by decide +kernel) rfl,
    as_cmpne C (pc := 49) (off := 8) (by decide +kernel) (by decide) rfl,
    as_bipush C (pc := 52) (n := 11) (by decide +kernel) (by decide +kernel) rfl,
    as_goto C (pc := 54) (off := 5) (by decide +kernel) (by decide),
    as_iload C (pc := 57) (k := 5) (by decide +kernel) rfl,
    as_iast C (pc := 59) (by decide +kernel) rfl,
    as_aload_n C (pc := 60) (q := 0) (by decide +kernel) rfl rfl,
    as_getf C (pc := 61) (T := T_Tokens) (N := 4) rfl in_Tokens (by decide) rfl w_164 (by decide +kernel) rfl,
    as_iload_n C (pc := 64) (q := 3) (by decide +kernel) rfl rfl,
    as_iload C (pc := 65) (k := 4) (by decide +kernel) rfl,
    as_iast C (pc := 67) (by decide +kernel) rfl,
    as_aload_n C (pc := 68) (q := 0) (by decide +kernel) rfl rfl,
    as_getf C (pc := 69) (T := T_Tokens) (N := 4) rfl in_Tokens (by decide) rfl w_165 (by decide +kernel) rfl,
    as_iload_n C (pc := 72) (q := 3) (by decide +kernel) rfl rfl,
    as_iload C (pc := 73) (k := 6) (by decide +kernel) rfl,
    as_iast C (pc := 75) (by decide +kernel) rfl,
    as_aload_n C (pc := 76) (q := 0) (by decide +kernel) rfl rfl,
    as_iload_n C (pc := 77) (q := 3) (by decide +kernel) rfl rfl,
    as_iconst C (pc := 78) (n := 1) (by decide +kernel) (by decide +kernel) rfl,
    as_iadd C (pc := 79) (by decide +kernel) rfl,
    as_putf C (pc := 80) t_Tokens (T := T_Tokens) (N := 4) rfl in_Tokens tok_Tokens nm_Tokens (by decide) rfl rfl (by decide +kernel) w_166 (by decide +kernel) rfl,
    as_iload C (pc := 83) (k := 6) (by decide +kernel) rfl,
    as_iconst C (pc := 85) (n := (-1)) (by decide +kernel) (by decide +kernel) rfl,
    as_cmpeq C (pc := 86) (off := 10) (by decide +kernel) (by decide) rfl,
    as_iload C (pc := 89) (k := 5) (by decide +kernel) rfl,
    as_bipush C (pc := 91) (n := 10) (by decide +kernel) (by decide +kernel) rfl,
    as_cmpne C (pc := 93) (off := 4) (by decide +kernel) (by decide) rfl,
    as_vret C (pc := 96) rfl (by decide +kernel),
    as_iload C (pc := 97) (k := 6) (by decide +kernel) rfl,
    as_istore_n C (pc := 99) (q := 2) (by decide +kernel) rfl (by decide) rfl,
    as_iinc C (pc := 100) (k := 3) (n := 1) (by decide +kernel) (by decide +kernel) (by decide) rfl,
    as_goto C (pc := 103) (off := (-94)) (by decide +kernel) (by decide),
    as_vret C (pc := 106) rfl (by decide +kernel), trivial⟩
abbrev k_Tokens_scan : List Nat := [9]
set_option maxRecDepth 20000 in
theorem q_Tokens_scan_9 {s_Text_skipBlanks : aS} {s_Text_sortAt : aS} {s_Text_tokenEnd : aS} : am_at (c_Tokens_scan s_Text_skipBlanks s_Text_sortAt s_Text_tokenEnd) 9 = ai_iload 3 10 := by rfl
set_option maxRecDepth 20000 in
theorem r_Tokens_scan_0 {s_Text_skipBlanks : aS} {s_Text_sortAt : aS} {s_Text_tokenEnd : aS} {J : aJ} {K : aR} {n : Nat} {L : aL} {S : List Value} {M : aM} : am_run (c_Tokens_scan s_Text_skipBlanks s_Text_sortAt s_Text_tokenEnd) k_Tokens_scan J K (n + 1) 0 L S M = ai_aload 0 1 (am_run (c_Tokens_scan s_Text_skipBlanks s_Text_sortAt s_Text_tokenEnd) k_Tokens_scan J K n) K 0 L S M := by rfl
set_option maxRecDepth 20000 in
theorem r_Tokens_scan_1 {s_Text_skipBlanks : aS} {s_Text_sortAt : aS} {s_Text_tokenEnd : aS} {J : aJ} {K : aR} {n : Nat} {L : aL} {S : List Value} {M : aM} : am_run (c_Tokens_scan s_Text_skipBlanks s_Text_sortAt s_Text_tokenEnd) k_Tokens_scan J K (n + 1) 1 L S M = ai_const 0 2 (am_run (c_Tokens_scan s_Text_skipBlanks s_Text_sortAt s_Text_tokenEnd) k_Tokens_scan J K n) K 1 L S M := by rfl
set_option maxRecDepth 20000 in
theorem r_Tokens_scan_2 {s_Text_skipBlanks : aS} {s_Text_sortAt : aS} {s_Text_tokenEnd : aS} {J : aJ} {K : aR} {n : Nat} {L : aL} {S : List Value} {M : aM} : am_run (c_Tokens_scan s_Text_skipBlanks s_Text_sortAt s_Text_tokenEnd) k_Tokens_scan J K (n + 1) 2 L S M = ai_putf 3 3 5 (am_run (c_Tokens_scan s_Text_skipBlanks s_Text_sortAt s_Text_tokenEnd) k_Tokens_scan J K n) K 2 L S M := by rfl
set_option maxRecDepth 20000 in
theorem r_Tokens_scan_5 {s_Text_skipBlanks : aS} {s_Text_sortAt : aS} {s_Text_tokenEnd : aS} {J : aJ} {K : aR} {n : Nat} {L : aL} {S : List Value} {M : aM} : am_run (c_Tokens_scan s_Text_skipBlanks s_Text_sortAt s_Text_tokenEnd) k_Tokens_scan J K (n + 1) 5 L S M = ai_const 0 6 (am_run (c_Tokens_scan s_Text_skipBlanks s_Text_sortAt s_Text_tokenEnd) k_Tokens_scan J K n) K 5 L S M := by rfl
set_option maxRecDepth 20000 in
theorem r_Tokens_scan_6 {s_Text_skipBlanks : aS} {s_Text_sortAt : aS} {s_Text_tokenEnd : aS} {J : aJ} {K : aR} {n : Nat} {L : aL} {S : List Value} {M : aM} : am_run (c_Tokens_scan s_Text_skipBlanks s_Text_sortAt s_Text_tokenEnd) k_Tokens_scan J K (n + 1) 6 L S M = ai_istore 2 7 (am_run (c_Tokens_scan s_Text_skipBlanks s_Text_sortAt s_Text_tokenEnd) k_Tokens_scan J K n) K 6 L S M := by rfl
set_option maxRecDepth 20000 in
theorem r_Tokens_scan_7 {s_Text_skipBlanks : aS} {s_Text_sortAt : aS} {s_Text_tokenEnd : aS} {J : aJ} {K : aR} {n : Nat} {L : aL} {S : List Value} {M : aM} : am_run (c_Tokens_scan s_Text_skipBlanks s_Text_sortAt s_Text_tokenEnd) k_Tokens_scan J K (n + 1) 7 L S M = ai_const 0 8 (am_run (c_Tokens_scan s_Text_skipBlanks s_Text_sortAt s_Text_tokenEnd) k_Tokens_scan J K n) K 7 L S M := by rfl
set_option maxRecDepth 20000 in
theorem r_Tokens_scan_8 {s_Text_skipBlanks : aS} {s_Text_sortAt : aS} {s_Text_tokenEnd : aS} {J : aJ} {K : aR} {n : Nat} {L : aL} {S : List Value} {M : aM} : am_run (c_Tokens_scan s_Text_skipBlanks s_Text_sortAt s_Text_tokenEnd) k_Tokens_scan J K (n + 1) 8 L S M = ai_istore 3 9 (am_run (c_Tokens_scan s_Text_skipBlanks s_Text_sortAt s_Text_tokenEnd) k_Tokens_scan J K n) K 8 L S M := by rfl
set_option maxRecDepth 20000 in
theorem r_Tokens_scan_9 {s_Text_skipBlanks : aS} {s_Text_sortAt : aS} {s_Text_tokenEnd : aS} {J : aJ} {K : aR} {n : Nat} {L : aL} {S : List Value} {M : aM} : am_run (c_Tokens_scan s_Text_skipBlanks s_Text_sortAt s_Text_tokenEnd) k_Tokens_scan J K (n + 1) 9 L S M = J 9 L S M := by rfl
set_option maxRecDepth 20000 in
theorem r_Tokens_scan_10 {s_Text_skipBlanks : aS} {s_Text_sortAt : aS} {s_Text_tokenEnd : aS} {J : aJ} {K : aR} {n : Nat} {L : aL} {S : List Value} {M : aM} : am_run (c_Tokens_scan s_Text_skipBlanks s_Text_sortAt s_Text_tokenEnd) k_Tokens_scan J K (n + 1) 10 L S M = ai_const 400 13 (am_run (c_Tokens_scan s_Text_skipBlanks s_Text_sortAt s_Text_tokenEnd) k_Tokens_scan J K n) K 10 L S M := by rfl
set_option maxRecDepth 20000 in
theorem r_Tokens_scan_13 {s_Text_skipBlanks : aS} {s_Text_sortAt : aS} {s_Text_tokenEnd : aS} {J : aJ} {K : aR} {n : Nat} {L : aL} {S : List Value} {M : aM} : am_run (c_Tokens_scan s_Text_skipBlanks s_Text_sortAt s_Text_tokenEnd) k_Tokens_scan J K (n + 1) 13 L S M = ai_cmpgt 106 16 (am_run (c_Tokens_scan s_Text_skipBlanks s_Text_sortAt s_Text_tokenEnd) k_Tokens_scan J K n) K 13 L S M := by rfl
set_option maxRecDepth 20000 in
theorem r_Tokens_scan_16 {s_Text_skipBlanks : aS} {s_Text_sortAt : aS} {s_Text_tokenEnd : aS} {J : aJ} {K : aR} {n : Nat} {L : aL} {S : List Value} {M : aM} : am_run (c_Tokens_scan s_Text_skipBlanks s_Text_sortAt s_Text_tokenEnd) k_Tokens_scan J K (n + 1) 16 L S M = ai_aload 1 17 (am_run (c_Tokens_scan s_Text_skipBlanks s_Text_sortAt s_Text_tokenEnd) k_Tokens_scan J K n) K 16 L S M := by rfl
set_option maxRecDepth 20000 in
theorem r_Tokens_scan_17 {s_Text_skipBlanks : aS} {s_Text_sortAt : aS} {s_Text_tokenEnd : aS} {J : aJ} {K : aR} {n : Nat} {L : aL} {S : List Value} {M : aM} : am_run (c_Tokens_scan s_Text_skipBlanks s_Text_sortAt s_Text_tokenEnd) k_Tokens_scan J K (n + 1) 17 L S M = ai_iload 2 18 (am_run (c_Tokens_scan s_Text_skipBlanks s_Text_sortAt s_Text_tokenEnd) k_Tokens_scan J K n) K 17 L S M := by rfl
set_option maxRecDepth 20000 in
theorem r_Tokens_scan_18 {s_Text_skipBlanks : aS} {s_Text_sortAt : aS} {s_Text_tokenEnd : aS} {J : aJ} {K : aR} {n : Nat} {L : aL} {S : List Value} {M : aM} : am_run (c_Tokens_scan s_Text_skipBlanks s_Text_sortAt s_Text_tokenEnd) k_Tokens_scan J K (n + 1) 18 L S M = ai_callv2 2 s_Text_skipBlanks 21 (am_run (c_Tokens_scan s_Text_skipBlanks s_Text_sortAt s_Text_tokenEnd) k_Tokens_scan J K n) K 18 L S M := by rfl
set_option maxRecDepth 20000 in
theorem r_Tokens_scan_21 {s_Text_skipBlanks : aS} {s_Text_sortAt : aS} {s_Text_tokenEnd : aS} {J : aJ} {K : aR} {n : Nat} {L : aL} {S : List Value} {M : aM} : am_run (c_Tokens_scan s_Text_skipBlanks s_Text_sortAt s_Text_tokenEnd) k_Tokens_scan J K (n + 1) 21 L S M = ai_istore 4 23 (am_run (c_Tokens_scan s_Text_skipBlanks s_Text_sortAt s_Text_tokenEnd) k_Tokens_scan J K n) K 21 L S M := by rfl
set_option maxRecDepth 20000 in
theorem r_Tokens_scan_23 {s_Text_skipBlanks : aS} {s_Text_sortAt : aS} {s_Text_tokenEnd : aS} {J : aJ} {K : aR} {n : Nat} {L : aL} {S : List Value} {M : aM} : am_run (c_Tokens_scan s_Text_skipBlanks s_Text_sortAt s_Text_tokenEnd) k_Tokens_scan J K (n + 1) 23 L S M = ai_aload 1 24 (am_run (c_Tokens_scan s_Text_skipBlanks s_Text_sortAt s_Text_tokenEnd) k_Tokens_scan J K n) K 23 L S M := by rfl
set_option maxRecDepth 20000 in
theorem r_Tokens_scan_24 {s_Text_skipBlanks : aS} {s_Text_sortAt : aS} {s_Text_tokenEnd : aS} {J : aJ} {K : aR} {n : Nat} {L : aL} {S : List Value} {M : aM} : am_run (c_Tokens_scan s_Text_skipBlanks s_Text_sortAt s_Text_tokenEnd) k_Tokens_scan J K (n + 1) 24 L S M = ai_iload 4 26 (am_run (c_Tokens_scan s_Text_skipBlanks s_Text_sortAt s_Text_tokenEnd) k_Tokens_scan J K n) K 24 L S M := by rfl
set_option maxRecDepth 20000 in
theorem r_Tokens_scan_26 {s_Text_skipBlanks : aS} {s_Text_sortAt : aS} {s_Text_tokenEnd : aS} {J : aJ} {K : aR} {n : Nat} {L : aL} {S : List Value} {M : aM} : am_run (c_Tokens_scan s_Text_skipBlanks s_Text_sortAt s_Text_tokenEnd) k_Tokens_scan J K (n + 1) 26 L S M = ai_callv2 2 s_Text_sortAt 29 (am_run (c_Tokens_scan s_Text_skipBlanks s_Text_sortAt s_Text_tokenEnd) k_Tokens_scan J K n) K 26 L S M := by rfl
set_option maxRecDepth 20000 in
theorem r_Tokens_scan_29 {s_Text_skipBlanks : aS} {s_Text_sortAt : aS} {s_Text_tokenEnd : aS} {J : aJ} {K : aR} {n : Nat} {L : aL} {S : List Value} {M : aM} : am_run (c_Tokens_scan s_Text_skipBlanks s_Text_sortAt s_Text_tokenEnd) k_Tokens_scan J K (n + 1) 29 L S M = ai_istore 5 31 (am_run (c_Tokens_scan s_Text_skipBlanks s_Text_sortAt s_Text_tokenEnd) k_Tokens_scan J K n) K 29 L S M := by rfl
set_option maxRecDepth 20000 in
theorem r_Tokens_scan_31 {s_Text_skipBlanks : aS} {s_Text_sortAt : aS} {s_Text_tokenEnd : aS} {J : aJ} {K : aR} {n : Nat} {L : aL} {S : List Value} {M : aM} : am_run (c_Tokens_scan s_Text_skipBlanks s_Text_sortAt s_Text_tokenEnd) k_Tokens_scan J K (n + 1) 31 L S M = ai_aload 1 32 (am_run (c_Tokens_scan s_Text_skipBlanks s_Text_sortAt s_Text_tokenEnd) k_Tokens_scan J K n) K 31 L S M := by rfl
set_option maxRecDepth 20000 in
theorem r_Tokens_scan_32 {s_Text_skipBlanks : aS} {s_Text_sortAt : aS} {s_Text_tokenEnd : aS} {J : aJ} {K : aR} {n : Nat} {L : aL} {S : List Value} {M : aM} : am_run (c_Tokens_scan s_Text_skipBlanks s_Text_sortAt s_Text_tokenEnd) k_Tokens_scan J K (n + 1) 32 L S M = ai_iload 4 34 (am_run (c_Tokens_scan s_Text_skipBlanks s_Text_sortAt s_Text_tokenEnd) k_Tokens_scan J K n) K 32 L S M := by rfl
set_option maxRecDepth 20000 in
theorem r_Tokens_scan_34 {s_Text_skipBlanks : aS} {s_Text_sortAt : aS} {s_Text_tokenEnd : aS} {J : aJ} {K : aR} {n : Nat} {L : aL} {S : List Value} {M : aM} : am_run (c_Tokens_scan s_Text_skipBlanks s_Text_sortAt s_Text_tokenEnd) k_Tokens_scan J K (n + 1) 34 L S M = ai_iload 5 36 (am_run (c_Tokens_scan s_Text_skipBlanks s_Text_sortAt s_Text_tokenEnd) k_Tokens_scan J K n) K 34 L S M := by rfl
set_option maxRecDepth 20000 in
theorem r_Tokens_scan_36 {s_Text_skipBlanks : aS} {s_Text_sortAt : aS} {s_Text_tokenEnd : aS} {J : aJ} {K : aR} {n : Nat} {L : aL} {S : List Value} {M : aM} : am_run (c_Tokens_scan s_Text_skipBlanks s_Text_sortAt s_Text_tokenEnd) k_Tokens_scan J K (n + 1) 36 L S M = ai_callv3 2 s_Text_tokenEnd 39 (am_run (c_Tokens_scan s_Text_skipBlanks s_Text_sortAt s_Text_tokenEnd) k_Tokens_scan J K n) K 36 L S M := by rfl
set_option maxRecDepth 20000 in
theorem r_Tokens_scan_39 {s_Text_skipBlanks : aS} {s_Text_sortAt : aS} {s_Text_tokenEnd : aS} {J : aJ} {K : aR} {n : Nat} {L : aL} {S : List Value} {M : aM} : am_run (c_Tokens_scan s_Text_skipBlanks s_Text_sortAt s_Text_tokenEnd) k_Tokens_scan J K (n + 1) 39 L S M = ai_istore 6 41 (am_run (c_Tokens_scan s_Text_skipBlanks s_Text_sortAt s_Text_tokenEnd) k_Tokens_scan J K n) K 39 L S M := by rfl
set_option maxRecDepth 20000 in
theorem r_Tokens_scan_41 {s_Text_skipBlanks : aS} {s_Text_sortAt : aS} {s_Text_tokenEnd : aS} {J : aJ} {K : aR} {n : Nat} {L : aL} {S : List Value} {M : aM} : am_run (c_Tokens_scan s_Text_skipBlanks s_Text_sortAt s_Text_tokenEnd) k_Tokens_scan J K (n + 1) 41 L S M = ai_aload 0 42 (am_run (c_Tokens_scan s_Text_skipBlanks s_Text_sortAt s_Text_tokenEnd) k_Tokens_scan J K n) K 41 L S M := by rfl
set_option maxRecDepth 20000 in
theorem r_Tokens_scan_42 {s_Text_skipBlanks : aS} {s_Text_sortAt : aS} {s_Text_tokenEnd : aS} {J : aJ} {K : aR} {n : Nat} {L : aL} {S : List Value} {M : aM} : am_run (c_Tokens_scan s_Text_skipBlanks s_Text_sortAt s_Text_tokenEnd) k_Tokens_scan J K (n + 1) 42 L S M = ai_getf 3 0 45 (am_run (c_Tokens_scan s_Text_skipBlanks s_Text_sortAt s_Text_tokenEnd) k_Tokens_scan J K n) K 42 L S M := by rfl
set_option maxRecDepth 20000 in
theorem r_Tokens_scan_45 {s_Text_skipBlanks : aS} {s_Text_sortAt : aS} {s_Text_tokenEnd : aS} {J : aJ} {K : aR} {n : Nat} {L : aL} {S : List Value} {M : aM} : am_run (c_Tokens_scan s_Text_skipBlanks s_Text_sortAt s_Text_tokenEnd) k_Tokens_scan J K (n + 1) 45 L S M = ai_iload 3 46 (am_run (c_Tokens_scan s_Text_skipBlanks s_Text_sortAt s_Text_tokenEnd) k_Tokens_scan J K n) K 45 L S M := by rfl
set_option maxRecDepth 20000 in
theorem r_Tokens_scan_46 {s_Text_skipBlanks : aS} {s_Text_sortAt : aS} {s_Text_tokenEnd : aS} {J : aJ} {K : aR} {n : Nat} {L : aL} {S : List Value} {M : aM} : am_run (c_Tokens_scan s_Text_skipBlanks s_Text_sortAt s_Text_tokenEnd) k_Tokens_scan J K (n + 1) 46 L S M = ai_iload 6 48 (am_run (c_Tokens_scan s_Text_skipBlanks s_Text_sortAt s_Text_tokenEnd) k_Tokens_scan J K n) K 46 L S M := by rfl
set_option maxRecDepth 20000 in
theorem r_Tokens_scan_48 {s_Text_skipBlanks : aS} {s_Text_sortAt : aS} {s_Text_tokenEnd : aS} {J : aJ} {K : aR} {n : Nat} {L : aL} {S : List Value} {M : aM} : am_run (c_Tokens_scan s_Text_skipBlanks s_Text_sortAt s_Text_tokenEnd) k_Tokens_scan J K (n + 1) 48 L S M = ai_const (-1) 49 (am_run (c_Tokens_scan s_Text_skipBlanks s_Text_sortAt s_Text_tokenEnd) k_Tokens_scan J K n) K 48 L S M := by rfl
set_option maxRecDepth 20000 in
theorem r_Tokens_scan_49 {s_Text_skipBlanks : aS} {s_Text_sortAt : aS} {s_Text_tokenEnd : aS} {J : aJ} {K : aR} {n : Nat} {L : aL} {S : List Value} {M : aM} : am_run (c_Tokens_scan s_Text_skipBlanks s_Text_sortAt s_Text_tokenEnd) k_Tokens_scan J K (n + 1) 49 L S M = ai_cmpne 57 52 (am_run (c_Tokens_scan s_Text_skipBlanks s_Text_sortAt s_Text_tokenEnd) k_Tokens_scan J K n) K 49 L S M := by rfl
set_option maxRecDepth 20000 in
theorem r_Tokens_scan_52 {s_Text_skipBlanks : aS} {s_Text_sortAt : aS} {s_Text_tokenEnd : aS} {J : aJ} {K : aR} {n : Nat} {L : aL} {S : List Value} {M : aM} : am_run (c_Tokens_scan s_Text_skipBlanks s_Text_sortAt s_Text_tokenEnd) k_Tokens_scan J K (n + 1) 52 L S M = ai_const 11 54 (am_run (c_Tokens_scan s_Text_skipBlanks s_Text_sortAt s_Text_tokenEnd) k_Tokens_scan J K n) K 52 L S M := by rfl
set_option maxRecDepth 20000 in
theorem r_Tokens_scan_54 {s_Text_skipBlanks : aS} {s_Text_sortAt : aS} {s_Text_tokenEnd : aS} {J : aJ} {K : aR} {n : Nat} {L : aL} {S : List Value} {M : aM} : am_run (c_Tokens_scan s_Text_skipBlanks s_Text_sortAt s_Text_tokenEnd) k_Tokens_scan J K (n + 1) 54 L S M = ai_goto 59 (am_run (c_Tokens_scan s_Text_skipBlanks s_Text_sortAt s_Text_tokenEnd) k_Tokens_scan J K n) K 54 L S M := by rfl
set_option maxRecDepth 20000 in
theorem r_Tokens_scan_57 {s_Text_skipBlanks : aS} {s_Text_sortAt : aS} {s_Text_tokenEnd : aS} {J : aJ} {K : aR} {n : Nat} {L : aL} {S : List Value} {M : aM} : am_run (c_Tokens_scan s_Text_skipBlanks s_Text_sortAt s_Text_tokenEnd) k_Tokens_scan J K (n + 1) 57 L S M = ai_iload 5 59 (am_run (c_Tokens_scan s_Text_skipBlanks s_Text_sortAt s_Text_tokenEnd) k_Tokens_scan J K n) K 57 L S M := by rfl
set_option maxRecDepth 20000 in
theorem r_Tokens_scan_59 {s_Text_skipBlanks : aS} {s_Text_sortAt : aS} {s_Text_tokenEnd : aS} {J : aJ} {K : aR} {n : Nat} {L : aL} {S : List Value} {M : aM} : am_run (c_Tokens_scan s_Text_skipBlanks s_Text_sortAt s_Text_tokenEnd) k_Tokens_scan J K (n + 1) 59 L S M = ai_iast 60 (am_run (c_Tokens_scan s_Text_skipBlanks s_Text_sortAt s_Text_tokenEnd) k_Tokens_scan J K n) K 59 L S M := by rfl
set_option maxRecDepth 20000 in
theorem r_Tokens_scan_60 {s_Text_skipBlanks : aS} {s_Text_sortAt : aS} {s_Text_tokenEnd : aS} {J : aJ} {K : aR} {n : Nat} {L : aL} {S : List Value} {M : aM} : am_run (c_Tokens_scan s_Text_skipBlanks s_Text_sortAt s_Text_tokenEnd) k_Tokens_scan J K (n + 1) 60 L S M = ai_aload 0 61 (am_run (c_Tokens_scan s_Text_skipBlanks s_Text_sortAt s_Text_tokenEnd) k_Tokens_scan J K n) K 60 L S M := by rfl
set_option maxRecDepth 20000 in
theorem r_Tokens_scan_61 {s_Text_skipBlanks : aS} {s_Text_sortAt : aS} {s_Text_tokenEnd : aS} {J : aJ} {K : aR} {n : Nat} {L : aL} {S : List Value} {M : aM} : am_run (c_Tokens_scan s_Text_skipBlanks s_Text_sortAt s_Text_tokenEnd) k_Tokens_scan J K (n + 1) 61 L S M = ai_getf 3 1 64 (am_run (c_Tokens_scan s_Text_skipBlanks s_Text_sortAt s_Text_tokenEnd) k_Tokens_scan J K n) K 61 L S M := by rfl
set_option maxRecDepth 20000 in
theorem r_Tokens_scan_64 {s_Text_skipBlanks : aS} {s_Text_sortAt : aS} {s_Text_tokenEnd : aS} {J : aJ} {K : aR} {n : Nat} {L : aL} {S : List Value} {M : aM} : am_run (c_Tokens_scan s_Text_skipBlanks s_Text_sortAt s_Text_tokenEnd) k_Tokens_scan J K (n + 1) 64 L S M = ai_iload 3 65 (am_run (c_Tokens_scan s_Text_skipBlanks s_Text_sortAt s_Text_tokenEnd) k_Tokens_scan J K n) K 64 L S M := by rfl
set_option maxRecDepth 20000 in
theorem r_Tokens_scan_65 {s_Text_skipBlanks : aS} {s_Text_sortAt : aS} {s_Text_tokenEnd : aS} {J : aJ} {K : aR} {n : Nat} {L : aL} {S : List Value} {M : aM} : am_run (c_Tokens_scan s_Text_skipBlanks s_Text_sortAt s_Text_tokenEnd) k_Tokens_scan J K (n + 1) 65 L S M = ai_iload 4 67 (am_run (c_Tokens_scan s_Text_skipBlanks s_Text_sortAt s_Text_tokenEnd) k_Tokens_scan J K n) K 65 L S M := by rfl
set_option maxRecDepth 20000 in
theorem r_Tokens_scan_67 {s_Text_skipBlanks : aS} {s_Text_sortAt : aS} {s_Text_tokenEnd : aS} {J : aJ} {K : aR} {n : Nat} {L : aL} {S : List Value} {M : aM} : am_run (c_Tokens_scan s_Text_skipBlanks s_Text_sortAt s_Text_tokenEnd) k_Tokens_scan J K (n + 1) 67 L S M = ai_iast 68 (am_run (c_Tokens_scan s_Text_skipBlanks s_Text_sortAt s_Text_tokenEnd) k_Tokens_scan J K n) K 67 L S M := by rfl
set_option maxRecDepth 20000 in
theorem r_Tokens_scan_68 {s_Text_skipBlanks : aS} {s_Text_sortAt : aS} {s_Text_tokenEnd : aS} {J : aJ} {K : aR} {n : Nat} {L : aL} {S : List Value} {M : aM} : am_run (c_Tokens_scan s_Text_skipBlanks s_Text_sortAt s_Text_tokenEnd) k_Tokens_scan J K (n + 1) 68 L S M = ai_aload 0 69 (am_run (c_Tokens_scan s_Text_skipBlanks s_Text_sortAt s_Text_tokenEnd) k_Tokens_scan J K n) K 68 L S M := by rfl
set_option maxRecDepth 20000 in
theorem r_Tokens_scan_69 {s_Text_skipBlanks : aS} {s_Text_sortAt : aS} {s_Text_tokenEnd : aS} {J : aJ} {K : aR} {n : Nat} {L : aL} {S : List Value} {M : aM} : am_run (c_Tokens_scan s_Text_skipBlanks s_Text_sortAt s_Text_tokenEnd) k_Tokens_scan J K (n + 1) 69 L S M = ai_getf 3 2 72 (am_run (c_Tokens_scan s_Text_skipBlanks s_Text_sortAt s_Text_tokenEnd) k_Tokens_scan J K n) K 69 L S M := by rfl
set_option maxRecDepth 20000 in
theorem r_Tokens_scan_72 {s_Text_skipBlanks : aS} {s_Text_sortAt : aS} {s_Text_tokenEnd : aS} {J : aJ} {K : aR} {n : Nat} {L : aL} {S : List Value} {M : aM} : am_run (c_Tokens_scan s_Text_skipBlanks s_Text_sortAt s_Text_tokenEnd) k_Tokens_scan J K (n + 1) 72 L S M = ai_iload 3 73 (am_run (c_Tokens_scan s_Text_skipBlanks s_Text_sortAt s_Text_tokenEnd) k_Tokens_scan J K n) K 72 L S M := by rfl
set_option maxRecDepth 20000 in
theorem r_Tokens_scan_73 {s_Text_skipBlanks : aS} {s_Text_sortAt : aS} {s_Text_tokenEnd : aS} {J : aJ} {K : aR} {n : Nat} {L : aL} {S : List Value} {M : aM} : am_run (c_Tokens_scan s_Text_skipBlanks s_Text_sortAt s_Text_tokenEnd) k_Tokens_scan J K (n + 1) 73 L S M = ai_iload 6 75 (am_run (c_Tokens_scan s_Text_skipBlanks s_Text_sortAt s_Text_tokenEnd) k_Tokens_scan J K n) K 73 L S M := by rfl
set_option maxRecDepth 20000 in
theorem r_Tokens_scan_75 {s_Text_skipBlanks : aS} {s_Text_sortAt : aS} {s_Text_tokenEnd : aS} {J : aJ} {K : aR} {n : Nat} {L : aL} {S : List Value} {M : aM} : am_run (c_Tokens_scan s_Text_skipBlanks s_Text_sortAt s_Text_tokenEnd) k_Tokens_scan J K (n + 1) 75 L S M = ai_iast 76 (am_run (c_Tokens_scan s_Text_skipBlanks s_Text_sortAt s_Text_tokenEnd) k_Tokens_scan J K n) K 75 L S M := by rfl
set_option maxRecDepth 20000 in
theorem r_Tokens_scan_76 {s_Text_skipBlanks : aS} {s_Text_sortAt : aS} {s_Text_tokenEnd : aS} {J : aJ} {K : aR} {n : Nat} {L : aL} {S : List Value} {M : aM} : am_run (c_Tokens_scan s_Text_skipBlanks s_Text_sortAt s_Text_tokenEnd) k_Tokens_scan J K (n + 1) 76 L S M = ai_aload 0 77 (am_run (c_Tokens_scan s_Text_skipBlanks s_Text_sortAt s_Text_tokenEnd) k_Tokens_scan J K n) K 76 L S M := by rfl
set_option maxRecDepth 20000 in
theorem r_Tokens_scan_77 {s_Text_skipBlanks : aS} {s_Text_sortAt : aS} {s_Text_tokenEnd : aS} {J : aJ} {K : aR} {n : Nat} {L : aL} {S : List Value} {M : aM} : am_run (c_Tokens_scan s_Text_skipBlanks s_Text_sortAt s_Text_tokenEnd) k_Tokens_scan J K (n + 1) 77 L S M = ai_iload 3 78 (am_run (c_Tokens_scan s_Text_skipBlanks s_Text_sortAt s_Text_tokenEnd) k_Tokens_scan J K n) K 77 L S M := by rfl
set_option maxRecDepth 20000 in
theorem r_Tokens_scan_78 {s_Text_skipBlanks : aS} {s_Text_sortAt : aS} {s_Text_tokenEnd : aS} {J : aJ} {K : aR} {n : Nat} {L : aL} {S : List Value} {M : aM} : am_run (c_Tokens_scan s_Text_skipBlanks s_Text_sortAt s_Text_tokenEnd) k_Tokens_scan J K (n + 1) 78 L S M = ai_const 1 79 (am_run (c_Tokens_scan s_Text_skipBlanks s_Text_sortAt s_Text_tokenEnd) k_Tokens_scan J K n) K 78 L S M := by rfl
set_option maxRecDepth 20000 in
theorem r_Tokens_scan_79 {s_Text_skipBlanks : aS} {s_Text_sortAt : aS} {s_Text_tokenEnd : aS} {J : aJ} {K : aR} {n : Nat} {L : aL} {S : List Value} {M : aM} : am_run (c_Tokens_scan s_Text_skipBlanks s_Text_sortAt s_Text_tokenEnd) k_Tokens_scan J K (n + 1) 79 L S M = ai_iadd 80 (am_run (c_Tokens_scan s_Text_skipBlanks s_Text_sortAt s_Text_tokenEnd) k_Tokens_scan J K n) K 79 L S M := by rfl
set_option maxRecDepth 20000 in
theorem r_Tokens_scan_80 {s_Text_skipBlanks : aS} {s_Text_sortAt : aS} {s_Text_tokenEnd : aS} {J : aJ} {K : aR} {n : Nat} {L : aL} {S : List Value} {M : aM} : am_run (c_Tokens_scan s_Text_skipBlanks s_Text_sortAt s_Text_tokenEnd) k_Tokens_scan J K (n + 1) 80 L S M = ai_putf 3 3 83 (am_run (c_Tokens_scan s_Text_skipBlanks s_Text_sortAt s_Text_tokenEnd) k_Tokens_scan J K n) K 80 L S M := by rfl
set_option maxRecDepth 20000 in
theorem r_Tokens_scan_83 {s_Text_skipBlanks : aS} {s_Text_sortAt : aS} {s_Text_tokenEnd : aS} {J : aJ} {K : aR} {n : Nat} {L : aL} {S : List Value} {M : aM} : am_run (c_Tokens_scan s_Text_skipBlanks s_Text_sortAt s_Text_tokenEnd) k_Tokens_scan J K (n + 1) 83 L S M = ai_iload 6 85 (am_run (c_Tokens_scan s_Text_skipBlanks s_Text_sortAt s_Text_tokenEnd) k_Tokens_scan J K n) K 83 L S M := by rfl
set_option maxRecDepth 20000 in
theorem r_Tokens_scan_85 {s_Text_skipBlanks : aS} {s_Text_sortAt : aS} {s_Text_tokenEnd : aS} {J : aJ} {K : aR} {n : Nat} {L : aL} {S : List Value} {M : aM} : am_run (c_Tokens_scan s_Text_skipBlanks s_Text_sortAt s_Text_tokenEnd) k_Tokens_scan J K (n + 1) 85 L S M = ai_const (-1) 86 (am_run (c_Tokens_scan s_Text_skipBlanks s_Text_sortAt s_Text_tokenEnd) k_Tokens_scan J K n) K 85 L S M := by rfl
set_option maxRecDepth 20000 in
theorem r_Tokens_scan_86 {s_Text_skipBlanks : aS} {s_Text_sortAt : aS} {s_Text_tokenEnd : aS} {J : aJ} {K : aR} {n : Nat} {L : aL} {S : List Value} {M : aM} : am_run (c_Tokens_scan s_Text_skipBlanks s_Text_sortAt s_Text_tokenEnd) k_Tokens_scan J K (n + 1) 86 L S M = ai_cmpeq 96 89 (am_run (c_Tokens_scan s_Text_skipBlanks s_Text_sortAt s_Text_tokenEnd) k_Tokens_scan J K n) K 86 L S M := by rfl
set_option maxRecDepth 20000 in
theorem r_Tokens_scan_89 {s_Text_skipBlanks : aS} {s_Text_sortAt : aS} {s_Text_tokenEnd : aS} {J : aJ} {K : aR} {n : Nat} {L : aL} {S : List Value} {M : aM} : am_run (c_Tokens_scan s_Text_skipBlanks s_Text_sortAt s_Text_tokenEnd) k_Tokens_scan J K (n + 1) 89 L S M = ai_iload 5 91 (am_run (c_Tokens_scan s_Text_skipBlanks s_Text_sortAt s_Text_tokenEnd) k_Tokens_scan J K n) K 89 L S M := by rfl
set_option maxRecDepth 20000 in
theorem r_Tokens_scan_91 {s_Text_skipBlanks : aS} {s_Text_sortAt : aS} {s_Text_tokenEnd : aS} {J : aJ} {K : aR} {n : Nat} {L : aL} {S : List Value} {M : aM} : am_run (c_Tokens_scan s_Text_skipBlanks s_Text_sortAt s_Text_tokenEnd) k_Tokens_scan J K (n + 1) 91 L S M = ai_const 10 93 (am_run (c_Tokens_scan s_Text_skipBlanks s_Text_sortAt s_Text_tokenEnd) k_Tokens_scan J K n) K 91 L S M := by rfl
set_option maxRecDepth 20000 in
theorem r_Tokens_scan_93 {s_Text_skipBlanks : aS} {s_Text_sortAt : aS} {s_Text_tokenEnd : aS} {J : aJ} {K : aR} {n : Nat} {L : aL} {S : List Value} {M : aM} : am_run (c_Tokens_scan s_Text_skipBlanks s_Text_sortAt s_Text_tokenEnd) k_Tokens_scan J K (n + 1) 93 L S M = ai_cmpne 97 96 (am_run (c_Tokens_scan s_Text_skipBlanks s_Text_sortAt s_Text_tokenEnd) k_Tokens_scan J K n) K 93 L S M := by rfl
set_option maxRecDepth 20000 in
theorem r_Tokens_scan_96 {s_Text_skipBlanks : aS} {s_Text_sortAt : aS} {s_Text_tokenEnd : aS} {J : aJ} {K : aR} {n : Nat} {L : aL} {S : List Value} {M : aM} : am_run (c_Tokens_scan s_Text_skipBlanks s_Text_sortAt s_Text_tokenEnd) k_Tokens_scan J K (n + 1) 96 L S M = ai_vret (am_run (c_Tokens_scan s_Text_skipBlanks s_Text_sortAt s_Text_tokenEnd) k_Tokens_scan J K n) K 96 L S M := by rfl
set_option maxRecDepth 20000 in
theorem r_Tokens_scan_97 {s_Text_skipBlanks : aS} {s_Text_sortAt : aS} {s_Text_tokenEnd : aS} {J : aJ} {K : aR} {n : Nat} {L : aL} {S : List Value} {M : aM} : am_run (c_Tokens_scan s_Text_skipBlanks s_Text_sortAt s_Text_tokenEnd) k_Tokens_scan J K (n + 1) 97 L S M = ai_iload 6 99 (am_run (c_Tokens_scan s_Text_skipBlanks s_Text_sortAt s_Text_tokenEnd) k_Tokens_scan J K n) K 97 L S M := by rfl
set_option maxRecDepth 20000 in
theorem r_Tokens_scan_99 {s_Text_skipBlanks : aS} {s_Text_sortAt : aS} {s_Text_tokenEnd : aS} {J : aJ} {K : aR} {n : Nat} {L : aL} {S : List Value} {M : aM} : am_run (c_Tokens_scan s_Text_skipBlanks s_Text_sortAt s_Text_tokenEnd) k_Tokens_scan J K (n + 1) 99 L S M = ai_istore 2 100 (am_run (c_Tokens_scan s_Text_skipBlanks s_Text_sortAt s_Text_tokenEnd) k_Tokens_scan J K n) K 99 L S M := by rfl
set_option maxRecDepth 20000 in
theorem r_Tokens_scan_100 {s_Text_skipBlanks : aS} {s_Text_sortAt : aS} {s_Text_tokenEnd : aS} {J : aJ} {K : aR} {n : Nat} {L : aL} {S : List Value} {M : aM} : am_run (c_Tokens_scan s_Text_skipBlanks s_Text_sortAt s_Text_tokenEnd) k_Tokens_scan J K (n + 1) 100 L S M = ai_iinc 3 1 103 (am_run (c_Tokens_scan s_Text_skipBlanks s_Text_sortAt s_Text_tokenEnd) k_Tokens_scan J K n) K 100 L S M := by rfl
set_option maxRecDepth 20000 in
theorem r_Tokens_scan_103 {s_Text_skipBlanks : aS} {s_Text_sortAt : aS} {s_Text_tokenEnd : aS} {J : aJ} {K : aR} {n : Nat} {L : aL} {S : List Value} {M : aM} : am_run (c_Tokens_scan s_Text_skipBlanks s_Text_sortAt s_Text_tokenEnd) k_Tokens_scan J K (n + 1) 103 L S M = ai_goto 9 (am_run (c_Tokens_scan s_Text_skipBlanks s_Text_sortAt s_Text_tokenEnd) k_Tokens_scan J K n) K 103 L S M := by rfl
set_option maxRecDepth 20000 in
theorem r_Tokens_scan_106 {s_Text_skipBlanks : aS} {s_Text_sortAt : aS} {s_Text_tokenEnd : aS} {J : aJ} {K : aR} {n : Nat} {L : aL} {S : List Value} {M : aM} : am_run (c_Tokens_scan s_Text_skipBlanks s_Text_sortAt s_Text_tokenEnd) k_Tokens_scan J K (n + 1) 106 L S M = ai_vret (am_run (c_Tokens_scan s_Text_skipBlanks s_Text_sortAt s_Text_tokenEnd) k_Tokens_scan J K n) K 106 L S M := by rfl
def c_Tokens_sortOf : List (Nat × aI) := [
  (0, ai_iload 1 1),
  (1, ai_iflt 30 4),
  (4, ai_iload 1 5),
  (5, ai_aload 0 6),
  (6, ai_getf 3 3 9),
  (9, ai_cmpge 30 12),
  (12, ai_iload 1 13),
  (13, ai_aload 0 14),
  (14, ai_getf 3 0 17),
  (17, ai_alen 18),
  (18, ai_cmpge 30 21),
  (21, ai_aload 0 22),
  (22, ai_getf 3 0 25),
  (25, ai_iload 1 26),
  (26, ai_iald 27),
  (27, ai_goto 32),
  (30, ai_const 11 32),
  (32, ai_iret)]
set_option maxRecDepth 100000 in
set_option maxHeartbeats 4000000 in
theorem tb_Tokens_sortOf {G : aG} {d : Nat} : am_tab G Y_Tokens_sortOf d (c_Tokens_sortOf) := by
  intro K p e s m args below meth c C
  exact ⟨as_iload_n C (pc := 0) (q := 1) (by decide +kernel) rfl rfl,
    as_iflt C (pc := 1) (off := 29) (by decide +kernel) (by decide) rfl,
    as_iload_n C (pc := 4) (q := 1) (by decide +kernel) rfl rfl,
    as_aload_n C (pc := 5) (q := 0) (by decide +kernel) rfl rfl,
    as_getf C (pc := 6) (T := T_Tokens) (N := 4) rfl in_Tokens (by decide) rfl w_166 (by decide +kernel) rfl,
    as_cmpge C (pc := 9) (off := 21) (by decide +kernel) (by decide) rfl,
    as_iload_n C (pc := 12) (q := 1) (by decide +kernel) rfl rfl,
    as_aload_n C (pc := 13) (q := 0) (by decide +kernel) rfl rfl,
    as_getf C (pc := 14) (T := T_Tokens) (N := 4) rfl in_Tokens (by decide) rfl w_163 (by decide +kernel) rfl,
    as_alen C (pc := 17) (by decide +kernel) rfl,
    as_cmpge C (pc := 18) (off := 12) (by decide +kernel) (by decide) rfl,
    as_aload_n C (pc := 21) (q := 0) (by decide +kernel) rfl rfl,
    as_getf C (pc := 22) (T := T_Tokens) (N := 4) rfl in_Tokens (by decide) rfl w_163 (by decide +kernel) rfl,
    as_iload_n C (pc := 25) (q := 1) (by decide +kernel) rfl rfl,
    as_iald C (pc := 26) (by decide +kernel) rfl,
    as_goto C (pc := 27) (off := 5) (by decide +kernel) (by decide),
    as_bipush C (pc := 30) (n := 11) (by decide +kernel) (by decide +kernel) rfl,
    as_iret C (pc := 32) rfl (by decide +kernel), trivial⟩
abbrev k_Tokens_sortOf : List Nat := []
theorem r_Tokens_sortOf_0 {J : aJ} {K : aR} {n : Nat} {L : aL} {S : List Value} {M : aM} : am_run (c_Tokens_sortOf) k_Tokens_sortOf J K (n + 1) 0 L S M = ai_iload 1 1 (am_run (c_Tokens_sortOf) k_Tokens_sortOf J K n) K 0 L S M := by rfl
theorem r_Tokens_sortOf_1 {J : aJ} {K : aR} {n : Nat} {L : aL} {S : List Value} {M : aM} : am_run (c_Tokens_sortOf) k_Tokens_sortOf J K (n + 1) 1 L S M = ai_iflt 30 4 (am_run (c_Tokens_sortOf) k_Tokens_sortOf J K n) K 1 L S M := by rfl
theorem r_Tokens_sortOf_4 {J : aJ} {K : aR} {n : Nat} {L : aL} {S : List Value} {M : aM} : am_run (c_Tokens_sortOf) k_Tokens_sortOf J K (n + 1) 4 L S M = ai_iload 1 5 (am_run (c_Tokens_sortOf) k_Tokens_sortOf J K n) K 4 L S M := by rfl
theorem r_Tokens_sortOf_5 {J : aJ} {K : aR} {n : Nat} {L : aL} {S : List Value} {M : aM} : am_run (c_Tokens_sortOf) k_Tokens_sortOf J K (n + 1) 5 L S M = ai_aload 0 6 (am_run (c_Tokens_sortOf) k_Tokens_sortOf J K n) K 5 L S M := by rfl
theorem r_Tokens_sortOf_6 {J : aJ} {K : aR} {n : Nat} {L : aL} {S : List Value} {M : aM} : am_run (c_Tokens_sortOf) k_Tokens_sortOf J K (n + 1) 6 L S M = ai_getf 3 3 9 (am_run (c_Tokens_sortOf) k_Tokens_sortOf J K n) K 6 L S M := by rfl
theorem r_Tokens_sortOf_9 {J : aJ} {K : aR} {n : Nat} {L : aL} {S : List Value} {M : aM} : am_run (c_Tokens_sortOf) k_Tokens_sortOf J K (n + 1) 9 L S M = ai_cmpge 30 12 (am_run (c_Tokens_sortOf) k_Tokens_sortOf J K n) K 9 L S M := by rfl
theorem r_Tokens_sortOf_12 {J : aJ} {K : aR} {n : Nat} {L : aL} {S : List Value} {M : aM} : am_run (c_Tokens_sortOf) k_Tokens_sortOf J K (n + 1) 12 L S M = ai_iload 1 13 (am_run (c_Tokens_sortOf) k_Tokens_sortOf J K n) K 12 L S M := by rfl
theorem r_Tokens_sortOf_13 {J : aJ} {K : aR} {n : Nat} {L : aL} {S : List Value} {M : aM} : am_run (c_Tokens_sortOf) k_Tokens_sortOf J K (n + 1) 13 L S M = ai_aload 0 14 (am_run (c_Tokens_sortOf) k_Tokens_sortOf J K n) K 13 L S M := by rfl
theorem r_Tokens_sortOf_14 {J : aJ} {K : aR} {n : Nat} {L : aL} {S : List Value} {M : aM} : am_run (c_Tokens_sortOf) k_Tokens_sortOf J K (n + 1) 14 L S M = ai_getf 3 0 17 (am_run (c_Tokens_sortOf) k_Tokens_sortOf J K n) K 14 L S M := by rfl
theorem r_Tokens_sortOf_17 {J : aJ} {K : aR} {n : Nat} {L : aL} {S : List Value} {M : aM} : am_run (c_Tokens_sortOf) k_Tokens_sortOf J K (n + 1) 17 L S M = ai_alen 18 (am_run (c_Tokens_sortOf) k_Tokens_sortOf J K n) K 17 L S M := by rfl
theorem r_Tokens_sortOf_18 {J : aJ} {K : aR} {n : Nat} {L : aL} {S : List Value} {M : aM} : am_run (c_Tokens_sortOf) k_Tokens_sortOf J K (n + 1) 18 L S M = ai_cmpge 30 21 (am_run (c_Tokens_sortOf) k_Tokens_sortOf J K n) K 18 L S M := by rfl
theorem r_Tokens_sortOf_21 {J : aJ} {K : aR} {n : Nat} {L : aL} {S : List Value} {M : aM} : am_run (c_Tokens_sortOf) k_Tokens_sortOf J K (n + 1) 21 L S M = ai_aload 0 22 (am_run (c_Tokens_sortOf) k_Tokens_sortOf J K n) K 21 L S M := by rfl
theorem r_Tokens_sortOf_22 {J : aJ} {K : aR} {n : Nat} {L : aL} {S : List Value} {M : aM} : am_run (c_Tokens_sortOf) k_Tokens_sortOf J K (n + 1) 22 L S M = ai_getf 3 0 25 (am_run (c_Tokens_sortOf) k_Tokens_sortOf J K n) K 22 L S M := by rfl
theorem r_Tokens_sortOf_25 {J : aJ} {K : aR} {n : Nat} {L : aL} {S : List Value} {M : aM} : am_run (c_Tokens_sortOf) k_Tokens_sortOf J K (n + 1) 25 L S M = ai_iload 1 26 (am_run (c_Tokens_sortOf) k_Tokens_sortOf J K n) K 25 L S M := by rfl
theorem r_Tokens_sortOf_26 {J : aJ} {K : aR} {n : Nat} {L : aL} {S : List Value} {M : aM} : am_run (c_Tokens_sortOf) k_Tokens_sortOf J K (n + 1) 26 L S M = ai_iald 27 (am_run (c_Tokens_sortOf) k_Tokens_sortOf J K n) K 26 L S M := by rfl
theorem r_Tokens_sortOf_27 {J : aJ} {K : aR} {n : Nat} {L : aL} {S : List Value} {M : aM} : am_run (c_Tokens_sortOf) k_Tokens_sortOf J K (n + 1) 27 L S M = ai_goto 32 (am_run (c_Tokens_sortOf) k_Tokens_sortOf J K n) K 27 L S M := by rfl
theorem r_Tokens_sortOf_30 {J : aJ} {K : aR} {n : Nat} {L : aL} {S : List Value} {M : aM} : am_run (c_Tokens_sortOf) k_Tokens_sortOf J K (n + 1) 30 L S M = ai_const 11 32 (am_run (c_Tokens_sortOf) k_Tokens_sortOf J K n) K 30 L S M := by rfl
theorem r_Tokens_sortOf_32 {J : aJ} {K : aR} {n : Nat} {L : aL} {S : List Value} {M : aM} : am_run (c_Tokens_sortOf) k_Tokens_sortOf J K (n + 1) 32 L S M = ai_iret (am_run (c_Tokens_sortOf) k_Tokens_sortOf J K n) K 32 L S M := by rfl
def c_Tokens_startOf : List (Nat × aI) := [
  (0, ai_iload 1 1),
  (1, ai_iflt 30 4),
  (4, ai_iload 1 5),
  (5, ai_aload 0 6),
  (6, ai_getf 3 3 9),
  (9, ai_cmpge 30 12),
  (12, ai_iload 1 13),
  (13, ai_aload 0 14),
  (14, ai_getf 3 1 17),
  (17, ai_alen 18),
  (18, ai_cmpge 30 21),
  (21, ai_aload 0 22),
  (22, ai_getf 3 1 25),
  (25, ai_iload 1 26),
  (26, ai_iald 27),
  (27, ai_goto 31),
  (30, ai_const (-1) 31),
  (31, ai_iret)]
set_option maxRecDepth 100000 in
set_option maxHeartbeats 4000000 in
theorem tb_Tokens_startOf {G : aG} {d : Nat} : am_tab G Y_Tokens_startOf d (c_Tokens_startOf) := by
  intro K p e s m args below meth c C
  exact ⟨as_iload_n C (pc := 0) (q := 1) (by decide +kernel) rfl rfl,
    as_iflt C (pc := 1) (off := 29) (by decide +kernel) (by decide) rfl,
    as_iload_n C (pc := 4) (q := 1) (by decide +kernel) rfl rfl,
    as_aload_n C (pc := 5) (q := 0) (by decide +kernel) rfl rfl,
    as_getf C (pc := 6) (T := T_Tokens) (N := 4) rfl in_Tokens (by decide) rfl w_166 (by decide +kernel) rfl,
    as_cmpge C (pc := 9) (off := 21) (by decide +kernel) (by decide) rfl,
    as_iload_n C (pc := 12) (q := 1) (by decide +kernel) rfl rfl,
    as_aload_n C (pc := 13) (q := 0) (by decide +kernel) rfl rfl,
    as_getf C (pc := 14) (T := T_Tokens) (N := 4) rfl in_Tokens (by decide) rfl w_164 (by decide +kernel) rfl,
    as_alen C (pc := 17) (by decide +kernel) rfl,
    as_cmpge C (pc := 18) (off := 12) (by decide +kernel) (by decide) rfl,
    as_aload_n C (pc := 21) (q := 0) (by decide +kernel) rfl rfl,
    as_getf C (pc := 22) (T := T_Tokens) (N := 4) rfl in_Tokens (by decide) rfl w_164 (by decide +kernel) rfl,
    as_iload_n C (pc := 25) (q := 1) (by decide +kernel) rfl rfl,
    as_iald C (pc := 26) (by decide +kernel) rfl,
    as_goto C (pc := 27) (off := 4) (by decide +kernel) (by decide),
    as_iconst C (pc := 30) (n := (-1)) (by decide +kernel) (by decide +kernel) rfl,
    as_iret C (pc := 31) rfl (by decide +kernel), trivial⟩
abbrev k_Tokens_startOf : List Nat := []
theorem r_Tokens_startOf_0 {J : aJ} {K : aR} {n : Nat} {L : aL} {S : List Value} {M : aM} : am_run (c_Tokens_startOf) k_Tokens_startOf J K (n + 1) 0 L S M = ai_iload 1 1 (am_run (c_Tokens_startOf) k_Tokens_startOf J K n) K 0 L S M := by rfl
theorem r_Tokens_startOf_1 {J : aJ} {K : aR} {n : Nat} {L : aL} {S : List Value} {M : aM} : am_run (c_Tokens_startOf) k_Tokens_startOf J K (n + 1) 1 L S M = ai_iflt 30 4 (am_run (c_Tokens_startOf) k_Tokens_startOf J K n) K 1 L S M := by rfl
theorem r_Tokens_startOf_4 {J : aJ} {K : aR} {n : Nat} {L : aL} {S : List Value} {M : aM} : am_run (c_Tokens_startOf) k_Tokens_startOf J K (n + 1) 4 L S M = ai_iload 1 5 (am_run (c_Tokens_startOf) k_Tokens_startOf J K n) K 4 L S M := by rfl
theorem r_Tokens_startOf_5 {J : aJ} {K : aR} {n : Nat} {L : aL} {S : List Value} {M : aM} : am_run (c_Tokens_startOf) k_Tokens_startOf J K (n + 1) 5 L S M = ai_aload 0 6 (am_run (c_Tokens_startOf) k_Tokens_startOf J K n) K 5 L S M := by rfl
theorem r_Tokens_startOf_6 {J : aJ} {K : aR} {n : Nat} {L : aL} {S : List Value} {M : aM} : am_run (c_Tokens_startOf) k_Tokens_startOf J K (n + 1) 6 L S M = ai_getf 3 3 9 (am_run (c_Tokens_startOf) k_Tokens_startOf J K n) K 6 L S M := by rfl
theorem r_Tokens_startOf_9 {J : aJ} {K : aR} {n : Nat} {L : aL} {S : List Value} {M : aM} : am_run (c_Tokens_startOf) k_Tokens_startOf J K (n + 1) 9 L S M = ai_cmpge 30 12 (am_run (c_Tokens_startOf) k_Tokens_startOf J K n) K 9 L S M := by rfl
theorem r_Tokens_startOf_12 {J : aJ} {K : aR} {n : Nat} {L : aL} {S : List Value} {M : aM} : am_run (c_Tokens_startOf) k_Tokens_startOf J K (n + 1) 12 L S M = ai_iload 1 13 (am_run (c_Tokens_startOf) k_Tokens_startOf J K n) K 12 L S M := by rfl
theorem r_Tokens_startOf_13 {J : aJ} {K : aR} {n : Nat} {L : aL} {S : List Value} {M : aM} : am_run (c_Tokens_startOf) k_Tokens_startOf J K (n + 1) 13 L S M = ai_aload 0 14 (am_run (c_Tokens_startOf) k_Tokens_startOf J K n) K 13 L S M := by rfl
theorem r_Tokens_startOf_14 {J : aJ} {K : aR} {n : Nat} {L : aL} {S : List Value} {M : aM} : am_run (c_Tokens_startOf) k_Tokens_startOf J K (n + 1) 14 L S M = ai_getf 3 1 17 (am_run (c_Tokens_startOf) k_Tokens_startOf J K n) K 14 L S M := by rfl
theorem r_Tokens_startOf_17 {J : aJ} {K : aR} {n : Nat} {L : aL} {S : List Value} {M : aM} : am_run (c_Tokens_startOf) k_Tokens_startOf J K (n + 1) 17 L S M = ai_alen 18 (am_run (c_Tokens_startOf) k_Tokens_startOf J K n) K 17 L S M := by rfl
theorem r_Tokens_startOf_18 {J : aJ} {K : aR} {n : Nat} {L : aL} {S : List Value} {M : aM} : am_run (c_Tokens_startOf) k_Tokens_startOf J K (n + 1) 18 L S M = ai_cmpge 30 21 (am_run (c_Tokens_startOf) k_Tokens_startOf J K n) K 18 L S M := by rfl
theorem r_Tokens_startOf_21 {J : aJ} {K : aR} {n : Nat} {L : aL} {S : List Value} {M : aM} : am_run (c_Tokens_startOf) k_Tokens_startOf J K (n + 1) 21 L S M = ai_aload 0 22 (am_run (c_Tokens_startOf) k_Tokens_startOf J K n) K 21 L S M := by rfl
theorem r_Tokens_startOf_22 {J : aJ} {K : aR} {n : Nat} {L : aL} {S : List Value} {M : aM} : am_run (c_Tokens_startOf) k_Tokens_startOf J K (n + 1) 22 L S M = ai_getf 3 1 25 (am_run (c_Tokens_startOf) k_Tokens_startOf J K n) K 22 L S M := by rfl
theorem r_Tokens_startOf_25 {J : aJ} {K : aR} {n : Nat} {L : aL} {S : List Value} {M : aM} : am_run (c_Tokens_startOf) k_Tokens_startOf J K (n + 1) 25 L S M = ai_iload 1 26 (am_run (c_Tokens_startOf) k_Tokens_startOf J K n) K 25 L S M := by rfl
theorem r_Tokens_startOf_26 {J : aJ} {K : aR} {n : Nat} {L : aL} {S : List Value} {M : aM} : am_run (c_Tokens_startOf) k_Tokens_startOf J K (n + 1) 26 L S M = ai_iald 27 (am_run (c_Tokens_startOf) k_Tokens_startOf J K n) K 26 L S M := by rfl
theorem r_Tokens_startOf_27 {J : aJ} {K : aR} {n : Nat} {L : aL} {S : List Value} {M : aM} : am_run (c_Tokens_startOf) k_Tokens_startOf J K (n + 1) 27 L S M = ai_goto 31 (am_run (c_Tokens_startOf) k_Tokens_startOf J K n) K 27 L S M := by rfl
theorem r_Tokens_startOf_30 {J : aJ} {K : aR} {n : Nat} {L : aL} {S : List Value} {M : aM} : am_run (c_Tokens_startOf) k_Tokens_startOf J K (n + 1) 30 L S M = ai_const (-1) 31 (am_run (c_Tokens_startOf) k_Tokens_startOf J K n) K 30 L S M := by rfl
theorem r_Tokens_startOf_31 {J : aJ} {K : aR} {n : Nat} {L : aL} {S : List Value} {M : aM} : am_run (c_Tokens_startOf) k_Tokens_startOf J K (n + 1) 31 L S M = ai_iret (am_run (c_Tokens_startOf) k_Tokens_startOf J K n) K 31 L S M := by rfl
def c_Tokens_endOf : List (Nat × aI) := [
  (0, ai_iload 1 1),
  (1, ai_iflt 30 4),
  (4, ai_iload 1 5),
  (5, ai_aload 0 6),
  (6, ai_getf 3 3 9),
  (9, ai_cmpge 30 12),
  (12, ai_iload 1 13),
  (13, ai_aload 0 14),
  (14, ai_getf 3 2 17),
  (17, ai_alen 18),
  (18, ai_cmpge 30 21),
  (21, ai_aload 0 22),
  (22, ai_getf 3 2 25),
  (25, ai_iload 1 26),
  (26, ai_iald 27),
  (27, ai_goto 31),
  (30, ai_const (-1) 31),
  (31, ai_iret)]
set_option maxRecDepth 100000 in
set_option maxHeartbeats 4000000 in
theorem tb_Tokens_endOf {G : aG} {d : Nat} : am_tab G Y_Tokens_endOf d (c_Tokens_endOf) := by
  intro K p e s m args below meth c C
  exact ⟨as_iload_n C (pc := 0) (q := 1) (by decide +kernel) rfl rfl,
    as_iflt C (pc := 1) (off := 29) (by decide +kernel) (by decide) rfl,
    as_iload_n C (pc := 4) (q := 1) (by decide +kernel) rfl rfl,
    as_aload_n C (pc := 5) (q := 0) (by decide +kernel) rfl rfl,
    as_getf C (pc := 6) (T := T_Tokens) (N := 4) rfl in_Tokens (by decide) rfl w_166 (by decide +kernel) rfl,
    as_cmpge C (pc := 9) (off := 21) (by decide +kernel) (by decide) rfl,
    as_iload_n C (pc := 12) (q := 1) (by decide +kernel) rfl rfl,
    as_aload_n C (pc := 13) (q := 0) (by decide +kernel) rfl rfl,
    as_getf C (pc := 14) (T := T_Tokens) (N := 4) rfl in_Tokens (by decide) rfl w_165 (by decide +kernel) rfl,
    as_alen C (pc := 17) (by decide +kernel) rfl,
    as_cmpge C (pc := 18) (off := 12) (by decide +kernel) (by decide) rfl,
    as_aload_n C (pc := 21) (q := 0) (by decide +kernel) rfl rfl,
    as_getf C (pc := 22) (T := T_Tokens) (N := 4) rfl in_Tokens (by decide) rfl w_165 (by decide +kernel) rfl,
    as_iload_n C (pc := 25) (q := 1) (by decide +kernel) rfl rfl,
    as_iald C (pc := 26) (by decide +kernel) rfl,
    as_goto C (pc := 27) (off := 4) (by decide +kernel) (by decide),
    as_iconst C (pc := 30) (n := (-1)) (by decide +kernel) (by decide +kernel) rfl,
    as_iret C (pc := 31) rfl (by decide +kernel), trivial⟩
abbrev k_Tokens_endOf : List Nat := []
theorem r_Tokens_endOf_0 {J : aJ} {K : aR} {n : Nat} {L : aL} {S : List Value} {M : aM} : am_run (c_Tokens_endOf) k_Tokens_endOf J K (n + 1) 0 L S M = ai_iload 1 1 (am_run (c_Tokens_endOf) k_Tokens_endOf J K n) K 0 L S M := by rfl
theorem r_Tokens_endOf_1 {J : aJ} {K : aR} {n : Nat} {L : aL} {S : List Value} {M : aM} : am_run (c_Tokens_endOf) k_Tokens_endOf J K (n + 1) 1 L S M = ai_iflt 30 4 (am_run (c_Tokens_endOf) k_Tokens_endOf J K n) K 1 L S M := by rfl
theorem r_Tokens_endOf_4 {J : aJ} {K : aR} {n : Nat} {L : aL} {S : List Value} {M : aM} : am_run (c_Tokens_endOf) k_Tokens_endOf J K (n + 1) 4 L S M = ai_iload 1 5 (am_run (c_Tokens_endOf) k_Tokens_endOf J K n) K 4 L S M := by rfl
theorem r_Tokens_endOf_5 {J : aJ} {K : aR} {n : Nat} {L : aL} {S : List Value} {M : aM} : am_run (c_Tokens_endOf) k_Tokens_endOf J K (n + 1) 5 L S M = ai_aload 0 6 (am_run (c_Tokens_endOf) k_Tokens_endOf J K n) K 5 L S M := by rfl
theorem r_Tokens_endOf_6 {J : aJ} {K : aR} {n : Nat} {L : aL} {S : List Value} {M : aM} : am_run (c_Tokens_endOf) k_Tokens_endOf J K (n + 1) 6 L S M = ai_getf 3 3 9 (am_run (c_Tokens_endOf) k_Tokens_endOf J K n) K 6 L S M := by rfl
theorem r_Tokens_endOf_9 {J : aJ} {K : aR} {n : Nat} {L : aL} {S : List Value} {M : aM} : am_run (c_Tokens_endOf) k_Tokens_endOf J K (n + 1) 9 L S M = ai_cmpge 30 12 (am_run (c_Tokens_endOf) k_Tokens_endOf J K n) K 9 L S M := by rfl
theorem r_Tokens_endOf_12 {J : aJ} {K : aR} {n : Nat} {L : aL} {S : List Value} {M : aM} : am_run (c_Tokens_endOf) k_Tokens_endOf J K (n + 1) 12 L S M = ai_iload 1 13 (am_run (c_Tokens_endOf) k_Tokens_endOf J K n) K 12 L S M := by rfl
theorem r_Tokens_endOf_13 {J : aJ} {K : aR} {n : Nat} {L : aL} {S : List Value} {M : aM} : am_run (c_Tokens_endOf) k_Tokens_endOf J K (n + 1) 13 L S M = ai_aload 0 14 (am_run (c_Tokens_endOf) k_Tokens_endOf J K n) K 13 L S M := by rfl
theorem r_Tokens_endOf_14 {J : aJ} {K : aR} {n : Nat} {L : aL} {S : List Value} {M : aM} : am_run (c_Tokens_endOf) k_Tokens_endOf J K (n + 1) 14 L S M = ai_getf 3 2 17 (am_run (c_Tokens_endOf) k_Tokens_endOf J K n) K 14 L S M := by rfl
theorem r_Tokens_endOf_17 {J : aJ} {K : aR} {n : Nat} {L : aL} {S : List Value} {M : aM} : am_run (c_Tokens_endOf) k_Tokens_endOf J K (n + 1) 17 L S M = ai_alen 18 (am_run (c_Tokens_endOf) k_Tokens_endOf J K n) K 17 L S M := by rfl
theorem r_Tokens_endOf_18 {J : aJ} {K : aR} {n : Nat} {L : aL} {S : List Value} {M : aM} : am_run (c_Tokens_endOf) k_Tokens_endOf J K (n + 1) 18 L S M = ai_cmpge 30 21 (am_run (c_Tokens_endOf) k_Tokens_endOf J K n) K 18 L S M := by rfl
theorem r_Tokens_endOf_21 {J : aJ} {K : aR} {n : Nat} {L : aL} {S : List Value} {M : aM} : am_run (c_Tokens_endOf) k_Tokens_endOf J K (n + 1) 21 L S M = ai_aload 0 22 (am_run (c_Tokens_endOf) k_Tokens_endOf J K n) K 21 L S M := by rfl
theorem r_Tokens_endOf_22 {J : aJ} {K : aR} {n : Nat} {L : aL} {S : List Value} {M : aM} : am_run (c_Tokens_endOf) k_Tokens_endOf J K (n + 1) 22 L S M = ai_getf 3 2 25 (am_run (c_Tokens_endOf) k_Tokens_endOf J K n) K 22 L S M := by rfl
theorem r_Tokens_endOf_25 {J : aJ} {K : aR} {n : Nat} {L : aL} {S : List Value} {M : aM} : am_run (c_Tokens_endOf) k_Tokens_endOf J K (n + 1) 25 L S M = ai_iload 1 26 (am_run (c_Tokens_endOf) k_Tokens_endOf J K n) K 25 L S M := by rfl
theorem r_Tokens_endOf_26 {J : aJ} {K : aR} {n : Nat} {L : aL} {S : List Value} {M : aM} : am_run (c_Tokens_endOf) k_Tokens_endOf J K (n + 1) 26 L S M = ai_iald 27 (am_run (c_Tokens_endOf) k_Tokens_endOf J K n) K 26 L S M := by rfl
theorem r_Tokens_endOf_27 {J : aJ} {K : aR} {n : Nat} {L : aL} {S : List Value} {M : aM} : am_run (c_Tokens_endOf) k_Tokens_endOf J K (n + 1) 27 L S M = ai_goto 31 (am_run (c_Tokens_endOf) k_Tokens_endOf J K n) K 27 L S M := by rfl
theorem r_Tokens_endOf_30 {J : aJ} {K : aR} {n : Nat} {L : aL} {S : List Value} {M : aM} : am_run (c_Tokens_endOf) k_Tokens_endOf J K (n + 1) 30 L S M = ai_const (-1) 31 (am_run (c_Tokens_endOf) k_Tokens_endOf J K n) K 30 L S M := by rfl
theorem r_Tokens_endOf_31 {J : aJ} {K : aR} {n : Nat} {L : aL} {S : List Value} {M : aM} : am_run (c_Tokens_endOf) k_Tokens_endOf J K (n + 1) 31 L S M = ai_iret (am_run (c_Tokens_endOf) k_Tokens_endOf J K n) K 31 L S M := by rfl
end
section
def c_Waiting_append : List (Nat × aI) := [
  (0, ai_aload 0 1),
  (1, ai_getf 4 2 4),
  (4, ai_const 500 7),
  (7, ai_cmplt 11 10),
  (10, ai_vret),
  (11, ai_aload 0 12),
  (12, ai_getf 4 1 15),
  (15, ai_aload 0 16),
  (16, ai_getf 4 2 19),
  (19, ai_iadd 20),
  (20, ai_const 500 23),
  (23, ai_cmpge 38 26),
  (26, ai_aload 0 27),
  (27, ai_getf 4 1 30),
  (30, ai_aload 0 31),
  (31, ai_getf 4 2 34),
  (34, ai_iadd 35),
  (35, ai_goto 51),
  (38, ai_aload 0 39),
  (39, ai_getf 4 1 42),
  (42, ai_aload 0 43),
  (43, ai_getf 4 2 46),
  (46, ai_iadd 47),
  (47, ai_const 500 50),
  (50, ai_isub 51),
  (51, ai_istore 2 52),
  (52, ai_iload 2 53),
  (53, ai_iflt 80 56),
  (56, ai_iload 2 57),
  (57, ai_const 500 60),
  (60, ai_cmpge 80 63),
  (63, ai_aload 0 64),
  (64, ai_getf 4 0 67),
  (67, ai_iload 2 68),
  (68, ai_iload 1 69),
  (69, ai_iast 70),
  (70, ai_aload 0 71),
  (71, ai_dup 72),
  (72, ai_getf 4 2 75),
  (75, ai_const 1 76),
  (76, ai_iadd 77),
  (77, ai_putf 4 2 80),
  (80, ai_vret)]
set_option maxRecDepth 100000 in
set_option maxHeartbeats 4000000 in
theorem tb_Waiting_append {G : aG} {d : Nat} : am_tab G Y_Waiting_append d (c_Waiting_append) := by
  intro K p e s m args below meth c C
  exact ⟨as_aload_n C (pc := 0) (q := 0) (by decide +kernel) rfl rfl,
    as_getf C (pc := 1) (T := T_Waiting) (N := 3) rfl in_Waiting (by decide) rfl w_201 (by decide +kernel) rfl,
    as_sipush C (pc := 4) (n := 500) (by decide +kernel) (by decide +kernel) rfl,
    as_cmplt C (pc := 7) (off := 4) (by decide +kernel) (by decide) rfl,
    as_vret C (pc := 10) rfl (by decide +kernel),
    as_aload_n C (pc := 11) (q := 0) (by decide +kernel) rfl rfl,
    as_getf C (pc := 12) (T := T_Waiting) (N := 3) rfl in_Waiting (by decide) rfl w_200 (by decide +kernel) rfl,
    as_aload_n C (pc := 15) (q := 0) (by decide +kernel) rfl rfl,
    as_getf C (pc := 16) (T := T_Waiting) (N := 3) rfl in_Waiting (by decide) rfl w_201 (by decide +kernel) rfl,
    as_iadd C (pc := 19) (by decide +kernel) rfl,
    as_sipush C (pc := 20) (n := 500) (by decide +kernel) (by decide +kernel) rfl,
    as_cmpge C (pc := 23) (off := 15) (by decide +kernel) (by decide) rfl,
    as_aload_n C (pc := 26) (q := 0) (by decide +kernel) rfl rfl,
    as_getf C (pc := 27) (T := T_Waiting) (N := 3) rfl in_Waiting (by decide) rfl w_200 (by decide +kernel) rfl,
    as_aload_n C (pc := 30) (q := 0) (by decide +kernel) rfl rfl,
    as_getf C (pc := 31) (T := T_Waiting) (N := 3) rfl in_Waiting (by decide) rfl w_201 (by decide +kernel) rfl,
    as_iadd C (pc := 34) (by decide +kernel) rfl,
    as_goto C (pc := 35) (off := 16) (by decide +kernel) (by decide),
    as_aload_n C (pc := 38) (q := 0) (by decide +kernel) rfl rfl,
    as_getf C (pc := 39) (T := T_Waiting) (N := 3) rfl in_Waiting (by decide) rfl w_200 (by decide +kernel) rfl,
    as_aload_n C (pc := 42) (q := 0) (by decide +kernel) rfl rfl,
    as_getf C (pc := 43) (T := T_Waiting) (N := 3) rfl in_Waiting (by decide) rfl w_201 (by decide +kernel) rfl,
    as_iadd C (pc := 46) (by decide +kernel) rfl,
    as_sipush C (pc := 47) (n := 500) (by decide +kernel) (by decide +kernel) rfl,
    as_isub C (pc := 50) (by decide +kernel) rfl,
    as_istore_n C (pc := 51) (q := 2) (by decide +kernel) rfl (by decide) rfl,
    as_iload_n C (pc := 52) (q := 2) (by decide +kernel) rfl rfl,
    as_iflt C (pc := 53) (off := 27) (by decide +kernel) (by decide) rfl,
    as_iload_n C (pc := 56) (q := 2) (by decide +kernel) rfl rfl,
    as_sipush C (pc := 57) (n := 500) (by decide +kernel) (by decide +kernel) rfl,
    as_cmpge C (pc := 60) (off := 20) (by decide +kernel) (by decide) rfl,
    as_aload_n C (pc := 63) (q := 0) (by decide +kernel) rfl rfl,
    as_getf C (pc := 64) (T := T_Waiting) (N := 3) rfl in_Waiting (by decide) rfl w_199 (by decide +kernel) rfl,
    as_iload_n C (pc := 67) (q := 2) (by decide +kernel) rfl rfl,
    as_iload_n C (pc := 68) (q := 1) (by decide +kernel) rfl rfl,
    as_iast C (pc := 69) (by decide +kernel) rfl,
    as_aload_n C (pc := 70) (q := 0) (by decide +kernel) rfl rfl,
    as_dup C (pc := 71) (by decide +kernel) rfl,
    as_getf C (pc := 72) (T := T_Waiting) (N := 3) rfl in_Waiting (by decide) rfl w_201 (by decide +kernel) rfl,
    as_iconst C (pc := 75) (n := 1) (by decide +kernel) (by decide +kernel) rfl,
    as_iadd C (pc := 76) (by decide +kernel) rfl,
    as_putf C (pc := 77) t_Waiting (T := T_Waiting) (N := 3) rfl in_Waiting tok_Waiting nm_Waiting (by decide) rfl rfl (by decide +kernel) w_201 (by decide +kernel) rfl,
    as_vret C (pc := 80) rfl (by decide +kernel), trivial⟩
abbrev k_Waiting_append : List Nat := []
theorem r_Waiting_append_0 {J : aJ} {K : aR} {n : Nat} {L : aL} {S : List Value} {M : aM} : am_run (c_Waiting_append) k_Waiting_append J K (n + 1) 0 L S M = ai_aload 0 1 (am_run (c_Waiting_append) k_Waiting_append J K n) K 0 L S M := by rfl
theorem r_Waiting_append_1 {J : aJ} {K : aR} {n : Nat} {L : aL} {S : List Value} {M : aM} : am_run (c_Waiting_append) k_Waiting_append J K (n + 1) 1 L S M = ai_getf 4 2 4 (am_run (c_Waiting_append) k_Waiting_append J K n) K 1 L S M := by rfl
theorem r_Waiting_append_4 {J : aJ} {K : aR} {n : Nat} {L : aL} {S : List Value} {M : aM} : am_run (c_Waiting_append) k_Waiting_append J K (n + 1) 4 L S M = ai_const 500 7 (am_run (c_Waiting_append) k_Waiting_append J K n) K 4 L S M := by rfl
theorem r_Waiting_append_7 {J : aJ} {K : aR} {n : Nat} {L : aL} {S : List Value} {M : aM} : am_run (c_Waiting_append) k_Waiting_append J K (n + 1) 7 L S M = ai_cmplt 11 10 (am_run (c_Waiting_append) k_Waiting_append J K n) K 7 L S M := by rfl
theorem r_Waiting_append_10 {J : aJ} {K : aR} {n : Nat} {L : aL} {S : List Value} {M : aM} : am_run (c_Waiting_append) k_Waiting_append J K (n + 1) 10 L S M = ai_vret (am_run (c_Waiting_append) k_Waiting_append J K n) K 10 L S M := by rfl
theorem r_Waiting_append_11 {J : aJ} {K : aR} {n : Nat} {L : aL} {S : List Value} {M : aM} : am_run (c_Waiting_append) k_Waiting_append J K (n + 1) 11 L S M = ai_aload 0 12 (am_run (c_Waiting_append) k_Waiting_append J K n) K 11 L S M := by rfl
theorem r_Waiting_append_12 {J : aJ} {K : aR} {n : Nat} {L : aL} {S : List Value} {M : aM} : am_run (c_Waiting_append) k_Waiting_append J K (n + 1) 12 L S M = ai_getf 4 1 15 (am_run (c_Waiting_append) k_Waiting_append J K n) K 12 L S M := by rfl
theorem r_Waiting_append_15 {J : aJ} {K : aR} {n : Nat} {L : aL} {S : List Value} {M : aM} : am_run (c_Waiting_append) k_Waiting_append J K (n + 1) 15 L S M = ai_aload 0 16 (am_run (c_Waiting_append) k_Waiting_append J K n) K 15 L S M := by rfl
theorem r_Waiting_append_16 {J : aJ} {K : aR} {n : Nat} {L : aL} {S : List Value} {M : aM} : am_run (c_Waiting_append) k_Waiting_append J K (n + 1) 16 L S M = ai_getf 4 2 19 (am_run (c_Waiting_append) k_Waiting_append J K n) K 16 L S M := by rfl
theorem r_Waiting_append_19 {J : aJ} {K : aR} {n : Nat} {L : aL} {S : List Value} {M : aM} : am_run (c_Waiting_append) k_Waiting_append J K (n + 1) 19 L S M = ai_iadd 20 (am_run (c_Waiting_append) k_Waiting_append J K n) K 19 L S M := by rfl
theorem r_Waiting_append_20 {J : aJ} {K : aR} {n : Nat} {L : aL} {S : List Value} {M : aM} : am_run (c_Waiting_append) k_Waiting_append J K (n + 1) 20 L S M = ai_const 500 23 (am_run (c_Waiting_append) k_Waiting_append J K n) K 20 L S M := by rfl
theorem r_Waiting_append_23 {J : aJ} {K : aR} {n : Nat} {L : aL} {S : List Value} {M : aM} : am_run (c_Waiting_append) k_Waiting_append J K (n + 1) 23 L S M = ai_cmpge 38 26 (am_run (c_Waiting_append) k_Waiting_append J K n) K 23 L S M := by rfl
theorem r_Waiting_append_26 {J : aJ} {K : aR} {n : Nat} {L : aL} {S : List Value} {M : aM} : am_run (c_Waiting_append) k_Waiting_append J K (n + 1) 26 L S M = ai_aload 0 27 (am_run (c_Waiting_append) k_Waiting_append J K n) K 26 L S M := by rfl
theorem r_Waiting_append_27 {J : aJ} {K : aR} {n : Nat} {L : aL} {S : List Value} {M : aM} : am_run (c_Waiting_append) k_Waiting_append J K (n + 1) 27 L S M = ai_getf 4 1 30 (am_run (c_Waiting_append) k_Waiting_append J K n) K 27 L S M := by rfl
theorem r_Waiting_append_30 {J : aJ} {K : aR} {n : Nat} {L : aL} {S : List Value} {M : aM} : am_run (c_Waiting_append) k_Waiting_append J K (n + 1) 30 L S M = ai_aload 0 31 (am_run (c_Waiting_append) k_Waiting_append J K n) K 30 L S M := by rfl
theorem r_Waiting_append_31 {J : aJ} {K : aR} {n : Nat} {L : aL} {S : List Value} {M : aM} : am_run (c_Waiting_append) k_Waiting_append J K (n + 1) 31 L S M = ai_getf 4 2 34 (am_run (c_Waiting_append) k_Waiting_append J K n) K 31 L S M := by rfl
theorem r_Waiting_append_34 {J : aJ} {K : aR} {n : Nat} {L : aL} {S : List Value} {M : aM} : am_run (c_Waiting_append) k_Waiting_append J K (n + 1) 34 L S M = ai_iadd 35 (am_run (c_Waiting_append) k_Waiting_append J K n) K 34 L S M := by rfl
theorem r_Waiting_append_35 {J : aJ} {K : aR} {n : Nat} {L : aL} {S : List Value} {M : aM} : am_run (c_Waiting_append) k_Waiting_append J K (n + 1) 35 L S M = ai_goto 51 (am_run (c_Waiting_append) k_Waiting_append J K n) K 35 L S M := by rfl
theorem r_Waiting_append_38 {J : aJ} {K : aR} {n : Nat} {L : aL} {S : List Value} {M : aM} : am_run (c_Waiting_append) k_Waiting_append J K (n + 1) 38 L S M = ai_aload 0 39 (am_run (c_Waiting_append) k_Waiting_append J K n) K 38 L S M := by rfl
theorem r_Waiting_append_39 {J : aJ} {K : aR} {n : Nat} {L : aL} {S : List Value} {M : aM} : am_run (c_Waiting_append) k_Waiting_append J K (n + 1) 39 L S M = ai_getf 4 1 42 (am_run (c_Waiting_append) k_Waiting_append J K n) K 39 L S M := by rfl
theorem r_Waiting_append_42 {J : aJ} {K : aR} {n : Nat} {L : aL} {S : List Value} {M : aM} : am_run (c_Waiting_append) k_Waiting_append J K (n + 1) 42 L S M = ai_aload 0 43 (am_run (c_Waiting_append) k_Waiting_append J K n) K 42 L S M := by rfl
theorem r_Waiting_append_43 {J : aJ} {K : aR} {n : Nat} {L : aL} {S : List Value} {M : aM} : am_run (c_Waiting_append) k_Waiting_append J K (n + 1) 43 L S M = ai_getf 4 2 46 (am_run (c_Waiting_append) k_Waiting_append J K n) K 43 L S M := by rfl
theorem r_Waiting_append_46 {J : aJ} {K : aR} {n : Nat} {L : aL} {S : List Value} {M : aM} : am_run (c_Waiting_append) k_Waiting_append J K (n + 1) 46 L S M = ai_iadd 47 (am_run (c_Waiting_append) k_Waiting_append J K n) K 46 L S M := by rfl
theorem r_Waiting_append_47 {J : aJ} {K : aR} {n : Nat} {L : aL} {S : List Value} {M : aM} : am_run (c_Waiting_append) k_Waiting_append J K (n + 1) 47 L S M = ai_const 500 50 (am_run (c_Waiting_append) k_Waiting_append J K n) K 47 L S M := by rfl
theorem r_Waiting_append_50 {J : aJ} {K : aR} {n : Nat} {L : aL} {S : List Value} {M : aM} : am_run (c_Waiting_append) k_Waiting_append J K (n + 1) 50 L S M = ai_isub 51 (am_run (c_Waiting_append) k_Waiting_append J K n) K 50 L S M := by rfl
theorem r_Waiting_append_51 {J : aJ} {K : aR} {n : Nat} {L : aL} {S : List Value} {M : aM} : am_run (c_Waiting_append) k_Waiting_append J K (n + 1) 51 L S M = ai_istore 2 52 (am_run (c_Waiting_append) k_Waiting_append J K n) K 51 L S M := by rfl
theorem r_Waiting_append_52 {J : aJ} {K : aR} {n : Nat} {L : aL} {S : List Value} {M : aM} : am_run (c_Waiting_append) k_Waiting_append J K (n + 1) 52 L S M = ai_iload 2 53 (am_run (c_Waiting_append) k_Waiting_append J K n) K 52 L S M := by rfl
theorem r_Waiting_append_53 {J : aJ} {K : aR} {n : Nat} {L : aL} {S : List Value} {M : aM} : am_run (c_Waiting_append) k_Waiting_append J K (n + 1) 53 L S M = ai_iflt 80 56 (am_run (c_Waiting_append) k_Waiting_append J K n) K 53 L S M := by rfl
theorem r_Waiting_append_56 {J : aJ} {K : aR} {n : Nat} {L : aL} {S : List Value} {M : aM} : am_run (c_Waiting_append) k_Waiting_append J K (n + 1) 56 L S M = ai_iload 2 57 (am_run (c_Waiting_append) k_Waiting_append J K n) K 56 L S M := by rfl
theorem r_Waiting_append_57 {J : aJ} {K : aR} {n : Nat} {L : aL} {S : List Value} {M : aM} : am_run (c_Waiting_append) k_Waiting_append J K (n + 1) 57 L S M = ai_const 500 60 (am_run (c_Waiting_append) k_Waiting_append J K n) K 57 L S M := by rfl
theorem r_Waiting_append_60 {J : aJ} {K : aR} {n : Nat} {L : aL} {S : List Value} {M : aM} : am_run (c_Waiting_append) k_Waiting_append J K (n + 1) 60 L S M = ai_cmpge 80 63 (am_run (c_Waiting_append) k_Waiting_append J K n) K 60 L S M := by rfl
theorem r_Waiting_append_63 {J : aJ} {K : aR} {n : Nat} {L : aL} {S : List Value} {M : aM} : am_run (c_Waiting_append) k_Waiting_append J K (n + 1) 63 L S M = ai_aload 0 64 (am_run (c_Waiting_append) k_Waiting_append J K n) K 63 L S M := by rfl
theorem r_Waiting_append_64 {J : aJ} {K : aR} {n : Nat} {L : aL} {S : List Value} {M : aM} : am_run (c_Waiting_append) k_Waiting_append J K (n + 1) 64 L S M = ai_getf 4 0 67 (am_run (c_Waiting_append) k_Waiting_append J K n) K 64 L S M := by rfl
theorem r_Waiting_append_67 {J : aJ} {K : aR} {n : Nat} {L : aL} {S : List Value} {M : aM} : am_run (c_Waiting_append) k_Waiting_append J K (n + 1) 67 L S M = ai_iload 2 68 (am_run (c_Waiting_append) k_Waiting_append J K n) K 67 L S M := by rfl
theorem r_Waiting_append_68 {J : aJ} {K : aR} {n : Nat} {L : aL} {S : List Value} {M : aM} : am_run (c_Waiting_append) k_Waiting_append J K (n + 1) 68 L S M = ai_iload 1 69 (am_run (c_Waiting_append) k_Waiting_append J K n) K 68 L S M := by rfl
theorem r_Waiting_append_69 {J : aJ} {K : aR} {n : Nat} {L : aL} {S : List Value} {M : aM} : am_run (c_Waiting_append) k_Waiting_append J K (n + 1) 69 L S M = ai_iast 70 (am_run (c_Waiting_append) k_Waiting_append J K n) K 69 L S M := by rfl
theorem r_Waiting_append_70 {J : aJ} {K : aR} {n : Nat} {L : aL} {S : List Value} {M : aM} : am_run (c_Waiting_append) k_Waiting_append J K (n + 1) 70 L S M = ai_aload 0 71 (am_run (c_Waiting_append) k_Waiting_append J K n) K 70 L S M := by rfl
theorem r_Waiting_append_71 {J : aJ} {K : aR} {n : Nat} {L : aL} {S : List Value} {M : aM} : am_run (c_Waiting_append) k_Waiting_append J K (n + 1) 71 L S M = ai_dup 72 (am_run (c_Waiting_append) k_Waiting_append J K n) K 71 L S M := by rfl
theorem r_Waiting_append_72 {J : aJ} {K : aR} {n : Nat} {L : aL} {S : List Value} {M : aM} : am_run (c_Waiting_append) k_Waiting_append J K (n + 1) 72 L S M = ai_getf 4 2 75 (am_run (c_Waiting_append) k_Waiting_append J K n) K 72 L S M := by rfl
theorem r_Waiting_append_75 {J : aJ} {K : aR} {n : Nat} {L : aL} {S : List Value} {M : aM} : am_run (c_Waiting_append) k_Waiting_append J K (n + 1) 75 L S M = ai_const 1 76 (am_run (c_Waiting_append) k_Waiting_append J K n) K 75 L S M := by rfl
theorem r_Waiting_append_76 {J : aJ} {K : aR} {n : Nat} {L : aL} {S : List Value} {M : aM} : am_run (c_Waiting_append) k_Waiting_append J K (n + 1) 76 L S M = ai_iadd 77 (am_run (c_Waiting_append) k_Waiting_append J K n) K 76 L S M := by rfl
theorem r_Waiting_append_77 {J : aJ} {K : aR} {n : Nat} {L : aL} {S : List Value} {M : aM} : am_run (c_Waiting_append) k_Waiting_append J K (n + 1) 77 L S M = ai_putf 4 2 80 (am_run (c_Waiting_append) k_Waiting_append J K n) K 77 L S M := by rfl
theorem r_Waiting_append_80 {J : aJ} {K : aR} {n : Nat} {L : aL} {S : List Value} {M : aM} : am_run (c_Waiting_append) k_Waiting_append J K (n + 1) 80 L S M = ai_vret (am_run (c_Waiting_append) k_Waiting_append J K n) K 80 L S M := by rfl
def c_Waiting_take : List (Nat × aI) := [
  (0, ai_aload 0 1),
  (1, ai_getf 4 2 4),
  (4, ai_ifle 24 7),
  (7, ai_aload 0 8),
  (8, ai_getf 4 1 11),
  (11, ai_iflt 24 14),
  (14, ai_aload 0 15),
  (15, ai_getf 4 1 18),
  (18, ai_const 500 21),
  (21, ai_cmplt 26 24),
  (24, ai_const 0 25),
  (25, ai_iret),
  (26, ai_aload 0 27),
  (27, ai_getf 4 0 30),
  (30, ai_aload 0 31),
  (31, ai_getf 4 1 34),
  (34, ai_iald 35),
  (35, ai_istore 1 36),
  (36, ai_aload 0 37),
  (37, ai_aload 0 38),
  (38, ai_getf 4 1 41),
  (41, ai_const 1 42),
  (42, ai_iadd 43),
  (43, ai_const 500 46),
  (46, ai_cmpge 58 49),
  (49, ai_aload 0 50),
  (50, ai_getf 4 1 53),
  (53, ai_const 1 54),
  (54, ai_iadd 55),
  (55, ai_goto 59),
  (58, ai_const 0 59),
  (59, ai_putf 4 1 62),
  (62, ai_aload 0 63),
  (63, ai_dup 64),
  (64, ai_getf 4 2 67),
  (67, ai_const 1 68),
  (68, ai_isub 69),
  (69, ai_putf 4 2 72),
  (72, ai_iload 1 73),
  (73, ai_iret)]
set_option maxRecDepth 100000 in
set_option maxHeartbeats 4000000 in
theorem tb_Waiting_take {G : aG} {d : Nat} : am_tab G Y_Waiting_take d (c_Waiting_take) := by
  intro K p e s m args below meth c C
  exact ⟨as_aload_n C (pc := 0) (q := 0) (by decide +kernel) rfl rfl,
    as_getf C (pc := 1) (T := T_Waiting) (N := 3) rfl in_Waiting (by decide) rfl w_201 (by decide +kernel) rfl,
    as_ifle C (pc := 4) (off := 20) (by decide +kernel) (by decide) rfl,
    as_aload_n C (pc := 7) (q := 0) (by decide +kernel) rfl rfl,
    as_getf C (pc := 8) (T := T_Waiting) (N := 3) rfl in_Waiting (by decide) rfl w_200 (by decide +kernel) rfl,
    as_iflt C (pc := 11) (off := 13) (by decide +kernel) (by decide) rfl,
    as_aload_n C (pc := 14) (q := 0) (by decide +kernel) rfl rfl,
    as_getf C (pc := 15) (T := T_Waiting) (N := 3) rfl in_Waiting (by decide) rfl w_200 (by decide +kernel) rfl,
    as_sipush C (pc := 18) (n := 500) (by decide +kernel) (by decide +kernel) rfl,
    as_cmplt C (pc := 21) (off := 5) (by decide +kernel) (by decide) rfl,
    as_iconst C (pc := 24) (n := 0) (by decide +kernel) (by decide +kernel) rfl,
    as_iret C (pc := 25) rfl (by decide +kernel),
    as_aload_n C (pc := 26) (q := 0) (by decide +kernel) rfl rfl,
    as_getf C (pc := 27) (T := T_Waiting) (N := 3) rfl in_Waiting (by decide) rfl w_199 (by decide +kernel) rfl,
    as_aload_n C (pc := 30) (q := 0) (by decide +kernel) rfl rfl,
    as_getf C (pc := 31) (T := T_Waiting) (N := 3) rfl in_Waiting (by decide) rfl w_200 (by decide +kernel) rfl,
    as_iald C (pc := 34) (by decide +kernel) rfl,
    as_istore_n C (pc := 35) (q := 1) (by decide +kernel) rfl (by decide) rfl,
    as_aload_n C (pc := 36) (q := 0) (by decide +kernel) rfl rfl,
    as_aload_n C (pc := 37) (q := 0) (by decide +kernel) rfl rfl,
    as_getf C (pc := 38) (T := T_Waiting) (N := 3) rfl in_Waiting (by decide) rfl w_200 (by decide +kernel) rfl,
    as_iconst C (pc := 41) (n := 1) (by decide +kernel) (by decide +kernel) rfl,
    as_iadd C (pc := 42) (by decide +kernel) rfl,
    as_sipush C (pc := 43) (n := 500) (by decide +kernel) (by decide +kernel) rfl,
    as_cmpge C (pc := 46) (off := 12) (by decide +kernel) (by decide) rfl,
    as_aload_n C (pc := 49) (q := 0) (by decide +kernel) rfl rfl,
    as_getf C (pc := 50) (T := T_Waiting) (N := 3) rfl in_Waiting (by decide) rfl w_200 (by decide +kernel) rfl,
    as_iconst C (pc := 53) (n := 1) (by decide +kernel) (by decide +kernel) rfl,
    as_iadd C (pc := 54) (by decide +kernel) rfl,
    as_goto C (pc := 55) (off := 4) (by decide +kernel) (by decide),
    as_iconst C (pc := 58) (n := 0) (by decide +kernel) (by decide +kernel) rfl,
    as_putf C (pc := 59) t_Waiting (T := T_Waiting) (N := 3) rfl in_Waiting tok_Waiting nm_Waiting (by decide) rfl rfl (by decide +kernel) w_200 (by decide +kernel) rfl,
    as_aload_n C (pc := 62) (q := 0) (by decide +kernel) rfl rfl,
    as_dup C (pc := 63) (by decide +kernel) rfl,
    as_getf C (pc := 64) (T := T_Waiting) (N := 3) rfl in_Waiting (by decide) rfl w_201 (by decide +kernel) rfl,
    as_iconst C (pc := 67) (n := 1) (by decide +kernel) (by decide +kernel) rfl,
    as_isub C (pc := 68) (by decide +kernel) rfl,
    as_putf C (pc := 69) t_Waiting (T := T_Waiting) (N := 3) rfl in_Waiting tok_Waiting nm_Waiting (by decide) rfl rfl (by decide +kernel) w_201 (by decide +kernel) rfl,
    as_iload_n C (pc := 72) (q := 1) (by decide +kernel) rfl rfl,
    as_iret C (pc := 73) rfl (by decide +kernel), trivial⟩
abbrev k_Waiting_take : List Nat := []
theorem r_Waiting_take_0 {J : aJ} {K : aR} {n : Nat} {L : aL} {S : List Value} {M : aM} : am_run (c_Waiting_take) k_Waiting_take J K (n + 1) 0 L S M = ai_aload 0 1 (am_run (c_Waiting_take) k_Waiting_take J K n) K 0 L S M := by rfl
theorem r_Waiting_take_1 {J : aJ} {K : aR} {n : Nat} {L : aL} {S : List Value} {M : aM} : am_run (c_Waiting_take) k_Waiting_take J K (n + 1) 1 L S M = ai_getf 4 2 4 (am_run (c_Waiting_take) k_Waiting_take J K n) K 1 L S M := by rfl
theorem r_Waiting_take_4 {J : aJ} {K : aR} {n : Nat} {L : aL} {S : List Value} {M : aM} : am_run (c_Waiting_take) k_Waiting_take J K (n + 1) 4 L S M = ai_ifle 24 7 (am_run (c_Waiting_take) k_Waiting_take J K n) K 4 L S M := by rfl
theorem r_Waiting_take_7 {J : aJ} {K : aR} {n : Nat} {L : aL} {S : List Value} {M : aM} : am_run (c_Waiting_take) k_Waiting_take J K (n + 1) 7 L S M = ai_aload 0 8 (am_run (c_Waiting_take) k_Waiting_take J K n) K 7 L S M := by rfl
theorem r_Waiting_take_8 {J : aJ} {K : aR} {n : Nat} {L : aL} {S : List Value} {M : aM} : am_run (c_Waiting_take) k_Waiting_take J K (n + 1) 8 L S M = ai_getf 4 1 11 (am_run (c_Waiting_take) k_Waiting_take J K n) K 8 L S M := by rfl
theorem r_Waiting_take_11 {J : aJ} {K : aR} {n : Nat} {L : aL} {S : List Value} {M : aM} : am_run (c_Waiting_take) k_Waiting_take J K (n + 1) 11 L S M = ai_iflt 24 14 (am_run (c_Waiting_take) k_Waiting_take J K n) K 11 L S M := by rfl
theorem r_Waiting_take_14 {J : aJ} {K : aR} {n : Nat} {L : aL} {S : List Value} {M : aM} : am_run (c_Waiting_take) k_Waiting_take J K (n + 1) 14 L S M = ai_aload 0 15 (am_run (c_Waiting_take) k_Waiting_take J K n) K 14 L S M := by rfl
theorem r_Waiting_take_15 {J : aJ} {K : aR} {n : Nat} {L : aL} {S : List Value} {M : aM} : am_run (c_Waiting_take) k_Waiting_take J K (n + 1) 15 L S M = ai_getf 4 1 18 (am_run (c_Waiting_take) k_Waiting_take J K n) K 15 L S M := by rfl
theorem r_Waiting_take_18 {J : aJ} {K : aR} {n : Nat} {L : aL} {S : List Value} {M : aM} : am_run (c_Waiting_take) k_Waiting_take J K (n + 1) 18 L S M = ai_const 500 21 (am_run (c_Waiting_take) k_Waiting_take J K n) K 18 L S M := by rfl
theorem r_Waiting_take_21 {J : aJ} {K : aR} {n : Nat} {L : aL} {S : List Value} {M : aM} : am_run (c_Waiting_take) k_Waiting_take J K (n + 1) 21 L S M = ai_cmplt 26 24 (am_run (c_Waiting_take) k_Waiting_take J K n) K 21 L S M := by rfl
theorem r_Waiting_take_24 {J : aJ} {K : aR} {n : Nat} {L : aL} {S : List Value} {M : aM} : am_run (c_Waiting_take) k_Waiting_take J K (n + 1) 24 L S M = ai_const 0 25 (am_run (c_Waiting_take) k_Waiting_take J K n) K 24 L S M := by rfl
theorem r_Waiting_take_25 {J : aJ} {K : aR} {n : Nat} {L : aL} {S : List Value} {M : aM} : am_run (c_Waiting_take) k_Waiting_take J K (n + 1) 25 L S M = ai_iret (am_run (c_Waiting_take) k_Waiting_take J K n) K 25 L S M := by rfl
theorem r_Waiting_take_26 {J : aJ} {K : aR} {n : Nat} {L : aL} {S : List Value} {M : aM} : am_run (c_Waiting_take) k_Waiting_take J K (n + 1) 26 L S M = ai_aload 0 27 (am_run (c_Waiting_take) k_Waiting_take J K n) K 26 L S M := by rfl
theorem r_Waiting_take_27 {J : aJ} {K : aR} {n : Nat} {L : aL} {S : List Value} {M : aM} : am_run (c_Waiting_take) k_Waiting_take J K (n + 1) 27 L S M = ai_getf 4 0 30 (am_run (c_Waiting_take) k_Waiting_take J K n) K 27 L S M := by rfl
theorem r_Waiting_take_30 {J : aJ} {K : aR} {n : Nat} {L : aL} {S : List Value} {M : aM} : am_run (c_Waiting_take) k_Waiting_take J K (n + 1) 30 L S M = ai_aload 0 31 (am_run (c_Waiting_take) k_Waiting_take J K n) K 30 L S M := by rfl
theorem r_Waiting_take_31 {J : aJ} {K : aR} {n : Nat} {L : aL} {S : List Value} {M : aM} : am_run (c_Waiting_take) k_Waiting_take J K (n + 1) 31 L S M = ai_getf 4 1 34 (am_run (c_Waiting_take) k_Waiting_take J K n) K 31 L S M := by rfl
theorem r_Waiting_take_34 {J : aJ} {K : aR} {n : Nat} {L : aL} {S : List Value} {M : aM} : am_run (c_Waiting_take) k_Waiting_take J K (n + 1) 34 L S M = ai_iald 35 (am_run (c_Waiting_take) k_Waiting_take J K n) K 34 L S M := by rfl
theorem r_Waiting_take_35 {J : aJ} {K : aR} {n : Nat} {L : aL} {S : List Value} {M : aM} : am_run (c_Waiting_take) k_Waiting_take J K (n + 1) 35 L S M = ai_istore 1 36 (am_run (c_Waiting_take) k_Waiting_take J K n) K 35 L S M := by rfl
theorem r_Waiting_take_36 {J : aJ} {K : aR} {n : Nat} {L : aL} {S : List Value} {M : aM} : am_run (c_Waiting_take) k_Waiting_take J K (n + 1) 36 L S M = ai_aload 0 37 (am_run (c_Waiting_take) k_Waiting_take J K n) K 36 L S M := by rfl
theorem r_Waiting_take_37 {J : aJ} {K : aR} {n : Nat} {L : aL} {S : List Value} {M : aM} : am_run (c_Waiting_take) k_Waiting_take J K (n + 1) 37 L S M = ai_aload 0 38 (am_run (c_Waiting_take) k_Waiting_take J K n) K 37 L S M := by rfl
theorem r_Waiting_take_38 {J : aJ} {K : aR} {n : Nat} {L : aL} {S : List Value} {M : aM} : am_run (c_Waiting_take) k_Waiting_take J K (n + 1) 38 L S M = ai_getf 4 1 41 (am_run (c_Waiting_take) k_Waiting_take J K n) K 38 L S M := by rfl
theorem r_Waiting_take_41 {J : aJ} {K : aR} {n : Nat} {L : aL} {S : List Value} {M : aM} : am_run (c_Waiting_take) k_Waiting_take J K (n + 1) 41 L S M = ai_const 1 42 (am_run (c_Waiting_take) k_Waiting_take J K n) K 41 L S M := by rfl
theorem r_Waiting_take_42 {J : aJ} {K : aR} {n : Nat} {L : aL} {S : List Value} {M : aM} : am_run (c_Waiting_take) k_Waiting_take J K (n + 1) 42 L S M = ai_iadd 43 (am_run (c_Waiting_take) k_Waiting_take J K n) K 42 L S M := by rfl
theorem r_Waiting_take_43 {J : aJ} {K : aR} {n : Nat} {L : aL} {S : List Value} {M : aM} : am_run (c_Waiting_take) k_Waiting_take J K (n + 1) 43 L S M = ai_const 500 46 (am_run (c_Waiting_take) k_Waiting_take J K n) K 43 L S M := by rfl
theorem r_Waiting_take_46 {J : aJ} {K : aR} {n : Nat} {L : aL} {S : List Value} {M : aM} : am_run (c_Waiting_take) k_Waiting_take J K (n + 1) 46 L S M = ai_cmpge 58 49 (am_run (c_Waiting_take) k_Waiting_take J K n) K 46 L S M := by rfl
theorem r_Waiting_take_49 {J : aJ} {K : aR} {n : Nat} {L : aL} {S : List Value} {M : aM} : am_run (c_Waiting_take) k_Waiting_take J K (n + 1) 49 L S M = ai_aload 0 50 (am_run (c_Waiting_take) k_Waiting_take J K n) K 49 L S M := by rfl
theorem r_Waiting_take_50 {J : aJ} {K : aR} {n : Nat} {L : aL} {S : List Value} {M : aM} : am_run (c_Waiting_take) k_Waiting_take J K (n + 1) 50 L S M = ai_getf 4 1 53 (am_run (c_Waiting_take) k_Waiting_take J K n) K 50 L S M := by rfl
theorem r_Waiting_take_53 {J : aJ} {K : aR} {n : Nat} {L : aL} {S : List Value} {M : aM} : am_run (c_Waiting_take) k_Waiting_take J K (n + 1) 53 L S M = ai_const 1 54 (am_run (c_Waiting_take) k_Waiting_take J K n) K 53 L S M := by rfl
theorem r_Waiting_take_54 {J : aJ} {K : aR} {n : Nat} {L : aL} {S : List Value} {M : aM} : am_run (c_Waiting_take) k_Waiting_take J K (n + 1) 54 L S M = ai_iadd 55 (am_run (c_Waiting_take) k_Waiting_take J K n) K 54 L S M := by rfl
theorem r_Waiting_take_55 {J : aJ} {K : aR} {n : Nat} {L : aL} {S : List Value} {M : aM} : am_run (c_Waiting_take) k_Waiting_take J K (n + 1) 55 L S M = ai_goto 59 (am_run (c_Waiting_take) k_Waiting_take J K n) K 55 L S M := by rfl
theorem r_Waiting_take_58 {J : aJ} {K : aR} {n : Nat} {L : aL} {S : List Value} {M : aM} : am_run (c_Waiting_take) k_Waiting_take J K (n + 1) 58 L S M = ai_const 0 59 (am_run (c_Waiting_take) k_Waiting_take J K n) K 58 L S M := by rfl
theorem r_Waiting_take_59 {J : aJ} {K : aR} {n : Nat} {L : aL} {S : List Value} {M : aM} : am_run (c_Waiting_take) k_Waiting_take J K (n + 1) 59 L S M = ai_putf 4 1 62 (am_run (c_Waiting_take) k_Waiting_take J K n) K 59 L S M := by rfl
theorem r_Waiting_take_62 {J : aJ} {K : aR} {n : Nat} {L : aL} {S : List Value} {M : aM} : am_run (c_Waiting_take) k_Waiting_take J K (n + 1) 62 L S M = ai_aload 0 63 (am_run (c_Waiting_take) k_Waiting_take J K n) K 62 L S M := by rfl
theorem r_Waiting_take_63 {J : aJ} {K : aR} {n : Nat} {L : aL} {S : List Value} {M : aM} : am_run (c_Waiting_take) k_Waiting_take J K (n + 1) 63 L S M = ai_dup 64 (am_run (c_Waiting_take) k_Waiting_take J K n) K 63 L S M := by rfl
theorem r_Waiting_take_64 {J : aJ} {K : aR} {n : Nat} {L : aL} {S : List Value} {M : aM} : am_run (c_Waiting_take) k_Waiting_take J K (n + 1) 64 L S M = ai_getf 4 2 67 (am_run (c_Waiting_take) k_Waiting_take J K n) K 64 L S M := by rfl
theorem r_Waiting_take_67 {J : aJ} {K : aR} {n : Nat} {L : aL} {S : List Value} {M : aM} : am_run (c_Waiting_take) k_Waiting_take J K (n + 1) 67 L S M = ai_const 1 68 (am_run (c_Waiting_take) k_Waiting_take J K n) K 67 L S M := by rfl
theorem r_Waiting_take_68 {J : aJ} {K : aR} {n : Nat} {L : aL} {S : List Value} {M : aM} : am_run (c_Waiting_take) k_Waiting_take J K (n + 1) 68 L S M = ai_isub 69 (am_run (c_Waiting_take) k_Waiting_take J K n) K 68 L S M := by rfl
theorem r_Waiting_take_69 {J : aJ} {K : aR} {n : Nat} {L : aL} {S : List Value} {M : aM} : am_run (c_Waiting_take) k_Waiting_take J K (n + 1) 69 L S M = ai_putf 4 2 72 (am_run (c_Waiting_take) k_Waiting_take J K n) K 69 L S M := by rfl
theorem r_Waiting_take_72 {J : aJ} {K : aR} {n : Nat} {L : aL} {S : List Value} {M : aM} : am_run (c_Waiting_take) k_Waiting_take J K (n + 1) 72 L S M = ai_iload 1 73 (am_run (c_Waiting_take) k_Waiting_take J K n) K 72 L S M := by rfl
theorem r_Waiting_take_73 {J : aJ} {K : aR} {n : Nat} {L : aL} {S : List Value} {M : aM} : am_run (c_Waiting_take) k_Waiting_take J K (n + 1) 73 L S M = ai_iret (am_run (c_Waiting_take) k_Waiting_take J K n) K 73 L S M := by rfl
end
section
def c_Reader_readText (s_Nodes_clear : aS) (s_Tokens_scan : aS) (s_Tokens_sortOf : aS) (s_Reader_readDatum : aS) (s_Nodes_addDatum : aS) : List (Nat × aI) := [
  (0, ai_aload 0 1),
  (1, ai_getf 1 1 4),
  (4, ai_callv1 0 s_Nodes_clear 7),
  (7, ai_aload 0 8),
  (8, ai_getf 1 2 11),
  (11, ai_aload 0 12),
  (12, ai_getf 1 0 15),
  (15, ai_callv2 3 s_Tokens_scan 18),
  (18, ai_aload 0 19),
  (19, ai_const (-1) 20),
  (20, ai_putf 1 4 23),
  (23, ai_aload 0 24),
  (24, ai_const 0 25),
  (25, ai_putf 1 3 28),
  (28, ai_const 0 29),
  (29, ai_istore 1 30),
  (30, ai_iload 1 31),
  (31, ai_const 400 34),
  (34, ai_cmpgt 96 37),
  (37, ai_aload 0 38),
  (38, ai_getf 1 2 41),
  (41, ai_aload 0 42),
  (42, ai_getf 1 3 45),
  (45, ai_callv2 3 s_Tokens_sortOf 48),
  (48, ai_const 10 50),
  (50, ai_cmpeq 96 53),
  (53, ai_aload 0 54),
  (54, ai_const 0 55),
  (55, ai_callv2 1 s_Reader_readDatum 58),
  (58, ai_istore 2 59),
  (59, ai_iload 2 60),
  (60, ai_const (-1) 61),
  (61, ai_cmpne 72 64),
  (64, ai_aload 0 65),
  (65, ai_getf 1 1 68),
  (68, ai_callv1 0 s_Nodes_clear 71),
  (71, ai_vret),
  (72, ai_aload 0 73),
  (73, ai_getf 1 1 76),
  (76, ai_iload 2 77),
  (77, ai_callv2 0 s_Nodes_addDatum 80),
  (80, ai_aload 0 81),
  (81, ai_dup 82),
  (82, ai_getf 1 3 85),
  (85, ai_const 1 86),
  (86, ai_iadd 87),
  (87, ai_putf 1 3 90),
  (90, ai_iinc 1 1 93),
  (93, ai_goto 30),
  (96, ai_vret)]
set_option maxRecDepth 100000 in
set_option maxHeartbeats 4000000 in
theorem tb_Reader_readText {G : aG} {d : Nat} {s_Nodes_clear : aS} {d_Nodes_clear : Nat} (h_Nodes_clear : am_Sp G Y_Nodes_clear d_Nodes_clear s_Nodes_clear) (l_Nodes_clear : d_Nodes_clear < d) {s_Tokens_scan : aS} {d_Tokens_scan : Nat} (h_Tokens_scan : am_Sp G Y_Tokens_scan d_Tokens_scan s_Tokens_scan) (l_Tokens_scan : d_Tokens_scan < d) {s_Tokens_sortOf : aS} {d_Tokens_sortOf : Nat} (h_Tokens_sortOf : am_Sp G Y_Tokens_sortOf d_Tokens_sortOf s_Tokens_sortOf) (l_Tokens_sortOf : d_Tokens_sortOf < d) {s_Reader_readDatum : aS} {d_Reader_readDatum : Nat} (h_Reader_readDatum : am_Sp G Y_Reader_readDatum d_Reader_readDatum s_Reader_readDatum) (l_Reader_readDatum : d_Reader_readDatum < d) {s_Nodes_addDatum : aS} {d_Nodes_addDatum : Nat} (h_Nodes_addDatum : am_Sp G Y_Nodes_addDatum d_Nodes_addDatum s_Nodes_addDatum) (l_Nodes_addDatum : d_Nodes_addDatum < d) : am_tab G Y_Reader_readText d (c_Reader_readText s_Nodes_clear s_Tokens_scan s_Tokens_sortOf s_Reader_readDatum s_Nodes_addDatum) := by
  intro K p e s m args below meth c C
  exact ⟨as_aload_n C (pc := 0) (q := 0) (by decide +kernel) rfl rfl,
    as_getf C (pc := 1) (T := T_Reader) (N := 5) rfl in_Reader (by decide) rfl w_177 (by decide +kernel) rfl,
    as_callv1N C (pc := 4) h_Nodes_clear (T := T_Nodes) (N := 10) rfl w_258 w_72 w_257 w_2 w_255 hy_Nodes_clear (am_rm_of l_Nodes_clear (by decide)) (by decide +kernel) rfl,
    as_aload_n C (pc := 7) (q := 0) (by decide +kernel) rfl rfl,
    as_getf C (pc := 8) (T := T_Reader) (N := 5) rfl in_Reader (by decide) rfl w_178 (by decide +kernel) rfl,
    as_aload_n C (pc := 11) (q := 0) (by decide +kernel) rfl rfl,
    as_getf C (pc := 12) (T := T_Reader) (N := 5) rfl in_Reader (by decide) rfl w_176 (by decide +kernel) rfl,
    as_callv2N C (pc := 15) h_Tokens_scan (T := T_Tokens) (N := 4) rfl w_262 w_75 w_261 w_3 w_259 hy_Tokens_scan (am_rm_of l_Tokens_scan (by decide)) (by decide +kernel) rfl,
    as_aload_n C (pc := 18) (q := 0) (by decide +kernel) rfl rfl,
    as_iconst C (pc := 19) (n := (-1)) (by decide +kernel) (by decide +kernel) rfl,
    as_putf C (pc := 20) t_Reader (T := T_Reader) (N := 5) rfl in_Reader tok_Reader nm_Reader (by decide) rfl rfl (by decide +kernel) w_180 (by decide +kernel) rfl,
    as_aload_n C (pc := 23) (q := 0) (by decide +kernel) rfl rfl,
    as_iconst C (pc := 24) (n := 0) (by decide +kernel) (by decide +kernel) rfl,
    as_putf C (pc := 25) t_Reader (T := T_Reader) (N := 5) rfl in_Reader tok_Reader nm_Reader (by decide) rfl rfl (by decide +kernel) w_179 (by decide +kernel) rfl,
    as_iconst C (pc := 28) (n := 0) (by decide +kernel) (by decide +kernel) rfl,
    as_istore_n C (pc := 29) (q := 1) (by decide +kernel) rfl (by decide) rfl,
    as_iload_n C (pc := 30) (q := 1) (by decide +kernel) rfl rfl,
    as_sipush C (pc := 31) (n := 400) (by decide +kernel) (by decide +kernel) rfl,
    as_cmpgt C (pc := 34) (off := 62) (by decide +kernel) (by decide) rfl,
    as_aload_n C (pc := 37) (q := 0) (by decide +kernel) rfl rfl,
    as_getf C (pc := 38) (T := T_Reader) (N := 5) rfl in_Reader (by decide) rfl w_178 (by decide +kernel) rfl,
    as_aload_n C (pc := 41) (q := 0) (by decide +kernel) rfl rfl,
    as_getf C (pc := 42) (T := T_Reader) (N := 5) rfl in_Reader (by decide) rfl w_179 (by decide +kernel) rfl,
    as_callv2N C (pc := 45) h_Tokens_sortOf (T := T_Tokens) (N := 4) rfl w_304 w_75 w_303 w_12 w_301 hy_Tokens_sortOf (am_rm_of l_Tokens_sortOf (by decide)) (by decide +kernel) rfl,
    as_bipush C (pc := 48) (n := 10) (by decide +kernel) (by decide +kernel) rfl,
    as_cmpeq C (pc := 50) (off := 46) (by decide +kernel) (by decide) rfl,
    as_aload_n C (pc := 53) (q := 0) (by decide +kernel) rfl rfl,
    as_iconst C (pc := 54) (n := 0) (by decide +kernel) (by decide +kernel) rfl,
    as_callv2 C (pc := 55) h_Reader_readDatum (T := T_Reader) (N := 5) rfl w_308 w_74 w_307 w_13 w_305 hy_Reader_readDatum (am_rm_of l_Reader_readDatum (by decide)) (by decide +kernel) rfl,
    as_istore_n C (pc := 58) (q := 2) (by decide +kernel) rfl (by decide) rfl,
    as_iload_n C (pc := 59) (q := 2) (by decide +kernel) rfl rfl,
    as_iconst C (pc := 60) (n := (-1)) (by decide +kernel) (by decide +kernel) rfl,
    as_cmpne C (pc := 61) (off := 11) (by decide +kernel) (by decide) rfl,
    as_aload_n C (pc := 64) (q := 0) (by decide +kernel) rfl rfl,
    as_getf C (pc := 65) (T := T_Reader) (N := 5) rfl in_Reader (by decide) rfl w_177 (by decide +kernel) rfl,
    as_callv1N C (pc := 68) h_Nodes_clear (T := T_Nodes) (N := 10) rfl w_258 w_72 w_257 w_2 w_255 hy_Nodes_clear (am_rm_of l_Nodes_clear (by decide)) (by decide +kernel) rfl,
    as_vret C (pc := 71) rfl (by decide +kernel),
    as_aload_n C (pc := 72) (q := 0) (by decide +kernel) rfl rfl,
    as_getf C (pc := 73) (T := T_Reader) (N := 5) rfl in_Reader (by decide) rfl w_177 (by decide +kernel) rfl,
    as_iload_n C (pc := 76) (q := 2) (by decide +kernel) rfl rfl,
    as_callv2N C (pc := 77) h_Nodes_addDatum (T := T_Nodes) (N := 10) rfl w_381 w_72 w_380 w_31 w_378 hy_Nodes_addDatum (am_rm_of l_Nodes_addDatum (by decide)) (by decide +kernel) rfl,
    as_aload_n C (pc := 80) (q := 0) (by decide +kernel) rfl rfl,
    as_dup C (pc := 81) (by decide +kernel) rfl,
    as_getf C (pc := 82) (T := T_Reader) (N := 5) rfl in_Reader (by decide) rfl w_179 (by decide +kernel) rfl,
    as_iconst C (pc := 85) (n := 1) (by decide +kernel) (by decide +kernel) rfl,
    as_iadd C (pc := 86) (by decide +kernel) rfl,
    as_putf C (pc := 87) t_Reader (T := T_Reader) (N := 5) rfl in_Reader tok_Reader nm_Reader (by decide) rfl rfl (by decide +kernel) w_179 (by decide +kernel) rfl,
    as_iinc C (pc := 90) (k := 1) (n := 1) (by decide +kernel) (by decide +kernel) (by decide) rfl,
    as_goto C (pc := 93) (off := (-63)) (by decide +kernel) (by decide),
    as_vret C (pc := 96) rfl (by decide +kernel), trivial⟩
abbrev k_Reader_readText : List Nat := [30]
theorem q_Reader_readText_30 {s_Nodes_clear : aS} {s_Tokens_scan : aS} {s_Tokens_sortOf : aS} {s_Reader_readDatum : aS} {s_Nodes_addDatum : aS} : am_at (c_Reader_readText s_Nodes_clear s_Tokens_scan s_Tokens_sortOf s_Reader_readDatum s_Nodes_addDatum) 30 = ai_iload 1 31 := by rfl
theorem r_Reader_readText_0 {s_Nodes_clear : aS} {s_Tokens_scan : aS} {s_Tokens_sortOf : aS} {s_Reader_readDatum : aS} {s_Nodes_addDatum : aS} {J : aJ} {K : aR} {n : Nat} {L : aL} {S : List Value} {M : aM} : am_run (c_Reader_readText s_Nodes_clear s_Tokens_scan s_Tokens_sortOf s_Reader_readDatum s_Nodes_addDatum) k_Reader_readText J K (n + 1) 0 L S M = ai_aload 0 1 (am_run (c_Reader_readText s_Nodes_clear s_Tokens_scan s_Tokens_sortOf s_Reader_readDatum s_Nodes_addDatum) k_Reader_readText J K n) K 0 L S M := by rfl
theorem r_Reader_readText_1 {s_Nodes_clear : aS} {s_Tokens_scan : aS} {s_Tokens_sortOf : aS} {s_Reader_readDatum : aS} {s_Nodes_addDatum : aS} {J : aJ} {K : aR} {n : Nat} {L : aL} {S : List Value} {M : aM} : am_run (c_Reader_readText s_Nodes_clear s_Tokens_scan s_Tokens_sortOf s_Reader_readDatum s_Nodes_addDatum) k_Reader_readText J K (n + 1) 1 L S M = ai_getf 1 1 4 (am_run (c_Reader_readText s_Nodes_clear s_Tokens_scan s_Tokens_sortOf s_Reader_readDatum s_Nodes_addDatum) k_Reader_readText J K n) K 1 L S M := by rfl
theorem r_Reader_readText_4 {s_Nodes_clear : aS} {s_Tokens_scan : aS} {s_Tokens_sortOf : aS} {s_Reader_readDatum : aS} {s_Nodes_addDatum : aS} {J : aJ} {K : aR} {n : Nat} {L : aL} {S : List Value} {M : aM} : am_run (c_Reader_readText s_Nodes_clear s_Tokens_scan s_Tokens_sortOf s_Reader_readDatum s_Nodes_addDatum) k_Reader_readText J K (n + 1) 4 L S M = ai_callv1 0 s_Nodes_clear 7 (am_run (c_Reader_readText s_Nodes_clear s_Tokens_scan s_Tokens_sortOf s_Reader_readDatum s_Nodes_addDatum) k_Reader_readText J K n) K 4 L S M := by rfl
theorem r_Reader_readText_7 {s_Nodes_clear : aS} {s_Tokens_scan : aS} {s_Tokens_sortOf : aS} {s_Reader_readDatum : aS} {s_Nodes_addDatum : aS} {J : aJ} {K : aR} {n : Nat} {L : aL} {S : List Value} {M : aM} : am_run (c_Reader_readText s_Nodes_clear s_Tokens_scan s_Tokens_sortOf s_Reader_readDatum s_Nodes_addDatum) k_Reader_readText J K (n + 1) 7 L S M = ai_aload 0 8 (am_run (c_Reader_readText s_Nodes_clear s_Tokens_scan s_Tokens_sortOf s_Reader_readDatum s_Nodes_addDatum) k_Reader_readText J K n) K 7 L S M := by rfl
theorem r_Reader_readText_8 {s_Nodes_clear : aS} {s_Tokens_scan : aS} {s_Tokens_sortOf : aS} {s_Reader_readDatum : aS} {s_Nodes_addDatum : aS} {J : aJ} {K : aR} {n : Nat} {L : aL} {S : List Value} {M : aM} : am_run (c_Reader_readText s_Nodes_clear s_Tokens_scan s_Tokens_sortOf s_Reader_readDatum s_Nodes_addDatum) k_Reader_readText J K (n + 1) 8 L S M = ai_getf 1 2 11 (am_run (c_Reader_readText s_Nodes_clear s_Tokens_scan s_Tokens_sortOf s_Reader_readDatum s_Nodes_addDatum) k_Reader_readText J K n) K 8 L S M := by rfl
theorem r_Reader_readText_11 {s_Nodes_clear : aS} {s_Tokens_scan : aS} {s_Tokens_sortOf : aS} {s_Reader_readDatum : aS} {s_Nodes_addDatum : aS} {J : aJ} {K : aR} {n : Nat} {L : aL} {S : List Value} {M : aM} : am_run (c_Reader_readText s_Nodes_clear s_Tokens_scan s_Tokens_sortOf s_Reader_readDatum s_Nodes_addDatum) k_Reader_readText J K (n + 1) 11 L S M = ai_aload 0 12 (am_run (c_Reader_readText s_Nodes_clear s_Tokens_scan s_Tokens_sortOf s_Reader_readDatum s_Nodes_addDatum) k_Reader_readText J K n) K 11 L S M := by rfl
theorem r_Reader_readText_12 {s_Nodes_clear : aS} {s_Tokens_scan : aS} {s_Tokens_sortOf : aS} {s_Reader_readDatum : aS} {s_Nodes_addDatum : aS} {J : aJ} {K : aR} {n : Nat} {L : aL} {S : List Value} {M : aM} : am_run (c_Reader_readText s_Nodes_clear s_Tokens_scan s_Tokens_sortOf s_Reader_readDatum s_Nodes_addDatum) k_Reader_readText J K (n + 1) 12 L S M = ai_getf 1 0 15 (am_run (c_Reader_readText s_Nodes_clear s_Tokens_scan s_Tokens_sortOf s_Reader_readDatum s_Nodes_addDatum) k_Reader_readText J K n) K 12 L S M := by rfl
theorem r_Reader_readText_15 {s_Nodes_clear : aS} {s_Tokens_scan : aS} {s_Tokens_sortOf : aS} {s_Reader_readDatum : aS} {s_Nodes_addDatum : aS} {J : aJ} {K : aR} {n : Nat} {L : aL} {S : List Value} {M : aM} : am_run (c_Reader_readText s_Nodes_clear s_Tokens_scan s_Tokens_sortOf s_Reader_readDatum s_Nodes_addDatum) k_Reader_readText J K (n + 1) 15 L S M = ai_callv2 3 s_Tokens_scan 18 (am_run (c_Reader_readText s_Nodes_clear s_Tokens_scan s_Tokens_sortOf s_Reader_readDatum s_Nodes_addDatum) k_Reader_readText J K n) K 15 L S M := by rfl
theorem r_Reader_readText_18 {s_Nodes_clear : aS} {s_Tokens_scan : aS} {s_Tokens_sortOf : aS} {s_Reader_readDatum : aS} {s_Nodes_addDatum : aS} {J : aJ} {K : aR} {n : Nat} {L : aL} {S : List Value} {M : aM} : am_run (c_Reader_readText s_Nodes_clear s_Tokens_scan s_Tokens_sortOf s_Reader_readDatum s_Nodes_addDatum) k_Reader_readText J K (n + 1) 18 L S M = ai_aload 0 19 (am_run (c_Reader_readText s_Nodes_clear s_Tokens_scan s_Tokens_sortOf s_Reader_readDatum s_Nodes_addDatum) k_Reader_readText J K n) K 18 L S M := by rfl
theorem r_Reader_readText_19 {s_Nodes_clear : aS} {s_Tokens_scan : aS} {s_Tokens_sortOf : aS} {s_Reader_readDatum : aS} {s_Nodes_addDatum : aS} {J : aJ} {K : aR} {n : Nat} {L : aL} {S : List Value} {M : aM} : am_run (c_Reader_readText s_Nodes_clear s_Tokens_scan s_Tokens_sortOf s_Reader_readDatum s_Nodes_addDatum) k_Reader_readText J K (n + 1) 19 L S M = ai_const (-1) 20 (am_run (c_Reader_readText s_Nodes_clear s_Tokens_scan s_Tokens_sortOf s_Reader_readDatum s_Nodes_addDatum) k_Reader_readText J K n) K 19 L S M := by rfl
theorem r_Reader_readText_20 {s_Nodes_clear : aS} {s_Tokens_scan : aS} {s_Tokens_sortOf : aS} {s_Reader_readDatum : aS} {s_Nodes_addDatum : aS} {J : aJ} {K : aR} {n : Nat} {L : aL} {S : List Value} {M : aM} : am_run (c_Reader_readText s_Nodes_clear s_Tokens_scan s_Tokens_sortOf s_Reader_readDatum s_Nodes_addDatum) k_Reader_readText J K (n + 1) 20 L S M = ai_putf 1 4 23 (am_run (c_Reader_readText s_Nodes_clear s_Tokens_scan s_Tokens_sortOf s_Reader_readDatum s_Nodes_addDatum) k_Reader_readText J K n) K 20 L S M := by rfl
theorem r_Reader_readText_23 {s_Nodes_clear : aS} {s_Tokens_scan : aS} {s_Tokens_sortOf : aS} {s_Reader_readDatum : aS} {s_Nodes_addDatum : aS} {J : aJ} {K : aR} {n : Nat} {L : aL} {S : List Value} {M : aM} : am_run (c_Reader_readText s_Nodes_clear s_Tokens_scan s_Tokens_sortOf s_Reader_readDatum s_Nodes_addDatum) k_Reader_readText J K (n + 1) 23 L S M = ai_aload 0 24 (am_run (c_Reader_readText s_Nodes_clear s_Tokens_scan s_Tokens_sortOf s_Reader_readDatum s_Nodes_addDatum) k_Reader_readText J K n) K 23 L S M := by rfl
theorem r_Reader_readText_24 {s_Nodes_clear : aS} {s_Tokens_scan : aS} {s_Tokens_sortOf : aS} {s_Reader_readDatum : aS} {s_Nodes_addDatum : aS} {J : aJ} {K : aR} {n : Nat} {L : aL} {S : List Value} {M : aM} : am_run (c_Reader_readText s_Nodes_clear s_Tokens_scan s_Tokens_sortOf s_Reader_readDatum s_Nodes_addDatum) k_Reader_readText J K (n + 1) 24 L S M = ai_const 0 25 (am_run (c_Reader_readText s_Nodes_clear s_Tokens_scan s_Tokens_sortOf s_Reader_readDatum s_Nodes_addDatum) k_Reader_readText J K n) K 24 L S M := by rfl
theorem r_Reader_readText_25 {s_Nodes_clear : aS} {s_Tokens_scan : aS} {s_Tokens_sortOf : aS} {s_Reader_readDatum : aS} {s_Nodes_addDatum : aS} {J : aJ} {K : aR} {n : Nat} {L : aL} {S : List Value} {M : aM} : am_run (c_Reader_readText s_Nodes_clear s_Tokens_scan s_Tokens_sortOf s_Reader_readDatum s_Nodes_addDatum) k_Reader_readText J K (n + 1) 25 L S M = ai_putf 1 3 28 (am_run (c_Reader_readText s_Nodes_clear s_Tokens_scan s_Tokens_sortOf s_Reader_readDatum s_Nodes_addDatum) k_Reader_readText J K n) K 25 L S M := by rfl
theorem r_Reader_readText_28 {s_Nodes_clear : aS} {s_Tokens_scan : aS} {s_Tokens_sortOf : aS} {s_Reader_readDatum : aS} {s_Nodes_addDatum : aS} {J : aJ} {K : aR} {n : Nat} {L : aL} {S : List Value} {M : aM} : am_run (c_Reader_readText s_Nodes_clear s_Tokens_scan s_Tokens_sortOf s_Reader_readDatum s_Nodes_addDatum) k_Reader_readText J K (n + 1) 28 L S M = ai_const 0 29 (am_run (c_Reader_readText s_Nodes_clear s_Tokens_scan s_Tokens_sortOf s_Reader_readDatum s_Nodes_addDatum) k_Reader_readText J K n) K 28 L S M := by rfl
theorem r_Reader_readText_29 {s_Nodes_clear : aS} {s_Tokens_scan : aS} {s_Tokens_sortOf : aS} {s_Reader_readDatum : aS} {s_Nodes_addDatum : aS} {J : aJ} {K : aR} {n : Nat} {L : aL} {S : List Value} {M : aM} : am_run (c_Reader_readText s_Nodes_clear s_Tokens_scan s_Tokens_sortOf s_Reader_readDatum s_Nodes_addDatum) k_Reader_readText J K (n + 1) 29 L S M = ai_istore 1 30 (am_run (c_Reader_readText s_Nodes_clear s_Tokens_scan s_Tokens_sortOf s_Reader_readDatum s_Nodes_addDatum) k_Reader_readText J K n) K 29 L S M := by rfl
theorem r_Reader_readText_30 {s_Nodes_clear : aS} {s_Tokens_scan : aS} {s_Tokens_sortOf : aS} {s_Reader_readDatum : aS} {s_Nodes_addDatum : aS} {J : aJ} {K : aR} {n : Nat} {L : aL} {S : List Value} {M : aM} : am_run (c_Reader_readText s_Nodes_clear s_Tokens_scan s_Tokens_sortOf s_Reader_readDatum s_Nodes_addDatum) k_Reader_readText J K (n + 1) 30 L S M = J 30 L S M := by rfl
theorem r_Reader_readText_31 {s_Nodes_clear : aS} {s_Tokens_scan : aS} {s_Tokens_sortOf : aS} {s_Reader_readDatum : aS} {s_Nodes_addDatum : aS} {J : aJ} {K : aR} {n : Nat} {L : aL} {S : List Value} {M : aM} : am_run (c_Reader_readText s_Nodes_clear s_Tokens_scan s_Tokens_sortOf s_Reader_readDatum s_Nodes_addDatum) k_Reader_readText J K (n + 1) 31 L S M = ai_const 400 34 (am_run (c_Reader_readText s_Nodes_clear s_Tokens_scan s_Tokens_sortOf s_Reader_readDatum s_Nodes_addDatum) k_Reader_readText J K n) K 31 L S M := by rfl
theorem r_Reader_readText_34 {s_Nodes_clear : aS} {s_Tokens_scan : aS} {s_Tokens_sortOf : aS} {s_Reader_readDatum : aS} {s_Nodes_addDatum : aS} {J : aJ} {K : aR} {n : Nat} {L : aL} {S : List Value} {M : aM} : am_run (c_Reader_readText s_Nodes_clear s_Tokens_scan s_Tokens_sortOf s_Reader_readDatum s_Nodes_addDatum) k_Reader_readText J K (n + 1) 34 L S M = ai_cmpgt 96 37 (am_run (c_Reader_readText s_Nodes_clear s_Tokens_scan s_Tokens_sortOf s_Reader_readDatum s_Nodes_addDatum) k_Reader_readText J K n) K 34 L S M := by rfl
theorem r_Reader_readText_37 {s_Nodes_clear : aS} {s_Tokens_scan : aS} {s_Tokens_sortOf : aS} {s_Reader_readDatum : aS} {s_Nodes_addDatum : aS} {J : aJ} {K : aR} {n : Nat} {L : aL} {S : List Value} {M : aM} : am_run (c_Reader_readText s_Nodes_clear s_Tokens_scan s_Tokens_sortOf s_Reader_readDatum s_Nodes_addDatum) k_Reader_readText J K (n + 1) 37 L S M = ai_aload 0 38 (am_run (c_Reader_readText s_Nodes_clear s_Tokens_scan s_Tokens_sortOf s_Reader_readDatum s_Nodes_addDatum) k_Reader_readText J K n) K 37 L S M := by rfl
theorem r_Reader_readText_38 {s_Nodes_clear : aS} {s_Tokens_scan : aS} {s_Tokens_sortOf : aS} {s_Reader_readDatum : aS} {s_Nodes_addDatum : aS} {J : aJ} {K : aR} {n : Nat} {L : aL} {S : List Value} {M : aM} : am_run (c_Reader_readText s_Nodes_clear s_Tokens_scan s_Tokens_sortOf s_Reader_readDatum s_Nodes_addDatum) k_Reader_readText J K (n + 1) 38 L S M = ai_getf 1 2 41 (am_run (c_Reader_readText s_Nodes_clear s_Tokens_scan s_Tokens_sortOf s_Reader_readDatum s_Nodes_addDatum) k_Reader_readText J K n) K 38 L S M := by rfl
theorem r_Reader_readText_41 {s_Nodes_clear : aS} {s_Tokens_scan : aS} {s_Tokens_sortOf : aS} {s_Reader_readDatum : aS} {s_Nodes_addDatum : aS} {J : aJ} {K : aR} {n : Nat} {L : aL} {S : List Value} {M : aM} : am_run (c_Reader_readText s_Nodes_clear s_Tokens_scan s_Tokens_sortOf s_Reader_readDatum s_Nodes_addDatum) k_Reader_readText J K (n + 1) 41 L S M = ai_aload 0 42 (am_run (c_Reader_readText s_Nodes_clear s_Tokens_scan s_Tokens_sortOf s_Reader_readDatum s_Nodes_addDatum) k_Reader_readText J K n) K 41 L S M := by rfl
theorem r_Reader_readText_42 {s_Nodes_clear : aS} {s_Tokens_scan : aS} {s_Tokens_sortOf : aS} {s_Reader_readDatum : aS} {s_Nodes_addDatum : aS} {J : aJ} {K : aR} {n : Nat} {L : aL} {S : List Value} {M : aM} : am_run (c_Reader_readText s_Nodes_clear s_Tokens_scan s_Tokens_sortOf s_Reader_readDatum s_Nodes_addDatum) k_Reader_readText J K (n + 1) 42 L S M = ai_getf 1 3 45 (am_run (c_Reader_readText s_Nodes_clear s_Tokens_scan s_Tokens_sortOf s_Reader_readDatum s_Nodes_addDatum) k_Reader_readText J K n) K 42 L S M := by rfl
theorem r_Reader_readText_45 {s_Nodes_clear : aS} {s_Tokens_scan : aS} {s_Tokens_sortOf : aS} {s_Reader_readDatum : aS} {s_Nodes_addDatum : aS} {J : aJ} {K : aR} {n : Nat} {L : aL} {S : List Value} {M : aM} : am_run (c_Reader_readText s_Nodes_clear s_Tokens_scan s_Tokens_sortOf s_Reader_readDatum s_Nodes_addDatum) k_Reader_readText J K (n + 1) 45 L S M = ai_callv2 3 s_Tokens_sortOf 48 (am_run (c_Reader_readText s_Nodes_clear s_Tokens_scan s_Tokens_sortOf s_Reader_readDatum s_Nodes_addDatum) k_Reader_readText J K n) K 45 L S M := by rfl
theorem r_Reader_readText_48 {s_Nodes_clear : aS} {s_Tokens_scan : aS} {s_Tokens_sortOf : aS} {s_Reader_readDatum : aS} {s_Nodes_addDatum : aS} {J : aJ} {K : aR} {n : Nat} {L : aL} {S : List Value} {M : aM} : am_run (c_Reader_readText s_Nodes_clear s_Tokens_scan s_Tokens_sortOf s_Reader_readDatum s_Nodes_addDatum) k_Reader_readText J K (n + 1) 48 L S M = ai_const 10 50 (am_run (c_Reader_readText s_Nodes_clear s_Tokens_scan s_Tokens_sortOf s_Reader_readDatum s_Nodes_addDatum) k_Reader_readText J K n) K 48 L S M := by rfl
theorem r_Reader_readText_50 {s_Nodes_clear : aS} {s_Tokens_scan : aS} {s_Tokens_sortOf : aS} {s_Reader_readDatum : aS} {s_Nodes_addDatum : aS} {J : aJ} {K : aR} {n : Nat} {L : aL} {S : List Value} {M : aM} : am_run (c_Reader_readText s_Nodes_clear s_Tokens_scan s_Tokens_sortOf s_Reader_readDatum s_Nodes_addDatum) k_Reader_readText J K (n + 1) 50 L S M = ai_cmpeq 96 53 (am_run (c_Reader_readText s_Nodes_clear s_Tokens_scan s_Tokens_sortOf s_Reader_readDatum s_Nodes_addDatum) k_Reader_readText J K n) K 50 L S M := by rfl
theorem r_Reader_readText_53 {s_Nodes_clear : aS} {s_Tokens_scan : aS} {s_Tokens_sortOf : aS} {s_Reader_readDatum : aS} {s_Nodes_addDatum : aS} {J : aJ} {K : aR} {n : Nat} {L : aL} {S : List Value} {M : aM} : am_run (c_Reader_readText s_Nodes_clear s_Tokens_scan s_Tokens_sortOf s_Reader_readDatum s_Nodes_addDatum) k_Reader_readText J K (n + 1) 53 L S M = ai_aload 0 54 (am_run (c_Reader_readText s_Nodes_clear s_Tokens_scan s_Tokens_sortOf s_Reader_readDatum s_Nodes_addDatum) k_Reader_readText J K n) K 53 L S M := by rfl
theorem r_Reader_readText_54 {s_Nodes_clear : aS} {s_Tokens_scan : aS} {s_Tokens_sortOf : aS} {s_Reader_readDatum : aS} {s_Nodes_addDatum : aS} {J : aJ} {K : aR} {n : Nat} {L : aL} {S : List Value} {M : aM} : am_run (c_Reader_readText s_Nodes_clear s_Tokens_scan s_Tokens_sortOf s_Reader_readDatum s_Nodes_addDatum) k_Reader_readText J K (n + 1) 54 L S M = ai_const 0 55 (am_run (c_Reader_readText s_Nodes_clear s_Tokens_scan s_Tokens_sortOf s_Reader_readDatum s_Nodes_addDatum) k_Reader_readText J K n) K 54 L S M := by rfl
theorem r_Reader_readText_55 {s_Nodes_clear : aS} {s_Tokens_scan : aS} {s_Tokens_sortOf : aS} {s_Reader_readDatum : aS} {s_Nodes_addDatum : aS} {J : aJ} {K : aR} {n : Nat} {L : aL} {S : List Value} {M : aM} : am_run (c_Reader_readText s_Nodes_clear s_Tokens_scan s_Tokens_sortOf s_Reader_readDatum s_Nodes_addDatum) k_Reader_readText J K (n + 1) 55 L S M = ai_callv2 1 s_Reader_readDatum 58 (am_run (c_Reader_readText s_Nodes_clear s_Tokens_scan s_Tokens_sortOf s_Reader_readDatum s_Nodes_addDatum) k_Reader_readText J K n) K 55 L S M := by rfl
theorem r_Reader_readText_58 {s_Nodes_clear : aS} {s_Tokens_scan : aS} {s_Tokens_sortOf : aS} {s_Reader_readDatum : aS} {s_Nodes_addDatum : aS} {J : aJ} {K : aR} {n : Nat} {L : aL} {S : List Value} {M : aM} : am_run (c_Reader_readText s_Nodes_clear s_Tokens_scan s_Tokens_sortOf s_Reader_readDatum s_Nodes_addDatum) k_Reader_readText J K (n + 1) 58 L S M = ai_istore 2 59 (am_run (c_Reader_readText s_Nodes_clear s_Tokens_scan s_Tokens_sortOf s_Reader_readDatum s_Nodes_addDatum) k_Reader_readText J K n) K 58 L S M := by rfl
theorem r_Reader_readText_59 {s_Nodes_clear : aS} {s_Tokens_scan : aS} {s_Tokens_sortOf : aS} {s_Reader_readDatum : aS} {s_Nodes_addDatum : aS} {J : aJ} {K : aR} {n : Nat} {L : aL} {S : List Value} {M : aM} : am_run (c_Reader_readText s_Nodes_clear s_Tokens_scan s_Tokens_sortOf s_Reader_readDatum s_Nodes_addDatum) k_Reader_readText J K (n + 1) 59 L S M = ai_iload 2 60 (am_run (c_Reader_readText s_Nodes_clear s_Tokens_scan s_Tokens_sortOf s_Reader_readDatum s_Nodes_addDatum) k_Reader_readText J K n) K 59 L S M := by rfl
theorem r_Reader_readText_60 {s_Nodes_clear : aS} {s_Tokens_scan : aS} {s_Tokens_sortOf : aS} {s_Reader_readDatum : aS} {s_Nodes_addDatum : aS} {J : aJ} {K : aR} {n : Nat} {L : aL} {S : List Value} {M : aM} : am_run (c_Reader_readText s_Nodes_clear s_Tokens_scan s_Tokens_sortOf s_Reader_readDatum s_Nodes_addDatum) k_Reader_readText J K (n + 1) 60 L S M = ai_const (-1) 61 (am_run (c_Reader_readText s_Nodes_clear s_Tokens_scan s_Tokens_sortOf s_Reader_readDatum s_Nodes_addDatum) k_Reader_readText J K n) K 60 L S M := by rfl
theorem r_Reader_readText_61 {s_Nodes_clear : aS} {s_Tokens_scan : aS} {s_Tokens_sortOf : aS} {s_Reader_readDatum : aS} {s_Nodes_addDatum : aS} {J : aJ} {K : aR} {n : Nat} {L : aL} {S : List Value} {M : aM} : am_run (c_Reader_readText s_Nodes_clear s_Tokens_scan s_Tokens_sortOf s_Reader_readDatum s_Nodes_addDatum) k_Reader_readText J K (n + 1) 61 L S M = ai_cmpne 72 64 (am_run (c_Reader_readText s_Nodes_clear s_Tokens_scan s_Tokens_sortOf s_Reader_readDatum s_Nodes_addDatum) k_Reader_readText J K n) K 61 L S M := by rfl
theorem r_Reader_readText_64 {s_Nodes_clear : aS} {s_Tokens_scan : aS} {s_Tokens_sortOf : aS} {s_Reader_readDatum : aS} {s_Nodes_addDatum : aS} {J : aJ} {K : aR} {n : Nat} {L : aL} {S : List Value} {M : aM} : am_run (c_Reader_readText s_Nodes_clear s_Tokens_scan s_Tokens_sortOf s_Reader_readDatum s_Nodes_addDatum) k_Reader_readText J K (n + 1) 64 L S M = ai_aload 0 65 (am_run (c_Reader_readText s_Nodes_clear s_Tokens_scan s_Tokens_sortOf s_Reader_readDatum s_Nodes_addDatum) k_Reader_readText J K n) K 64 L S M := by rfl
theorem r_Reader_readText_65 {s_Nodes_clear : aS} {s_Tokens_scan : aS} {s_Tokens_sortOf : aS} {s_Reader_readDatum : aS} {s_Nodes_addDatum : aS} {J : aJ} {K : aR} {n : Nat} {L : aL} {S : List Value} {M : aM} : am_run (c_Reader_readText s_Nodes_clear s_Tokens_scan s_Tokens_sortOf s_Reader_readDatum s_Nodes_addDatum) k_Reader_readText J K (n + 1) 65 L S M = ai_getf 1 1 68 (am_run (c_Reader_readText s_Nodes_clear s_Tokens_scan s_Tokens_sortOf s_Reader_readDatum s_Nodes_addDatum) k_Reader_readText J K n) K 65 L S M := by rfl
theorem r_Reader_readText_68 {s_Nodes_clear : aS} {s_Tokens_scan : aS} {s_Tokens_sortOf : aS} {s_Reader_readDatum : aS} {s_Nodes_addDatum : aS} {J : aJ} {K : aR} {n : Nat} {L : aL} {S : List Value} {M : aM} : am_run (c_Reader_readText s_Nodes_clear s_Tokens_scan s_Tokens_sortOf s_Reader_readDatum s_Nodes_addDatum) k_Reader_readText J K (n + 1) 68 L S M = ai_callv1 0 s_Nodes_clear 71 (am_run (c_Reader_readText s_Nodes_clear s_Tokens_scan s_Tokens_sortOf s_Reader_readDatum s_Nodes_addDatum) k_Reader_readText J K n) K 68 L S M := by rfl
theorem r_Reader_readText_71 {s_Nodes_clear : aS} {s_Tokens_scan : aS} {s_Tokens_sortOf : aS} {s_Reader_readDatum : aS} {s_Nodes_addDatum : aS} {J : aJ} {K : aR} {n : Nat} {L : aL} {S : List Value} {M : aM} : am_run (c_Reader_readText s_Nodes_clear s_Tokens_scan s_Tokens_sortOf s_Reader_readDatum s_Nodes_addDatum) k_Reader_readText J K (n + 1) 71 L S M = ai_vret (am_run (c_Reader_readText s_Nodes_clear s_Tokens_scan s_Tokens_sortOf s_Reader_readDatum s_Nodes_addDatum) k_Reader_readText J K n) K 71 L S M := by rfl
theorem r_Reader_readText_72 {s_Nodes_clear : aS} {s_Tokens_scan : aS} {s_Tokens_sortOf : aS} {s_Reader_readDatum : aS} {s_Nodes_addDatum : aS} {J : aJ} {K : aR} {n : Nat} {L : aL} {S : List Value} {M : aM} : am_run (c_Reader_readText s_Nodes_clear s_Tokens_scan s_Tokens_sortOf s_Reader_readDatum s_Nodes_addDatum) k_Reader_readText J K (n + 1) 72 L S M = ai_aload 0 73 (am_run (c_Reader_readText s_Nodes_clear s_Tokens_scan s_Tokens_sortOf s_Reader_readDatum s_Nodes_addDatum) k_Reader_readText J K n) K 72 L S M := by rfl
theorem r_Reader_readText_73 {s_Nodes_clear : aS} {s_Tokens_scan : aS} {s_Tokens_sortOf : aS} {s_Reader_readDatum : aS} {s_Nodes_addDatum : aS} {J : aJ} {K : aR} {n : Nat} {L : aL} {S : List Value} {M : aM} : am_run (c_Reader_readText s_Nodes_clear s_Tokens_scan s_Tokens_sortOf s_Reader_readDatum s_Nodes_addDatum) k_Reader_readText J K (n + 1) 73 L S M = ai_getf 1 1 76 (am_run (c_Reader_readText s_Nodes_clear s_Tokens_scan s_Tokens_sortOf s_Reader_readDatum s_Nodes_addDatum) k_Reader_readText J K n) K 73 L S M := by rfl
theorem r_Reader_readText_76 {s_Nodes_clear : aS} {s_Tokens_scan : aS} {s_Tokens_sortOf : aS} {s_Reader_readDatum : aS} {s_Nodes_addDatum : aS} {J : aJ} {K : aR} {n : Nat} {L : aL} {S : List Value} {M : aM} : am_run (c_Reader_readText s_Nodes_clear s_Tokens_scan s_Tokens_sortOf s_Reader_readDatum s_Nodes_addDatum) k_Reader_readText J K (n + 1) 76 L S M = ai_iload 2 77 (am_run (c_Reader_readText s_Nodes_clear s_Tokens_scan s_Tokens_sortOf s_Reader_readDatum s_Nodes_addDatum) k_Reader_readText J K n) K 76 L S M := by rfl
theorem r_Reader_readText_77 {s_Nodes_clear : aS} {s_Tokens_scan : aS} {s_Tokens_sortOf : aS} {s_Reader_readDatum : aS} {s_Nodes_addDatum : aS} {J : aJ} {K : aR} {n : Nat} {L : aL} {S : List Value} {M : aM} : am_run (c_Reader_readText s_Nodes_clear s_Tokens_scan s_Tokens_sortOf s_Reader_readDatum s_Nodes_addDatum) k_Reader_readText J K (n + 1) 77 L S M = ai_callv2 0 s_Nodes_addDatum 80 (am_run (c_Reader_readText s_Nodes_clear s_Tokens_scan s_Tokens_sortOf s_Reader_readDatum s_Nodes_addDatum) k_Reader_readText J K n) K 77 L S M := by rfl
theorem r_Reader_readText_80 {s_Nodes_clear : aS} {s_Tokens_scan : aS} {s_Tokens_sortOf : aS} {s_Reader_readDatum : aS} {s_Nodes_addDatum : aS} {J : aJ} {K : aR} {n : Nat} {L : aL} {S : List Value} {M : aM} : am_run (c_Reader_readText s_Nodes_clear s_Tokens_scan s_Tokens_sortOf s_Reader_readDatum s_Nodes_addDatum) k_Reader_readText J K (n + 1) 80 L S M = ai_aload 0 81 (am_run (c_Reader_readText s_Nodes_clear s_Tokens_scan s_Tokens_sortOf s_Reader_readDatum s_Nodes_addDatum) k_Reader_readText J K n) K 80 L S M := by rfl
theorem r_Reader_readText_81 {s_Nodes_clear : aS} {s_Tokens_scan : aS} {s_Tokens_sortOf : aS} {s_Reader_readDatum : aS} {s_Nodes_addDatum : aS} {J : aJ} {K : aR} {n : Nat} {L : aL} {S : List Value} {M : aM} : am_run (c_Reader_readText s_Nodes_clear s_Tokens_scan s_Tokens_sortOf s_Reader_readDatum s_Nodes_addDatum) k_Reader_readText J K (n + 1) 81 L S M = ai_dup 82 (am_run (c_Reader_readText s_Nodes_clear s_Tokens_scan s_Tokens_sortOf s_Reader_readDatum s_Nodes_addDatum) k_Reader_readText J K n) K 81 L S M := by rfl
theorem r_Reader_readText_82 {s_Nodes_clear : aS} {s_Tokens_scan : aS} {s_Tokens_sortOf : aS} {s_Reader_readDatum : aS} {s_Nodes_addDatum : aS} {J : aJ} {K : aR} {n : Nat} {L : aL} {S : List Value} {M : aM} : am_run (c_Reader_readText s_Nodes_clear s_Tokens_scan s_Tokens_sortOf s_Reader_readDatum s_Nodes_addDatum) k_Reader_readText J K (n + 1) 82 L S M = ai_getf 1 3 85 (am_run (c_Reader_readText s_Nodes_clear s_Tokens_scan s_Tokens_sortOf s_Reader_readDatum s_Nodes_addDatum) k_Reader_readText J K n) K 82 L S M := by rfl
theorem r_Reader_readText_85 {s_Nodes_clear : aS} {s_Tokens_scan : aS} {s_Tokens_sortOf : aS} {s_Reader_readDatum : aS} {s_Nodes_addDatum : aS} {J : aJ} {K : aR} {n : Nat} {L : aL} {S : List Value} {M : aM} : am_run (c_Reader_readText s_Nodes_clear s_Tokens_scan s_Tokens_sortOf s_Reader_readDatum s_Nodes_addDatum) k_Reader_readText J K (n + 1) 85 L S M = ai_const 1 86 (am_run (c_Reader_readText s_Nodes_clear s_Tokens_scan s_Tokens_sortOf s_Reader_readDatum s_Nodes_addDatum) k_Reader_readText J K n) K 85 L S M := by rfl
theorem r_Reader_readText_86 {s_Nodes_clear : aS} {s_Tokens_scan : aS} {s_Tokens_sortOf : aS} {s_Reader_readDatum : aS} {s_Nodes_addDatum : aS} {J : aJ} {K : aR} {n : Nat} {L : aL} {S : List Value} {M : aM} : am_run (c_Reader_readText s_Nodes_clear s_Tokens_scan s_Tokens_sortOf s_Reader_readDatum s_Nodes_addDatum) k_Reader_readText J K (n + 1) 86 L S M = ai_iadd 87 (am_run (c_Reader_readText s_Nodes_clear s_Tokens_scan s_Tokens_sortOf s_Reader_readDatum s_Nodes_addDatum) k_Reader_readText J K n) K 86 L S M := by rfl
theorem r_Reader_readText_87 {s_Nodes_clear : aS} {s_Tokens_scan : aS} {s_Tokens_sortOf : aS} {s_Reader_readDatum : aS} {s_Nodes_addDatum : aS} {J : aJ} {K : aR} {n : Nat} {L : aL} {S : List Value} {M : aM} : am_run (c_Reader_readText s_Nodes_clear s_Tokens_scan s_Tokens_sortOf s_Reader_readDatum s_Nodes_addDatum) k_Reader_readText J K (n + 1) 87 L S M = ai_putf 1 3 90 (am_run (c_Reader_readText s_Nodes_clear s_Tokens_scan s_Tokens_sortOf s_Reader_readDatum s_Nodes_addDatum) k_Reader_readText J K n) K 87 L S M := by rfl
theorem r_Reader_readText_90 {s_Nodes_clear : aS} {s_Tokens_scan : aS} {s_Tokens_sortOf : aS} {s_Reader_readDatum : aS} {s_Nodes_addDatum : aS} {J : aJ} {K : aR} {n : Nat} {L : aL} {S : List Value} {M : aM} : am_run (c_Reader_readText s_Nodes_clear s_Tokens_scan s_Tokens_sortOf s_Reader_readDatum s_Nodes_addDatum) k_Reader_readText J K (n + 1) 90 L S M = ai_iinc 1 1 93 (am_run (c_Reader_readText s_Nodes_clear s_Tokens_scan s_Tokens_sortOf s_Reader_readDatum s_Nodes_addDatum) k_Reader_readText J K n) K 90 L S M := by rfl
theorem r_Reader_readText_93 {s_Nodes_clear : aS} {s_Tokens_scan : aS} {s_Tokens_sortOf : aS} {s_Reader_readDatum : aS} {s_Nodes_addDatum : aS} {J : aJ} {K : aR} {n : Nat} {L : aL} {S : List Value} {M : aM} : am_run (c_Reader_readText s_Nodes_clear s_Tokens_scan s_Tokens_sortOf s_Reader_readDatum s_Nodes_addDatum) k_Reader_readText J K (n + 1) 93 L S M = ai_goto 30 (am_run (c_Reader_readText s_Nodes_clear s_Tokens_scan s_Tokens_sortOf s_Reader_readDatum s_Nodes_addDatum) k_Reader_readText J K n) K 93 L S M := by rfl
theorem r_Reader_readText_96 {s_Nodes_clear : aS} {s_Tokens_scan : aS} {s_Tokens_sortOf : aS} {s_Reader_readDatum : aS} {s_Nodes_addDatum : aS} {J : aJ} {K : aR} {n : Nat} {L : aL} {S : List Value} {M : aM} : am_run (c_Reader_readText s_Nodes_clear s_Tokens_scan s_Tokens_sortOf s_Reader_readDatum s_Nodes_addDatum) k_Reader_readText J K (n + 1) 96 L S M = ai_vret (am_run (c_Reader_readText s_Nodes_clear s_Tokens_scan s_Tokens_sortOf s_Reader_readDatum s_Nodes_addDatum) k_Reader_readText J K n) K 96 L S M := by rfl
def c_Reader_readDatum (s_Tokens_sortOf : aS) (s_Reader_readNumber : aS) (s_Reader_readName : aS) (s_Reader_readString : aS) (s_Reader_readQuoted : aS) (s_Reader_readList : aS) (s_Reader_fault : aS) : List (Nat × aI) := [
  (0, ai_aload 0 1),
  (1, ai_getf 1 2 4),
  (4, ai_aload 0 5),
  (5, ai_getf 1 3 8),
  (8, ai_callv2 3 s_Tokens_sortOf 11),
  (11, ai_switch [(1, 56), (2, 61), (3, 66), (4, 83), (5, 83), (6, 77), (7, 83), (8, 71)] 83),
  (56, ai_aload 0 57),
  (57, ai_callv1 1 s_Reader_readNumber 60),
  (60, ai_iret),
  (61, ai_aload 0 62),
  (62, ai_callv1 1 s_Reader_readName 65),
  (65, ai_iret),
  (66, ai_aload 0 67),
  (67, ai_callv1 1 s_Reader_readString 70),
  (70, ai_iret),
  (71, ai_aload 0 72),
  (72, ai_iload 1 73),
  (73, ai_callv2 1 s_Reader_readQuoted 76),
  (76, ai_iret),
  (77, ai_aload 0 78),
  (78, ai_iload 1 79),
  (79, ai_callv2 1 s_Reader_readList 82),
  (82, ai_iret),
  (83, ai_aload 0 84),
  (84, ai_callv1 1 s_Reader_fault 87),
  (87, ai_iret)]
set_option maxRecDepth 100000 in
set_option maxHeartbeats 4000000 in
theorem tb_Reader_readDatum {G : aG} {d : Nat} {s_Tokens_sortOf : aS} {d_Tokens_sortOf : Nat} (h_Tokens_sortOf : am_Sp G Y_Tokens_sortOf d_Tokens_sortOf s_Tokens_sortOf) (l_Tokens_sortOf : d_Tokens_sortOf < d) {s_Reader_readNumber : aS} {d_Reader_readNumber : Nat} (h_Reader_readNumber : am_Sp G Y_Reader_readNumber d_Reader_readNumber s_Reader_readNumber) (l_Reader_readNumber : d_Reader_readNumber < d) {s_Reader_readName : aS} {d_Reader_readName : Nat} (h_Reader_readName : am_Sp G Y_Reader_readName d_Reader_readName s_Reader_readName) (l_Reader_readName : d_Reader_readName < d) {s_Reader_readString : aS} {d_Reader_readString : Nat} (h_Reader_readString : am_Sp G Y_Reader_readString d_Reader_readString s_Reader_readString) (l_Reader_readString : d_Reader_readString < d) {s_Reader_readQuoted : aS} {d_Reader_readQuoted : Nat} (h_Reader_readQuoted : am_Sp G Y_Reader_readQuoted d_Reader_readQuoted s_Reader_readQuoted) (l_Reader_readQuoted : d_Reader_readQuoted < d) {s_Reader_readList : aS} {d_Reader_readList : Nat} (h_Reader_readList : am_Sp G Y_Reader_readList d_Reader_readList s_Reader_readList) (l_Reader_readList : d_Reader_readList < d) {s_Reader_fault : aS} {d_Reader_fault : Nat} (h_Reader_fault : am_Sp G Y_Reader_fault d_Reader_fault s_Reader_fault) (l_Reader_fault : d_Reader_fault < d) : am_tab G Y_Reader_readDatum d (c_Reader_readDatum s_Tokens_sortOf s_Reader_readNumber s_Reader_readName s_Reader_readString s_Reader_readQuoted s_Reader_readList s_Reader_fault) := by
  intro K p e s m args below meth c C
  exact ⟨as_aload_n C (pc := 0) (q := 0) (by decide +kernel) rfl rfl,
    as_getf C (pc := 1) (T := T_Reader) (N := 5) rfl in_Reader (by decide) rfl w_178 (by decide +kernel) rfl,
    as_aload_n C (pc := 4) (q := 0) (by decide +kernel) rfl rfl,
    as_getf C (pc := 5) (T := T_Reader) (N := 5) rfl in_Reader (by decide) rfl w_179 (by decide +kernel) rfl,
    as_callv2N C (pc := 8) h_Tokens_sortOf (T := T_Tokens) (N := 4) rfl w_304 w_75 w_303 w_12 w_301 hy_Tokens_sortOf (am_rm_of l_Tokens_sortOf (by decide)) (by decide +kernel) rfl,
    as_table C (pc := 11) (dflt := 72) (lo := 1) (hi := 8) (offs := #[45, 50, 55, 72, 72, 66, 72, 60]) (len := 45) (by decide +kernel) (by decide +kernel) (by decide) (by decide),
    as_aload_n C (pc := 56) (q := 0) (by decide +kernel) rfl rfl,
    as_callv1 C (pc := 57) h_Reader_readNumber (T := T_Reader) (N := 5) rfl w_312 w_74 w_311 w_14 w_309 hy_Reader_readNumber (am_rm_of l_Reader_readNumber (by decide)) (by decide +kernel) rfl,
    as_iret C (pc := 60) rfl (by decide +kernel),
    as_aload_n C (pc := 61) (q := 0) (by decide +kernel) rfl rfl,
    as_callv1 C (pc := 62) h_Reader_readName (T := T_Reader) (N := 5) rfl w_345 w_74 w_344 w_22 w_342 hy_Reader_readName (am_rm_of l_Reader_readName (by decide)) (by decide +kernel) rfl,
    as_iret C (pc := 65) rfl (by decide +kernel),
    as_aload_n C (pc := 66) (q := 0) (by decide +kernel) rfl rfl,
    as_callv1 C (pc := 67) h_Reader_readString (T := T_Reader) (N := 5) rfl w_353 w_74 w_352 w_24 w_350 hy_Reader_readString (am_rm_of l_Reader_readString (by decide)) (by decide +kernel) rfl,
    as_iret C (pc := 70) rfl (by decide +kernel),
    as_aload_n C (pc := 71) (q := 0) (by decide +kernel) rfl rfl,
    as_iload_n C (pc := 72) (q := 1) (by decide +kernel) rfl rfl,
    as_callv2 C (pc := 73) h_Reader_readQuoted (T := T_Reader) (N := 5) rfl w_357 w_74 w_356 w_25 w_354 hy_Reader_readQuoted (am_rm_of l_Reader_readQuoted (by decide)) (by decide +kernel) rfl,
    as_iret C (pc := 76) rfl (by decide +kernel),
    as_aload_n C (pc := 77) (q := 0) (by decide +kernel) rfl rfl,
    as_iload_n C (pc := 78) (q := 1) (by decide +kernel) rfl rfl,
    as_callv2 C (pc := 79) h_Reader_readList (T := T_Reader) (N := 5) rfl w_373 w_74 w_372 w_29 w_370 hy_Reader_readList (am_rm_of l_Reader_readList (by decide)) (by decide +kernel) rfl,
    as_iret C (pc := 82) rfl (by decide +kernel),
    as_aload_n C (pc := 83) (q := 0) (by decide +kernel) rfl rfl,
    as_callv1 C (pc := 84) h_Reader_fault (T := T_Reader) (N := 5) rfl w_333 w_74 w_332 w_19 w_330 hy_Reader_fault (am_rm_of l_Reader_fault (by decide)) (by decide +kernel) rfl,
    as_iret C (pc := 87) rfl (by decide +kernel), trivial⟩
abbrev k_Reader_readDatum : List Nat := []
theorem r_Reader_readDatum_0 {s_Tokens_sortOf : aS} {s_Reader_readNumber : aS} {s_Reader_readName : aS} {s_Reader_readString : aS} {s_Reader_readQuoted : aS} {s_Reader_readList : aS} {s_Reader_fault : aS} {J : aJ} {K : aR} {n : Nat} {L : aL} {S : List Value} {M : aM} : am_run (c_Reader_readDatum s_Tokens_sortOf s_Reader_readNumber s_Reader_readName s_Reader_readString s_Reader_readQuoted s_Reader_readList s_Reader_fault) k_Reader_readDatum J K (n + 1) 0 L S M = ai_aload 0 1 (am_run (c_Reader_readDatum s_Tokens_sortOf s_Reader_readNumber s_Reader_readName s_Reader_readString s_Reader_readQuoted s_Reader_readList s_Reader_fault) k_Reader_readDatum J K n) K 0 L S M := by rfl
theorem r_Reader_readDatum_1 {s_Tokens_sortOf : aS} {s_Reader_readNumber : aS} {s_Reader_readName : aS} {s_Reader_readString : aS} {s_Reader_readQuoted : aS} {s_Reader_readList : aS} {s_Reader_fault : aS} {J : aJ} {K : aR} {n : Nat} {L : aL} {S : List Value} {M : aM} : am_run (c_Reader_readDatum s_Tokens_sortOf s_Reader_readNumber s_Reader_readName s_Reader_readString s_Reader_readQuoted s_Reader_readList s_Reader_fault) k_Reader_readDatum J K (n + 1) 1 L S M = ai_getf 1 2 4 (am_run (c_Reader_readDatum s_Tokens_sortOf s_Reader_readNumber s_Reader_readName s_Reader_readString s_Reader_readQuoted s_Reader_readList s_Reader_fault) k_Reader_readDatum J K n) K 1 L S M := by rfl
theorem r_Reader_readDatum_4 {s_Tokens_sortOf : aS} {s_Reader_readNumber : aS} {s_Reader_readName : aS} {s_Reader_readString : aS} {s_Reader_readQuoted : aS} {s_Reader_readList : aS} {s_Reader_fault : aS} {J : aJ} {K : aR} {n : Nat} {L : aL} {S : List Value} {M : aM} : am_run (c_Reader_readDatum s_Tokens_sortOf s_Reader_readNumber s_Reader_readName s_Reader_readString s_Reader_readQuoted s_Reader_readList s_Reader_fault) k_Reader_readDatum J K (n + 1) 4 L S M = ai_aload 0 5 (am_run (c_Reader_readDatum s_Tokens_sortOf s_Reader_readNumber s_Reader_readName s_Reader_readString s_Reader_readQuoted s_Reader_readList s_Reader_fault) k_Reader_readDatum J K n) K 4 L S M := by rfl
theorem r_Reader_readDatum_5 {s_Tokens_sortOf : aS} {s_Reader_readNumber : aS} {s_Reader_readName : aS} {s_Reader_readString : aS} {s_Reader_readQuoted : aS} {s_Reader_readList : aS} {s_Reader_fault : aS} {J : aJ} {K : aR} {n : Nat} {L : aL} {S : List Value} {M : aM} : am_run (c_Reader_readDatum s_Tokens_sortOf s_Reader_readNumber s_Reader_readName s_Reader_readString s_Reader_readQuoted s_Reader_readList s_Reader_fault) k_Reader_readDatum J K (n + 1) 5 L S M = ai_getf 1 3 8 (am_run (c_Reader_readDatum s_Tokens_sortOf s_Reader_readNumber s_Reader_readName s_Reader_readString s_Reader_readQuoted s_Reader_readList s_Reader_fault) k_Reader_readDatum J K n) K 5 L S M := by rfl
theorem r_Reader_readDatum_8 {s_Tokens_sortOf : aS} {s_Reader_readNumber : aS} {s_Reader_readName : aS} {s_Reader_readString : aS} {s_Reader_readQuoted : aS} {s_Reader_readList : aS} {s_Reader_fault : aS} {J : aJ} {K : aR} {n : Nat} {L : aL} {S : List Value} {M : aM} : am_run (c_Reader_readDatum s_Tokens_sortOf s_Reader_readNumber s_Reader_readName s_Reader_readString s_Reader_readQuoted s_Reader_readList s_Reader_fault) k_Reader_readDatum J K (n + 1) 8 L S M = ai_callv2 3 s_Tokens_sortOf 11 (am_run (c_Reader_readDatum s_Tokens_sortOf s_Reader_readNumber s_Reader_readName s_Reader_readString s_Reader_readQuoted s_Reader_readList s_Reader_fault) k_Reader_readDatum J K n) K 8 L S M := by rfl
theorem r_Reader_readDatum_11 {s_Tokens_sortOf : aS} {s_Reader_readNumber : aS} {s_Reader_readName : aS} {s_Reader_readString : aS} {s_Reader_readQuoted : aS} {s_Reader_readList : aS} {s_Reader_fault : aS} {J : aJ} {K : aR} {n : Nat} {L : aL} {S : List Value} {M : aM} : am_run (c_Reader_readDatum s_Tokens_sortOf s_Reader_readNumber s_Reader_readName s_Reader_readString s_Reader_readQuoted s_Reader_readList s_Reader_fault) k_Reader_readDatum J K (n + 1) 11 L S M = ai_switch [(1, 56), (2, 61), (3, 66), (4, 83), (5, 83), (6, 77), (7, 83), (8, 71)] 83 (am_run (c_Reader_readDatum s_Tokens_sortOf s_Reader_readNumber s_Reader_readName s_Reader_readString s_Reader_readQuoted s_Reader_readList s_Reader_fault) k_Reader_readDatum J K n) K 11 L S M := by rfl
theorem r_Reader_readDatum_56 {s_Tokens_sortOf : aS} {s_Reader_readNumber : aS} {s_Reader_readName : aS} {s_Reader_readString : aS} {s_Reader_readQuoted : aS} {s_Reader_readList : aS} {s_Reader_fault : aS} {J : aJ} {K : aR} {n : Nat} {L : aL} {S : List Value} {M : aM} : am_run (c_Reader_readDatum s_Tokens_sortOf s_Reader_readNumber s_Reader_readName s_Reader_readString s_Reader_readQuoted s_Reader_readList s_Reader_fault) k_Reader_readDatum J K (n + 1) 56 L S M = ai_aload 0 57 (am_run (c_Reader_readDatum s_Tokens_sortOf s_Reader_readNumber s_Reader_readName s_Reader_readString s_Reader_readQuoted s_Reader_readList s_Reader_fault) k_Reader_readDatum J K n) K 56 L S M := by rfl
theorem r_Reader_readDatum_57 {s_Tokens_sortOf : aS} {s_Reader_readNumber : aS} {s_Reader_readName : aS} {s_Reader_readString : aS} {s_Reader_readQuoted : aS} {s_Reader_readList : aS} {s_Reader_fault : aS} {J : aJ} {K : aR} {n : Nat} {L : aL} {S : List Value} {M : aM} : am_run (c_Reader_readDatum s_Tokens_sortOf s_Reader_readNumber s_Reader_readName s_Reader_readString s_Reader_readQuoted s_Reader_readList s_Reader_fault) k_Reader_readDatum J K (n + 1) 57 L S M = ai_callv1 1 s_Reader_readNumber 60 (am_run (c_Reader_readDatum s_Tokens_sortOf s_Reader_readNumber s_Reader_readName s_Reader_readString s_Reader_readQuoted s_Reader_readList s_Reader_fault) k_Reader_readDatum J K n) K 57 L S M := by rfl
theorem r_Reader_readDatum_60 {s_Tokens_sortOf : aS} {s_Reader_readNumber : aS} {s_Reader_readName : aS} {s_Reader_readString : aS} {s_Reader_readQuoted : aS} {s_Reader_readList : aS} {s_Reader_fault : aS} {J : aJ} {K : aR} {n : Nat} {L : aL} {S : List Value} {M : aM} : am_run (c_Reader_readDatum s_Tokens_sortOf s_Reader_readNumber s_Reader_readName s_Reader_readString s_Reader_readQuoted s_Reader_readList s_Reader_fault) k_Reader_readDatum J K (n + 1) 60 L S M = ai_iret (am_run (c_Reader_readDatum s_Tokens_sortOf s_Reader_readNumber s_Reader_readName s_Reader_readString s_Reader_readQuoted s_Reader_readList s_Reader_fault) k_Reader_readDatum J K n) K 60 L S M := by rfl
theorem r_Reader_readDatum_61 {s_Tokens_sortOf : aS} {s_Reader_readNumber : aS} {s_Reader_readName : aS} {s_Reader_readString : aS} {s_Reader_readQuoted : aS} {s_Reader_readList : aS} {s_Reader_fault : aS} {J : aJ} {K : aR} {n : Nat} {L : aL} {S : List Value} {M : aM} : am_run (c_Reader_readDatum s_Tokens_sortOf s_Reader_readNumber s_Reader_readName s_Reader_readString s_Reader_readQuoted s_Reader_readList s_Reader_fault) k_Reader_readDatum J K (n + 1) 61 L S M = ai_aload 0 62 (am_run (c_Reader_readDatum s_Tokens_sortOf s_Reader_readNumber s_Reader_readName s_Reader_readString s_Reader_readQuoted s_Reader_readList s_Reader_fault) k_Reader_readDatum J K n) K 61 L S M := by rfl
theorem r_Reader_readDatum_62 {s_Tokens_sortOf : aS} {s_Reader_readNumber : aS} {s_Reader_readName : aS} {s_Reader_readString : aS} {s_Reader_readQuoted : aS} {s_Reader_readList : aS} {s_Reader_fault : aS} {J : aJ} {K : aR} {n : Nat} {L : aL} {S : List Value} {M : aM} : am_run (c_Reader_readDatum s_Tokens_sortOf s_Reader_readNumber s_Reader_readName s_Reader_readString s_Reader_readQuoted s_Reader_readList s_Reader_fault) k_Reader_readDatum J K (n + 1) 62 L S M = ai_callv1 1 s_Reader_readName 65 (am_run (c_Reader_readDatum s_Tokens_sortOf s_Reader_readNumber s_Reader_readName s_Reader_readString s_Reader_readQuoted s_Reader_readList s_Reader_fault) k_Reader_readDatum J K n) K 62 L S M := by rfl
theorem r_Reader_readDatum_65 {s_Tokens_sortOf : aS} {s_Reader_readNumber : aS} {s_Reader_readName : aS} {s_Reader_readString : aS} {s_Reader_readQuoted : aS} {s_Reader_readList : aS} {s_Reader_fault : aS} {J : aJ} {K : aR} {n : Nat} {L : aL} {S : List Value} {M : aM} : am_run (c_Reader_readDatum s_Tokens_sortOf s_Reader_readNumber s_Reader_readName s_Reader_readString s_Reader_readQuoted s_Reader_readList s_Reader_fault) k_Reader_readDatum J K (n + 1) 65 L S M = ai_iret (am_run (c_Reader_readDatum s_Tokens_sortOf s_Reader_readNumber s_Reader_readName s_Reader_readString s_Reader_readQuoted s_Reader_readList s_Reader_fault) k_Reader_readDatum J K n) K 65 L S M := by rfl
theorem r_Reader_readDatum_66 {s_Tokens_sortOf : aS} {s_Reader_readNumber : aS} {s_Reader_readName : aS} {s_Reader_readString : aS} {s_Reader_readQuoted : aS} {s_Reader_readList : aS} {s_Reader_fault : aS} {J : aJ} {K : aR} {n : Nat} {L : aL} {S : List Value} {M : aM} : am_run (c_Reader_readDatum s_Tokens_sortOf s_Reader_readNumber s_Reader_readName s_Reader_readString s_Reader_readQuoted s_Reader_readList s_Reader_fault) k_Reader_readDatum J K (n + 1) 66 L S M = ai_aload 0 67 (am_run (c_Reader_readDatum s_Tokens_sortOf s_Reader_readNumber s_Reader_readName s_Reader_readString s_Reader_readQuoted s_Reader_readList s_Reader_fault) k_Reader_readDatum J K n) K 66 L S M := by rfl
theorem r_Reader_readDatum_67 {s_Tokens_sortOf : aS} {s_Reader_readNumber : aS} {s_Reader_readName : aS} {s_Reader_readString : aS} {s_Reader_readQuoted : aS} {s_Reader_readList : aS} {s_Reader_fault : aS} {J : aJ} {K : aR} {n : Nat} {L : aL} {S : List Value} {M : aM} : am_run (c_Reader_readDatum s_Tokens_sortOf s_Reader_readNumber s_Reader_readName s_Reader_readString s_Reader_readQuoted s_Reader_readList s_Reader_fault) k_Reader_readDatum J K (n + 1) 67 L S M = ai_callv1 1 s_Reader_readString 70 (am_run (c_Reader_readDatum s_Tokens_sortOf s_Reader_readNumber s_Reader_readName s_Reader_readString s_Reader_readQuoted s_Reader_readList s_Reader_fault) k_Reader_readDatum J K n) K 67 L S M := by rfl
theorem r_Reader_readDatum_70 {s_Tokens_sortOf : aS} {s_Reader_readNumber : aS} {s_Reader_readName : aS} {s_Reader_readString : aS} {s_Reader_readQuoted : aS} {s_Reader_readList : aS} {s_Reader_fault : aS} {J : aJ} {K : aR} {n : Nat} {L : aL} {S : List Value} {M : aM} : am_run (c_Reader_readDatum s_Tokens_sortOf s_Reader_readNumber s_Reader_readName s_Reader_readString s_Reader_readQuoted s_Reader_readList s_Reader_fault) k_Reader_readDatum J K (n + 1) 70 L S M = ai_iret (am_run (c_Reader_readDatum s_Tokens_sortOf s_Reader_readNumber s_Reader_readName s_Reader_readString s_Reader_readQuoted s_Reader_readList s_Reader_fault) k_Reader_readDatum J K n) K 70 L S M := by rfl
theorem r_Reader_readDatum_71 {s_Tokens_sortOf : aS} {s_Reader_readNumber : aS} {s_Reader_readName : aS} {s_Reader_readString : aS} {s_Reader_readQuoted : aS} {s_Reader_readList : aS} {s_Reader_fault : aS} {J : aJ} {K : aR} {n : Nat} {L : aL} {S : List Value} {M : aM} : am_run (c_Reader_readDatum s_Tokens_sortOf s_Reader_readNumber s_Reader_readName s_Reader_readString s_Reader_readQuoted s_Reader_readList s_Reader_fault) k_Reader_readDatum J K (n + 1) 71 L S M = ai_aload 0 72 (am_run (c_Reader_readDatum s_Tokens_sortOf s_Reader_readNumber s_Reader_readName s_Reader_readString s_Reader_readQuoted s_Reader_readList s_Reader_fault) k_Reader_readDatum J K n) K 71 L S M := by rfl
theorem r_Reader_readDatum_72 {s_Tokens_sortOf : aS} {s_Reader_readNumber : aS} {s_Reader_readName : aS} {s_Reader_readString : aS} {s_Reader_readQuoted : aS} {s_Reader_readList : aS} {s_Reader_fault : aS} {J : aJ} {K : aR} {n : Nat} {L : aL} {S : List Value} {M : aM} : am_run (c_Reader_readDatum s_Tokens_sortOf s_Reader_readNumber s_Reader_readName s_Reader_readString s_Reader_readQuoted s_Reader_readList s_Reader_fault) k_Reader_readDatum J K (n + 1) 72 L S M = ai_iload 1 73 (am_run (c_Reader_readDatum s_Tokens_sortOf s_Reader_readNumber s_Reader_readName s_Reader_readString s_Reader_readQuoted s_Reader_readList s_Reader_fault) k_Reader_readDatum J K n) K 72 L S M := by rfl
theorem r_Reader_readDatum_73 {s_Tokens_sortOf : aS} {s_Reader_readNumber : aS} {s_Reader_readName : aS} {s_Reader_readString : aS} {s_Reader_readQuoted : aS} {s_Reader_readList : aS} {s_Reader_fault : aS} {J : aJ} {K : aR} {n : Nat} {L : aL} {S : List Value} {M : aM} : am_run (c_Reader_readDatum s_Tokens_sortOf s_Reader_readNumber s_Reader_readName s_Reader_readString s_Reader_readQuoted s_Reader_readList s_Reader_fault) k_Reader_readDatum J K (n + 1) 73 L S M = ai_callv2 1 s_Reader_readQuoted 76 (am_run (c_Reader_readDatum s_Tokens_sortOf s_Reader_readNumber s_Reader_readName s_Reader_readString s_Reader_readQuoted s_Reader_readList s_Reader_fault) k_Reader_readDatum J K n) K 73 L S M := by rfl
theorem r_Reader_readDatum_76 {s_Tokens_sortOf : aS} {s_Reader_readNumber : aS} {s_Reader_readName : aS} {s_Reader_readString : aS} {s_Reader_readQuoted : aS} {s_Reader_readList : aS} {s_Reader_fault : aS} {J : aJ} {K : aR} {n : Nat} {L : aL} {S : List Value} {M : aM} : am_run (c_Reader_readDatum s_Tokens_sortOf s_Reader_readNumber s_Reader_readName s_Reader_readString s_Reader_readQuoted s_Reader_readList s_Reader_fault) k_Reader_readDatum J K (n + 1) 76 L S M = ai_iret (am_run (c_Reader_readDatum s_Tokens_sortOf s_Reader_readNumber s_Reader_readName s_Reader_readString s_Reader_readQuoted s_Reader_readList s_Reader_fault) k_Reader_readDatum J K n) K 76 L S M := by rfl
theorem r_Reader_readDatum_77 {s_Tokens_sortOf : aS} {s_Reader_readNumber : aS} {s_Reader_readName : aS} {s_Reader_readString : aS} {s_Reader_readQuoted : aS} {s_Reader_readList : aS} {s_Reader_fault : aS} {J : aJ} {K : aR} {n : Nat} {L : aL} {S : List Value} {M : aM} : am_run (c_Reader_readDatum s_Tokens_sortOf s_Reader_readNumber s_Reader_readName s_Reader_readString s_Reader_readQuoted s_Reader_readList s_Reader_fault) k_Reader_readDatum J K (n + 1) 77 L S M = ai_aload 0 78 (am_run (c_Reader_readDatum s_Tokens_sortOf s_Reader_readNumber s_Reader_readName s_Reader_readString s_Reader_readQuoted s_Reader_readList s_Reader_fault) k_Reader_readDatum J K n) K 77 L S M := by rfl
theorem r_Reader_readDatum_78 {s_Tokens_sortOf : aS} {s_Reader_readNumber : aS} {s_Reader_readName : aS} {s_Reader_readString : aS} {s_Reader_readQuoted : aS} {s_Reader_readList : aS} {s_Reader_fault : aS} {J : aJ} {K : aR} {n : Nat} {L : aL} {S : List Value} {M : aM} : am_run (c_Reader_readDatum s_Tokens_sortOf s_Reader_readNumber s_Reader_readName s_Reader_readString s_Reader_readQuoted s_Reader_readList s_Reader_fault) k_Reader_readDatum J K (n + 1) 78 L S M = ai_iload 1 79 (am_run (c_Reader_readDatum s_Tokens_sortOf s_Reader_readNumber s_Reader_readName s_Reader_readString s_Reader_readQuoted s_Reader_readList s_Reader_fault) k_Reader_readDatum J K n) K 78 L S M := by rfl
theorem r_Reader_readDatum_79 {s_Tokens_sortOf : aS} {s_Reader_readNumber : aS} {s_Reader_readName : aS} {s_Reader_readString : aS} {s_Reader_readQuoted : aS} {s_Reader_readList : aS} {s_Reader_fault : aS} {J : aJ} {K : aR} {n : Nat} {L : aL} {S : List Value} {M : aM} : am_run (c_Reader_readDatum s_Tokens_sortOf s_Reader_readNumber s_Reader_readName s_Reader_readString s_Reader_readQuoted s_Reader_readList s_Reader_fault) k_Reader_readDatum J K (n + 1) 79 L S M = ai_callv2 1 s_Reader_readList 82 (am_run (c_Reader_readDatum s_Tokens_sortOf s_Reader_readNumber s_Reader_readName s_Reader_readString s_Reader_readQuoted s_Reader_readList s_Reader_fault) k_Reader_readDatum J K n) K 79 L S M := by rfl
theorem r_Reader_readDatum_82 {s_Tokens_sortOf : aS} {s_Reader_readNumber : aS} {s_Reader_readName : aS} {s_Reader_readString : aS} {s_Reader_readQuoted : aS} {s_Reader_readList : aS} {s_Reader_fault : aS} {J : aJ} {K : aR} {n : Nat} {L : aL} {S : List Value} {M : aM} : am_run (c_Reader_readDatum s_Tokens_sortOf s_Reader_readNumber s_Reader_readName s_Reader_readString s_Reader_readQuoted s_Reader_readList s_Reader_fault) k_Reader_readDatum J K (n + 1) 82 L S M = ai_iret (am_run (c_Reader_readDatum s_Tokens_sortOf s_Reader_readNumber s_Reader_readName s_Reader_readString s_Reader_readQuoted s_Reader_readList s_Reader_fault) k_Reader_readDatum J K n) K 82 L S M := by rfl
theorem r_Reader_readDatum_83 {s_Tokens_sortOf : aS} {s_Reader_readNumber : aS} {s_Reader_readName : aS} {s_Reader_readString : aS} {s_Reader_readQuoted : aS} {s_Reader_readList : aS} {s_Reader_fault : aS} {J : aJ} {K : aR} {n : Nat} {L : aL} {S : List Value} {M : aM} : am_run (c_Reader_readDatum s_Tokens_sortOf s_Reader_readNumber s_Reader_readName s_Reader_readString s_Reader_readQuoted s_Reader_readList s_Reader_fault) k_Reader_readDatum J K (n + 1) 83 L S M = ai_aload 0 84 (am_run (c_Reader_readDatum s_Tokens_sortOf s_Reader_readNumber s_Reader_readName s_Reader_readString s_Reader_readQuoted s_Reader_readList s_Reader_fault) k_Reader_readDatum J K n) K 83 L S M := by rfl
theorem r_Reader_readDatum_84 {s_Tokens_sortOf : aS} {s_Reader_readNumber : aS} {s_Reader_readName : aS} {s_Reader_readString : aS} {s_Reader_readQuoted : aS} {s_Reader_readList : aS} {s_Reader_fault : aS} {J : aJ} {K : aR} {n : Nat} {L : aL} {S : List Value} {M : aM} : am_run (c_Reader_readDatum s_Tokens_sortOf s_Reader_readNumber s_Reader_readName s_Reader_readString s_Reader_readQuoted s_Reader_readList s_Reader_fault) k_Reader_readDatum J K (n + 1) 84 L S M = ai_callv1 1 s_Reader_fault 87 (am_run (c_Reader_readDatum s_Tokens_sortOf s_Reader_readNumber s_Reader_readName s_Reader_readString s_Reader_readQuoted s_Reader_readList s_Reader_fault) k_Reader_readDatum J K n) K 84 L S M := by rfl
theorem r_Reader_readDatum_87 {s_Tokens_sortOf : aS} {s_Reader_readNumber : aS} {s_Reader_readName : aS} {s_Reader_readString : aS} {s_Reader_readQuoted : aS} {s_Reader_readList : aS} {s_Reader_fault : aS} {J : aJ} {K : aR} {n : Nat} {L : aL} {S : List Value} {M : aM} : am_run (c_Reader_readDatum s_Tokens_sortOf s_Reader_readNumber s_Reader_readName s_Reader_readString s_Reader_readQuoted s_Reader_readList s_Reader_fault) k_Reader_readDatum J K (n + 1) 87 L S M = ai_iret (am_run (c_Reader_readDatum s_Tokens_sortOf s_Reader_readNumber s_Reader_readName s_Reader_readString s_Reader_readQuoted s_Reader_readList s_Reader_fault) k_Reader_readDatum J K n) K 87 L S M := by rfl
def c_Reader_readNumber (s_Tokens_endOf : aS) (s_Tokens_startOf : aS) (s_Text_at : aS) (s_Reader_add : aS) (s_Nodes_setAmount : aS) : List (Nat × aI) := [
  (0, ai_aload 0 1),
  (1, ai_getf 1 2 4),
  (4, ai_aload 0 5),
  (5, ai_getf 1 3 8),
  (8, ai_callv2 3 s_Tokens_endOf 11),
  (11, ai_istore 1 12),
  (12, ai_aload 0 13),
  (13, ai_getf 1 2 16),
  (16, ai_aload 0 17),
  (17, ai_getf 1 3 20),
  (20, ai_callv2 3 s_Tokens_startOf 23),
  (23, ai_istore 2 24),
  (24, ai_aload 0 25),
  (25, ai_getf 1 0 28),
  (28, ai_iload 2 29),
  (29, ai_callv2 2 s_Text_at 32),
  (32, ai_const 45 34),
  (34, ai_cmpne 41 37),
  (37, ai_const 1 38),
  (38, ai_goto 42),
  (41, ai_const 0 42),
  (42, ai_istore 3 43),
  (43, ai_const 0 44),
  (44, ai_istore 4 46),
  (46, ai_iload 3 47),
  (47, ai_ifeq 56 50),
  (50, ai_iload 2 51),
  (51, ai_const 1 52),
  (52, ai_iadd 53),
  (53, ai_goto 57),
  (56, ai_iload 2 57),
  (57, ai_istore 5 59),
  (59, ai_iload 5 61),
  (61, ai_iload 1 62),
  (62, ai_cmpge 91 65),
  (65, ai_iload 4 67),
  (67, ai_const 10 69),
  (69, ai_imul 70),
  (70, ai_aload 0 71),
  (71, ai_getf 1 0 74),
  (74, ai_iload 5 76),
  (76, ai_callv2 2 s_Text_at 79),
  (79, ai_const 48 81),
  (81, ai_isub 82),
  (82, ai_iadd 83),
  (83, ai_istore 4 85),
  (85, ai_iinc 5 1 88),
  (88, ai_goto 59),
  (91, ai_aload 0 92),
  (92, ai_const 1 93),
  (93, ai_callv2 1 s_Reader_add 96),
  (96, ai_istore 5 98),
  (98, ai_aload 0 99),
  (99, ai_getf 1 1 102),
  (102, ai_iload 5 104),
  (104, ai_iload 3 105),
  (105, ai_ifeq 114 108),
  (108, ai_iload 4 110),
  (110, ai_ineg 111),
  (111, ai_goto 116),
  (114, ai_iload 4 116),
  (116, ai_callv3 0 s_Nodes_setAmount 119),
  (119, ai_iload 5 121),
  (121, ai_iret)]
set_option maxRecDepth 100000 in
set_option maxHeartbeats 4000000 in
theorem tb_Reader_readNumber {G : aG} {d : Nat} {s_Tokens_endOf : aS} {d_Tokens_endOf : Nat} (h_Tokens_endOf : am_Sp G Y_Tokens_endOf d_Tokens_endOf s_Tokens_endOf) (l_Tokens_endOf : d_Tokens_endOf < d) {s_Tokens_startOf : aS} {d_Tokens_startOf : Nat} (h_Tokens_startOf : am_Sp G Y_Tokens_startOf d_Tokens_startOf s_Tokens_startOf) (l_Tokens_startOf : d_Tokens_startOf < d) {s_Text_at : aS} {d_Text_at : Nat} (h_Text_at : am_Sp G Y_Text_at d_Text_at s_Text_at) (l_Text_at : d_Text_at < d) {s_Reader_add : aS} {d_Reader_add : Nat} (h_Reader_add : am_Sp G Y_Reader_add d_Reader_add s_Reader_add) (l_Reader_add : d_Reader_add < d) {s_Nodes_setAmount : aS} {d_Nodes_setAmount : Nat} (h_Nodes_setAmount : am_Sp G Y_Nodes_setAmount d_Nodes_setAmount s_Nodes_setAmount) (l_Nodes_setAmount : d_Nodes_setAmount < d) : am_tab G Y_Reader_readNumber d (c_Reader_readNumber s_Tokens_endOf s_Tokens_startOf s_Text_at s_Reader_add s_Nodes_setAmount) := by
  intro K p e s m args below meth c C
  exact ⟨as_aload_n C (pc := 0) (q := 0) (by decide +kernel) rfl rfl,
    as_getf C (pc := 1) (T := T_Reader) (N := 5) rfl in_Reader (by decide) rfl w_178 (by decide +kernel) rfl,
    as_aload_n C (pc := 4) (q := 0) (by decide +kernel) rfl rfl,
    as_getf C (pc := 5) (T := T_Reader) (N := 5) rfl in_Reader (by decide) rfl w_179 (by decide +kernel) rfl,
    as_callv2N C (pc := 8) h_Tokens_endOf (T := T_Tokens) (N := 4) rfl w_316 w_75 w_315 w_15 w_313 hy_Tokens_endOf (am_rm_of l_Tokens_endOf (by decide)) (by decide +kernel) rfl,
    as_istore_n C (pc := 11) (q := 1) (by decide +kernel) rfl (by decide) rfl,
    as_aload_n C (pc := 12) (q := 0) (by decide +kernel) rfl rfl,
    as_getf C (pc := 13) (T := T_Reader) (N := 5) rfl in_Reader (by decide) rfl w_178 (by decide +kernel) rfl,
    as_aload_n C (pc := 16) (q := 0) (by decide +kernel) rfl rfl,
    as_getf C (pc := 17) (T := T_Reader) (N := 5) rfl in_Reader (by decide) rfl w_179 (by decide +kernel) rfl,
    as_callv2N C (pc := 20) h_Tokens_startOf (T := T_Tokens) (N := 4) rfl w_320 w_75 w_319 w_16 w_317 hy_Tokens_startOf (am_rm_of l_Tokens_startOf (by decide)) (by decide +kernel) rfl,
    as_istore_n C (pc := 23) (q := 2) (by decide +kernel) rfl (by decide) rfl,
    as_aload_n C (pc := 24) (q := 0) (by decide +kernel) rfl rfl,
    as_getf C (pc := 25) (T := T_Reader) (N := 5) rfl in_Reader (by decide) rfl w_176 (by decide +kernel) rfl,
    as_iload_n C (pc := 28) (q := 2) (by decide +kernel) rfl rfl,
    as_callv2N C (pc := 29) h_Text_at (T := T_Text) (N := 2) rfl w_270 w_71 w_269 w_5 w_321 hy_Text_at (am_rm_of l_Text_at (by decide)) (by decide +kernel) rfl,
    as_bipush C (pc := 32) (n := 45) (by decide +kernel) (by decide +kernel) rfl,
    as_cmpne C (pc := 34) (off := 7) (by decide +kernel) (by decide) rfl,
    as_iconst C (pc := 37) (n := 1) (by decide +kernel) (by decide +kernel) rfl,
    as_goto C (pc := 38) (off := 4) (by decide +kernel) (by decide),
    as_iconst C (pc := 41) (n := 0) (by decide +kernel) (by decide +kernel) rfl,
    as_istore_n C (pc := 42) (q := 3) (by decide +kernel) rfl (by decide) rfl,
    as_iconst C (pc := 43) (n := 0) (by decide +kernel) (by decide +kernel) rfl,
    as_istore C (pc := 44) (k := 4) (by decide +kernel) (by decide) rfl,
    as_iload_n C (pc := 46) (q := 3) (by decide +kernel) rfl rfl,
    as_ifeq C (pc := 47) (off := 9) (by decide +kernel) (by decide) rfl,
    as_iload_n C (pc := 50) (q := 2) (by decide +kernel) rfl rfl,
    as_iconst C (pc := 51) (n := 1) (by decide +kernel) (by decide +kernel) rfl,
    as_iadd C (pc := 52) (by decide +kernel) rfl,
    as_goto C (pc := 53) (off := 4) (by decide +kernel) (by decide),
    as_iload_n C (pc := 56) (q := 2) (by decide +kernel) rfl rfl,
    as_istore C (pc := 57) (k := 5) (by decide +kernel) (by decide) rfl,
    as_iload C (pc := 59) (k := 5) (by decide +kernel) rfl,
    as_iload_n C (pc := 61) (q := 1) (by decide +kernel) rfl rfl,
    as_cmpge C (pc := 62) (off := 29) (by decide +kernel) (by decide) rfl,
    as_iload C (pc := 65) (k := 4) (by decide +kernel) rfl,
    as_bipush C (pc := 67) (n := 10) (by decide +kernel) (by decide +kernel) rfl,
    as_imul C (pc := 69) (by decide +kernel) rfl,
    as_aload_n C (pc := 70) (q := 0) (by decide +kernel) rfl rfl,
    as_getf C (pc := 71) (T := T_Reader) (N := 5) rfl in_Reader (by decide) rfl w_176 (by decide +kernel) rfl,
    as_iload C (pc := 74) (k := 5) (by decide +kernel) rfl,
    as_callv2N C (pc := 76) h_Text_at (T := T_Text) (N := 2) rfl w_270 w_71 w_269 w_5 w_321 hy_Text_at (am_rm_of l_Text_at (by decide)) (by decide +kernel) rfl,
    as_bipush C (pc := 79) (n := 48) (by decide +kernel) (by decide +kernel) rfl,
    as_isub C (pc := 81) (by decide +kernel) rfl,
    as_iadd C (pc := 82) (by decide +kernel) rfl,
    as_istore C (pc := 83) (k := 4) (by decide +kernel) (by decide) rfl,
    as_iinc C (pc := 85) (k := 5) (n := 1) (by decide +kernel) (by decide +kernel) (by decide) rfl,
    as_goto C (pc := 88) (off := (-29)) (by decide +kernel) (by decide),
    as_aload_n C (pc := 91) (q := 0) (by decide +kernel) rfl rfl,
    as_iconst C (pc := 92) (n := 1) (by decide +kernel) (by decide +kernel) rfl,
    as_callv2 C (pc := 93) h_Reader_add (T := T_Reader) (N := 5) rfl w_325 w_74 w_324 w_17 w_322 hy_Reader_add (am_rm_of l_Reader_add (by decide)) (by decide +kernel) rfl,
    as_istore C (pc := 96) (k := 5) (by decide +kernel) (by decide) rfl,
    as_aload_n C (pc := 98) (q := 0) (by decide +kernel) rfl rfl,
    as_getf C (pc := 99) (T := T_Reader) (N := 5) rfl in_Reader (by decide) rfl w_177 (by decide +kernel) rfl,
    as_iload C (pc := 102) (k := 5) (by decide +kernel) rfl,
    as_iload_n C (pc := 104) (q := 3) (by decide +kernel) rfl rfl,
    as_ifeq C (pc := 105) (off := 9) (by decide +kernel) (by decide) rfl,
    as_iload C (pc := 108) (k := 4) (by decide +kernel) rfl,
    as_ineg C (pc := 110) (by decide +kernel) rfl,
    as_goto C (pc := 111) (off := 5) (by decide +kernel) (by decide),
    as_iload C (pc := 114) (k := 4) (by decide +kernel) rfl,
    as_callv3N C (pc := 116) h_Nodes_setAmount (T := T_Nodes) (N := 10) rfl w_337 w_72 w_336 w_20 w_334 hy_Nodes_setAmount (am_rm_of l_Nodes_setAmount (by decide)) (by decide +kernel) rfl,
    as_iload C (pc := 119) (k := 5) (by decide +kernel) rfl,
    as_iret C (pc := 121) rfl (by decide +kernel), trivial⟩
abbrev k_Reader_readNumber : List Nat := [59]
set_option maxRecDepth 20000 in
theorem q_Reader_readNumber_59 {s_Tokens_endOf : aS} {s_Tokens_startOf : aS} {s_Text_at : aS} {s_Reader_add : aS} {s_Nodes_setAmount : aS} : am_at (c_Reader_readNumber s_Tokens_endOf s_Tokens_startOf s_Text_at s_Reader_add s_Nodes_setAmount) 59 = ai_iload 5 61 := by rfl
set_option maxRecDepth 20000 in
theorem r_Reader_readNumber_0 {s_Tokens_endOf : aS} {s_Tokens_startOf : aS} {s_Text_at : aS} {s_Reader_add : aS} {s_Nodes_setAmount : aS} {J : aJ} {K : aR} {n : Nat} {L : aL} {S : List Value} {M : aM} : am_run (c_Reader_readNumber s_Tokens_endOf s_Tokens_startOf s_Text_at s_Reader_add s_Nodes_setAmount) k_Reader_readNumber J K (n + 1) 0 L S M = ai_aload 0 1 (am_run (c_Reader_readNumber s_Tokens_endOf s_Tokens_startOf s_Text_at s_Reader_add s_Nodes_setAmount) k_Reader_readNumber J K n) K 0 L S M := by rfl
set_option maxRecDepth 20000 in
theorem r_Reader_readNumber_1 {s_Tokens_endOf : aS} {s_Tokens_startOf : aS} {s_Text_at : aS} {s_Reader_add : aS} {s_Nodes_setAmount : aS} {J : aJ} {K : aR} {n : Nat} {L : aL} {S : List Value} {M : aM} : am_run (c_Reader_readNumber s_Tokens_endOf s_Tokens_startOf s_Text_at s_Reader_add s_Nodes_setAmount) k_Reader_readNumber J K (n + 1) 1 L S M = ai_getf 1 2 4 (am_run (c_Reader_readNumber s_Tokens_endOf s_Tokens_startOf s_Text_at s_Reader_add s_Nodes_setAmount) k_Reader_readNumber J K n) K 1 L S M := by rfl
set_option maxRecDepth 20000 in
theorem r_Reader_readNumber_4 {s_Tokens_endOf : aS} {s_Tokens_startOf : aS} {s_Text_at : aS} {s_Reader_add : aS} {s_Nodes_setAmount : aS} {J : aJ} {K : aR} {n : Nat} {L : aL} {S : List Value} {M : aM} : am_run (c_Reader_readNumber s_Tokens_endOf s_Tokens_startOf s_Text_at s_Reader_add s_Nodes_setAmount) k_Reader_readNumber J K (n + 1) 4 L S M = ai_aload 0 5 (am_run (c_Reader_readNumber s_Tokens_endOf s_Tokens_startOf s_Text_at s_Reader_add s_Nodes_setAmount) k_Reader_readNumber J K n) K 4 L S M := by rfl
set_option maxRecDepth 20000 in
theorem r_Reader_readNumber_5 {s_Tokens_endOf : aS} {s_Tokens_startOf : aS} {s_Text_at : aS} {s_Reader_add : aS} {s_Nodes_setAmount : aS} {J : aJ} {K : aR} {n : Nat} {L : aL} {S : List Value} {M : aM} : am_run (c_Reader_readNumber s_Tokens_endOf s_Tokens_startOf s_Text_at s_Reader_add s_Nodes_setAmount) k_Reader_readNumber J K (n + 1) 5 L S M = ai_getf 1 3 8 (am_run (c_Reader_readNumber s_Tokens_endOf s_Tokens_startOf s_Text_at s_Reader_add s_Nodes_setAmount) k_Reader_readNumber J K n) K 5 L S M := by rfl
set_option maxRecDepth 20000 in
theorem r_Reader_readNumber_8 {s_Tokens_endOf : aS} {s_Tokens_startOf : aS} {s_Text_at : aS} {s_Reader_add : aS} {s_Nodes_setAmount : aS} {J : aJ} {K : aR} {n : Nat} {L : aL} {S : List Value} {M : aM} : am_run (c_Reader_readNumber s_Tokens_endOf s_Tokens_startOf s_Text_at s_Reader_add s_Nodes_setAmount) k_Reader_readNumber J K (n + 1) 8 L S M = ai_callv2 3 s_Tokens_endOf 11 (am_run (c_Reader_readNumber s_Tokens_endOf s_Tokens_startOf s_Text_at s_Reader_add s_Nodes_setAmount) k_Reader_readNumber J K n) K 8 L S M := by rfl
set_option maxRecDepth 20000 in
theorem r_Reader_readNumber_11 {s_Tokens_endOf : aS} {s_Tokens_startOf : aS} {s_Text_at : aS} {s_Reader_add : aS} {s_Nodes_setAmount : aS} {J : aJ} {K : aR} {n : Nat} {L : aL} {S : List Value} {M : aM} : am_run (c_Reader_readNumber s_Tokens_endOf s_Tokens_startOf s_Text_at s_Reader_add s_Nodes_setAmount) k_Reader_readNumber J K (n + 1) 11 L S M = ai_istore 1 12 (am_run (c_Reader_readNumber s_Tokens_endOf s_Tokens_startOf s_Text_at s_Reader_add s_Nodes_setAmount) k_Reader_readNumber J K n) K 11 L S M := by rfl
set_option maxRecDepth 20000 in
theorem r_Reader_readNumber_12 {s_Tokens_endOf : aS} {s_Tokens_startOf : aS} {s_Text_at : aS} {s_Reader_add : aS} {s_Nodes_setAmount : aS} {J : aJ} {K : aR} {n : Nat} {L : aL} {S : List Value} {M : aM} : am_run (c_Reader_readNumber s_Tokens_endOf s_Tokens_startOf s_Text_at s_Reader_add s_Nodes_setAmount) k_Reader_readNumber J K (n + 1) 12 L S M = ai_aload 0 13 (am_run (c_Reader_readNumber s_Tokens_endOf s_Tokens_startOf s_Text_at s_Reader_add s_Nodes_setAmount) k_Reader_readNumber J K n) K 12 L S M := by rfl
set_option maxRecDepth 20000 in
theorem r_Reader_readNumber_13 {s_Tokens_endOf : aS} {s_Tokens_startOf : aS} {s_Text_at : aS} {s_Reader_add : aS} {s_Nodes_setAmount : aS} {J : aJ} {K : aR} {n : Nat} {L : aL} {S : List Value} {M : aM} : am_run (c_Reader_readNumber s_Tokens_endOf s_Tokens_startOf s_Text_at s_Reader_add s_Nodes_setAmount) k_Reader_readNumber J K (n + 1) 13 L S M = ai_getf 1 2 16 (am_run (c_Reader_readNumber s_Tokens_endOf s_Tokens_startOf s_Text_at s_Reader_add s_Nodes_setAmount) k_Reader_readNumber J K n) K 13 L S M := by rfl
set_option maxRecDepth 20000 in
theorem r_Reader_readNumber_16 {s_Tokens_endOf : aS} {s_Tokens_startOf : aS} {s_Text_at : aS} {s_Reader_add : aS} {s_Nodes_setAmount : aS} {J : aJ} {K : aR} {n : Nat} {L : aL} {S : List Value} {M : aM} : am_run (c_Reader_readNumber s_Tokens_endOf s_Tokens_startOf s_Text_at s_Reader_add s_Nodes_setAmount) k_Reader_readNumber J K (n + 1) 16 L S M = ai_aload 0 17 (am_run (c_Reader_readNumber s_Tokens_endOf s_Tokens_startOf s_Text_at s_Reader_add s_Nodes_setAmount) k_Reader_readNumber J K n) K 16 L S M := by rfl
set_option maxRecDepth 20000 in
theorem r_Reader_readNumber_17 {s_Tokens_endOf : aS} {s_Tokens_startOf : aS} {s_Text_at : aS} {s_Reader_add : aS} {s_Nodes_setAmount : aS} {J : aJ} {K : aR} {n : Nat} {L : aL} {S : List Value} {M : aM} : am_run (c_Reader_readNumber s_Tokens_endOf s_Tokens_startOf s_Text_at s_Reader_add s_Nodes_setAmount) k_Reader_readNumber J K (n + 1) 17 L S M = ai_getf 1 3 20 (am_run (c_Reader_readNumber s_Tokens_endOf s_Tokens_startOf s_Text_at s_Reader_add s_Nodes_setAmount) k_Reader_readNumber J K n) K 17 L S M := by rfl
set_option maxRecDepth 20000 in
theorem r_Reader_readNumber_20 {s_Tokens_endOf : aS} {s_Tokens_startOf : aS} {s_Text_at : aS} {s_Reader_add : aS} {s_Nodes_setAmount : aS} {J : aJ} {K : aR} {n : Nat} {L : aL} {S : List Value} {M : aM} : am_run (c_Reader_readNumber s_Tokens_endOf s_Tokens_startOf s_Text_at s_Reader_add s_Nodes_setAmount) k_Reader_readNumber J K (n + 1) 20 L S M = ai_callv2 3 s_Tokens_startOf 23 (am_run (c_Reader_readNumber s_Tokens_endOf s_Tokens_startOf s_Text_at s_Reader_add s_Nodes_setAmount) k_Reader_readNumber J K n) K 20 L S M := by rfl
set_option maxRecDepth 20000 in
theorem r_Reader_readNumber_23 {s_Tokens_endOf : aS} {s_Tokens_startOf : aS} {s_Text_at : aS} {s_Reader_add : aS} {s_Nodes_setAmount : aS} {J : aJ} {K : aR} {n : Nat} {L : aL} {S : List Value} {M : aM} : am_run (c_Reader_readNumber s_Tokens_endOf s_Tokens_startOf s_Text_at s_Reader_add s_Nodes_setAmount) k_Reader_readNumber J K (n + 1) 23 L S M = ai_istore 2 24 (am_run (c_Reader_readNumber s_Tokens_endOf s_Tokens_startOf s_Text_at s_Reader_add s_Nodes_setAmount) k_Reader_readNumber J K n) K 23 L S M := by rfl
set_option maxRecDepth 20000 in
theorem r_Reader_readNumber_24 {s_Tokens_endOf : aS} {s_Tokens_startOf : aS} {s_Text_at : aS} {s_Reader_add : aS} {s_Nodes_setAmount : aS} {J : aJ} {K : aR} {n : Nat} {L : aL} {S : List Value} {M : aM} : am_run (c_Reader_readNumber s_Tokens_endOf s_Tokens_startOf s_Text_at s_Reader_add s_Nodes_setAmount) k_Reader_readNumber J K (n + 1) 24 L S M = ai_aload 0 25 (am_run (c_Reader_readNumber s_Tokens_endOf s_Tokens_startOf s_Text_at s_Reader_add s_Nodes_setAmount) k_Reader_readNumber J K n) K 24 L S M := by rfl
set_option maxRecDepth 20000 in
theorem r_Reader_readNumber_25 {s_Tokens_endOf : aS} {s_Tokens_startOf : aS} {s_Text_at : aS} {s_Reader_add : aS} {s_Nodes_setAmount : aS} {J : aJ} {K : aR} {n : Nat} {L : aL} {S : List Value} {M : aM} : am_run (c_Reader_readNumber s_Tokens_endOf s_Tokens_startOf s_Text_at s_Reader_add s_Nodes_setAmount) k_Reader_readNumber J K (n + 1) 25 L S M = ai_getf 1 0 28 (am_run (c_Reader_readNumber s_Tokens_endOf s_Tokens_startOf s_Text_at s_Reader_add s_Nodes_setAmount) k_Reader_readNumber J K n) K 25 L S M := by rfl
set_option maxRecDepth 20000 in
theorem r_Reader_readNumber_28 {s_Tokens_endOf : aS} {s_Tokens_startOf : aS} {s_Text_at : aS} {s_Reader_add : aS} {s_Nodes_setAmount : aS} {J : aJ} {K : aR} {n : Nat} {L : aL} {S : List Value} {M : aM} : am_run (c_Reader_readNumber s_Tokens_endOf s_Tokens_startOf s_Text_at s_Reader_add s_Nodes_setAmount) k_Reader_readNumber J K (n + 1) 28 L S M = ai_iload 2 29 (am_run (c_Reader_readNumber s_Tokens_endOf s_Tokens_startOf s_Text_at s_Reader_add s_Nodes_setAmount) k_Reader_readNumber J K n) K 28 L S M := by rfl
set_option maxRecDepth 20000 in
theorem r_Reader_readNumber_29 {s_Tokens_endOf : aS} {s_Tokens_startOf : aS} {s_Text_at : aS} {s_Reader_add : aS} {s_Nodes_setAmount : aS} {J : aJ} {K : aR} {n : Nat} {L : aL} {S : List Value} {M : aM} : am_run (c_Reader_readNumber s_Tokens_endOf s_Tokens_startOf s_Text_at s_Reader_add s_Nodes_setAmount) k_Reader_readNumber J K (n + 1) 29 L S M = ai_callv2 2 s_Text_at 32 (am_run (c_Reader_readNumber s_Tokens_endOf s_Tokens_startOf s_Text_at s_Reader_add s_Nodes_setAmount) k_Reader_readNumber J K n) K 29 L S M := by rfl
set_option maxRecDepth 20000 in
theorem r_Reader_readNumber_32 {s_Tokens_endOf : aS} {s_Tokens_startOf : aS} {s_Text_at : aS} {s_Reader_add : aS} {s_Nodes_setAmount : aS} {J : aJ} {K : aR} {n : Nat} {L : aL} {S : List Value} {M : aM} : am_run (c_Reader_readNumber s_Tokens_endOf s_Tokens_startOf s_Text_at s_Reader_add s_Nodes_setAmount) k_Reader_readNumber J K (n + 1) 32 L S M = ai_const 45 34 (am_run (c_Reader_readNumber s_Tokens_endOf s_Tokens_startOf s_Text_at s_Reader_add s_Nodes_setAmount) k_Reader_readNumber J K n) K 32 L S M := by rfl
set_option maxRecDepth 20000 in
theorem r_Reader_readNumber_34 {s_Tokens_endOf : aS} {s_Tokens_startOf : aS} {s_Text_at : aS} {s_Reader_add : aS} {s_Nodes_setAmount : aS} {J : aJ} {K : aR} {n : Nat} {L : aL} {S : List Value} {M : aM} : am_run (c_Reader_readNumber s_Tokens_endOf s_Tokens_startOf s_Text_at s_Reader_add s_Nodes_setAmount) k_Reader_readNumber J K (n + 1) 34 L S M = ai_cmpne 41 37 (am_run (c_Reader_readNumber s_Tokens_endOf s_Tokens_startOf s_Text_at s_Reader_add s_Nodes_setAmount) k_Reader_readNumber J K n) K 34 L S M := by rfl
set_option maxRecDepth 20000 in
theorem r_Reader_readNumber_37 {s_Tokens_endOf : aS} {s_Tokens_startOf : aS} {s_Text_at : aS} {s_Reader_add : aS} {s_Nodes_setAmount : aS} {J : aJ} {K : aR} {n : Nat} {L : aL} {S : List Value} {M : aM} : am_run (c_Reader_readNumber s_Tokens_endOf s_Tokens_startOf s_Text_at s_Reader_add s_Nodes_setAmount) k_Reader_readNumber J K (n + 1) 37 L S M = ai_const 1 38 (am_run (c_Reader_readNumber s_Tokens_endOf s_Tokens_startOf s_Text_at s_Reader_add s_Nodes_setAmount) k_Reader_readNumber J K n) K 37 L S M := by rfl
set_option maxRecDepth 20000 in
theorem r_Reader_readNumber_38 {s_Tokens_endOf : aS} {s_Tokens_startOf : aS} {s_Text_at : aS} {s_Reader_add : aS} {s_Nodes_setAmount : aS} {J : aJ} {K : aR} {n : Nat} {L : aL} {S : List Value} {M : aM} : am_run (c_Reader_readNumber s_Tokens_endOf s_Tokens_startOf s_Text_at s_Reader_add s_Nodes_setAmount) k_Reader_readNumber J K (n + 1) 38 L S M = ai_goto 42 (am_run (c_Reader_readNumber s_Tokens_endOf s_Tokens_startOf s_Text_at s_Reader_add s_Nodes_setAmount) k_Reader_readNumber J K n) K 38 L S M := by rfl
set_option maxRecDepth 20000 in
theorem r_Reader_readNumber_41 {s_Tokens_endOf : aS} {s_Tokens_startOf : aS} {s_Text_at : aS} {s_Reader_add : aS} {s_Nodes_setAmount : aS} {J : aJ} {K : aR} {n : Nat} {L : aL} {S : List Value} {M : aM} : am_run (c_Reader_readNumber s_Tokens_endOf s_Tokens_startOf s_Text_at s_Reader_add s_Nodes_setAmount) k_Reader_readNumber J K (n + 1) 41 L S M = ai_const 0 42 (am_run (c_Reader_readNumber s_Tokens_endOf s_Tokens_startOf s_Text_at s_Reader_add s_Nodes_setAmount) k_Reader_readNumber J K n) K 41 L S M := by rfl
set_option maxRecDepth 20000 in
theorem r_Reader_readNumber_42 {s_Tokens_endOf : aS} {s_Tokens_startOf : aS} {s_Text_at : aS} {s_Reader_add : aS} {s_Nodes_setAmount : aS} {J : aJ} {K : aR} {n : Nat} {L : aL} {S : List Value} {M : aM} : am_run (c_Reader_readNumber s_Tokens_endOf s_Tokens_startOf s_Text_at s_Reader_add s_Nodes_setAmount) k_Reader_readNumber J K (n + 1) 42 L S M = ai_istore 3 43 (am_run (c_Reader_readNumber s_Tokens_endOf s_Tokens_startOf s_Text_at s_Reader_add s_Nodes_setAmount) k_Reader_readNumber J K n) K 42 L S M := by rfl
set_option maxRecDepth 20000 in
theorem r_Reader_readNumber_43 {s_Tokens_endOf : aS} {s_Tokens_startOf : aS} {s_Text_at : aS} {s_Reader_add : aS} {s_Nodes_setAmount : aS} {J : aJ} {K : aR} {n : Nat} {L : aL} {S : List Value} {M : aM} : am_run (c_Reader_readNumber s_Tokens_endOf s_Tokens_startOf s_Text_at s_Reader_add s_Nodes_setAmount) k_Reader_readNumber J K (n + 1) 43 L S M = ai_const 0 44 (am_run (c_Reader_readNumber s_Tokens_endOf s_Tokens_startOf s_Text_at s_Reader_add s_Nodes_setAmount) k_Reader_readNumber J K n) K 43 L S M := by rfl
set_option maxRecDepth 20000 in
theorem r_Reader_readNumber_44 {s_Tokens_endOf : aS} {s_Tokens_startOf : aS} {s_Text_at : aS} {s_Reader_add : aS} {s_Nodes_setAmount : aS} {J : aJ} {K : aR} {n : Nat} {L : aL} {S : List Value} {M : aM} : am_run (c_Reader_readNumber s_Tokens_endOf s_Tokens_startOf s_Text_at s_Reader_add s_Nodes_setAmount) k_Reader_readNumber J K (n + 1) 44 L S M = ai_istore 4 46 (am_run (c_Reader_readNumber s_Tokens_endOf s_Tokens_startOf s_Text_at s_Reader_add s_Nodes_setAmount) k_Reader_readNumber J K n) K 44 L S M := by rfl
set_option maxRecDepth 20000 in
theorem r_Reader_readNumber_46 {s_Tokens_endOf : aS} {s_Tokens_startOf : aS} {s_Text_at : aS} {s_Reader_add : aS} {s_Nodes_setAmount : aS} {J : aJ} {K : aR} {n : Nat} {L : aL} {S : List Value} {M : aM} : am_run (c_Reader_readNumber s_Tokens_endOf s_Tokens_startOf s_Text_at s_Reader_add s_Nodes_setAmount) k_Reader_readNumber J K (n + 1) 46 L S M = ai_iload 3 47 (am_run (c_Reader_readNumber s_Tokens_endOf s_Tokens_startOf s_Text_at s_Reader_add s_Nodes_setAmount) k_Reader_readNumber J K n) K 46 L S M := by rfl
set_option maxRecDepth 20000 in
theorem r_Reader_readNumber_47 {s_Tokens_endOf : aS} {s_Tokens_startOf : aS} {s_Text_at : aS} {s_Reader_add : aS} {s_Nodes_setAmount : aS} {J : aJ} {K : aR} {n : Nat} {L : aL} {S : List Value} {M : aM} : am_run (c_Reader_readNumber s_Tokens_endOf s_Tokens_startOf s_Text_at s_Reader_add s_Nodes_setAmount) k_Reader_readNumber J K (n + 1) 47 L S M = ai_ifeq 56 50 (am_run (c_Reader_readNumber s_Tokens_endOf s_Tokens_startOf s_Text_at s_Reader_add s_Nodes_setAmount) k_Reader_readNumber J K n) K 47 L S M := by rfl
set_option maxRecDepth 20000 in
theorem r_Reader_readNumber_50 {s_Tokens_endOf : aS} {s_Tokens_startOf : aS} {s_Text_at : aS} {s_Reader_add : aS} {s_Nodes_setAmount : aS} {J : aJ} {K : aR} {n : Nat} {L : aL} {S : List Value} {M : aM} : am_run (c_Reader_readNumber s_Tokens_endOf s_Tokens_startOf s_Text_at s_Reader_add s_Nodes_setAmount) k_Reader_readNumber J K (n + 1) 50 L S M = ai_iload 2 51 (am_run (c_Reader_readNumber s_Tokens_endOf s_Tokens_startOf s_Text_at s_Reader_add s_Nodes_setAmount) k_Reader_readNumber J K n) K 50 L S M := by rfl
set_option maxRecDepth 20000 in
theorem r_Reader_readNumber_51 {s_Tokens_endOf : aS} {s_Tokens_startOf : aS} {s_Text_at : aS} {s_Reader_add : aS} {s_Nodes_setAmount : aS} {J : aJ} {K : aR} {n : Nat} {L : aL} {S : List Value} {M : aM} : am_run (c_Reader_readNumber s_Tokens_endOf s_Tokens_startOf s_Text_at s_Reader_add s_Nodes_setAmount) k_Reader_readNumber J K (n + 1) 51 L S M = ai_const 1 52 (am_run (c_Reader_readNumber s_Tokens_endOf s_Tokens_startOf s_Text_at s_Reader_add s_Nodes_setAmount) k_Reader_readNumber J K n) K 51 L S M := by rfl
set_option maxRecDepth 20000 in
theorem r_Reader_readNumber_52 {s_Tokens_endOf : aS} {s_Tokens_startOf : aS} {s_Text_at : aS} {s_Reader_add : aS} {s_Nodes_setAmount : aS} {J : aJ} {K : aR} {n : Nat} {L : aL} {S : List Value} {M : aM} : am_run (c_Reader_readNumber s_Tokens_endOf s_Tokens_startOf s_Text_at s_Reader_add s_Nodes_setAmount) k_Reader_readNumber J K (n + 1) 52 L S M = ai_iadd 53 (am_run (c_Reader_readNumber s_Tokens_endOf s_Tokens_startOf s_Text_at s_Reader_add s_Nodes_setAmount) k_Reader_readNumber J K n) K 52 L S M := by rfl
set_option maxRecDepth 20000 in
theorem r_Reader_readNumber_53 {s_Tokens_endOf : aS} {s_Tokens_startOf : aS} {s_Text_at : aS} {s_Reader_add : aS} {s_Nodes_setAmount : aS} {J : aJ} {K : aR} {n : Nat} {L : aL} {S : List Value} {M : aM} : am_run (c_Reader_readNumber s_Tokens_endOf s_Tokens_startOf s_Text_at s_Reader_add s_Nodes_setAmount) k_Reader_readNumber J K (n + 1) 53 L S M = ai_goto 57 (am_run (c_Reader_readNumber s_Tokens_endOf s_Tokens_startOf s_Text_at s_Reader_add s_Nodes_setAmount) k_Reader_readNumber J K n) K 53 L S M := by rfl
set_option maxRecDepth 20000 in
theorem r_Reader_readNumber_56 {s_Tokens_endOf : aS} {s_Tokens_startOf : aS} {s_Text_at : aS} {s_Reader_add : aS} {s_Nodes_setAmount : aS} {J : aJ} {K : aR} {n : Nat} {L : aL} {S : List Value} {M : aM} : am_run (c_Reader_readNumber s_Tokens_endOf s_Tokens_startOf s_Text_at s_Reader_add s_Nodes_setAmount) k_Reader_readNumber J K (n + 1) 56 L S M = ai_iload 2 57 (am_run (c_Reader_readNumber s_Tokens_endOf s_Tokens_startOf s_Text_at s_Reader_add s_Nodes_setAmount) k_Reader_readNumber J K n) K 56 L S M := by rfl
set_option maxRecDepth 20000 in
theorem r_Reader_readNumber_57 {s_Tokens_endOf : aS} {s_Tokens_startOf : aS} {s_Text_at : aS} {s_Reader_add : aS} {s_Nodes_setAmount : aS} {J : aJ} {K : aR} {n : Nat} {L : aL} {S : List Value} {M : aM} : am_run (c_Reader_readNumber s_Tokens_endOf s_Tokens_startOf s_Text_at s_Reader_add s_Nodes_setAmount) k_Reader_readNumber J K (n + 1) 57 L S M = ai_istore 5 59 (am_run (c_Reader_readNumber s_Tokens_endOf s_Tokens_startOf s_Text_at s_Reader_add s_Nodes_setAmount) k_Reader_readNumber J K n) K 57 L S M := by rfl
set_option maxRecDepth 20000 in
theorem r_Reader_readNumber_59 {s_Tokens_endOf : aS} {s_Tokens_startOf : aS} {s_Text_at : aS} {s_Reader_add : aS} {s_Nodes_setAmount : aS} {J : aJ} {K : aR} {n : Nat} {L : aL} {S : List Value} {M : aM} : am_run (c_Reader_readNumber s_Tokens_endOf s_Tokens_startOf s_Text_at s_Reader_add s_Nodes_setAmount) k_Reader_readNumber J K (n + 1) 59 L S M = J 59 L S M := by rfl
set_option maxRecDepth 20000 in
theorem r_Reader_readNumber_61 {s_Tokens_endOf : aS} {s_Tokens_startOf : aS} {s_Text_at : aS} {s_Reader_add : aS} {s_Nodes_setAmount : aS} {J : aJ} {K : aR} {n : Nat} {L : aL} {S : List Value} {M : aM} : am_run (c_Reader_readNumber s_Tokens_endOf s_Tokens_startOf s_Text_at s_Reader_add s_Nodes_setAmount) k_Reader_readNumber J K (n + 1) 61 L S M = ai_iload 1 62 (am_run (c_Reader_readNumber s_Tokens_endOf s_Tokens_startOf s_Text_at s_Reader_add s_Nodes_setAmount) k_Reader_readNumber J K n) K 61 L S M := by rfl
set_option maxRecDepth 20000 in
theorem r_Reader_readNumber_62 {s_Tokens_endOf : aS} {s_Tokens_startOf : aS} {s_Text_at : aS} {s_Reader_add : aS} {s_Nodes_setAmount : aS} {J : aJ} {K : aR} {n : Nat} {L : aL} {S : List Value} {M : aM} : am_run (c_Reader_readNumber s_Tokens_endOf s_Tokens_startOf s_Text_at s_Reader_add s_Nodes_setAmount) k_Reader_readNumber J K (n + 1) 62 L S M = ai_cmpge 91 65 (am_run (c_Reader_readNumber s_Tokens_endOf s_Tokens_startOf s_Text_at s_Reader_add s_Nodes_setAmount) k_Reader_readNumber J K n) K 62 L S M := by rfl
set_option maxRecDepth 20000 in
theorem r_Reader_readNumber_65 {s_Tokens_endOf : aS} {s_Tokens_startOf : aS} {s_Text_at : aS} {s_Reader_add : aS} {s_Nodes_setAmount : aS} {J : aJ} {K : aR} {n : Nat} {L : aL} {S : List Value} {M : aM} : am_run (c_Reader_readNumber s_Tokens_endOf s_Tokens_startOf s_Text_at s_Reader_add s_Nodes_setAmount) k_Reader_readNumber J K (n + 1) 65 L S M = ai_iload 4 67 (am_run (c_Reader_readNumber s_Tokens_endOf s_Tokens_startOf s_Text_at s_Reader_add s_Nodes_setAmount) k_Reader_readNumber J K n) K 65 L S M := by rfl
set_option maxRecDepth 20000 in
theorem r_Reader_readNumber_67 {s_Tokens_endOf : aS} {s_Tokens_startOf : aS} {s_Text_at : aS} {s_Reader_add : aS} {s_Nodes_setAmount : aS} {J : aJ} {K : aR} {n : Nat} {L : aL} {S : List Value} {M : aM} : am_run (c_Reader_readNumber s_Tokens_endOf s_Tokens_startOf s_Text_at s_Reader_add s_Nodes_setAmount) k_Reader_readNumber J K (n + 1) 67 L S M = ai_const 10 69 (am_run (c_Reader_readNumber s_Tokens_endOf s_Tokens_startOf s_Text_at s_Reader_add s_Nodes_setAmount) k_Reader_readNumber J K n) K 67 L S M := by rfl
set_option maxRecDepth 20000 in
theorem r_Reader_readNumber_69 {s_Tokens_endOf : aS} {s_Tokens_startOf : aS} {s_Text_at : aS} {s_Reader_add : aS} {s_Nodes_setAmount : aS} {J : aJ} {K : aR} {n : Nat} {L : aL} {S : List Value} {M : aM} : am_run (c_Reader_readNumber s_Tokens_endOf s_Tokens_startOf s_Text_at s_Reader_add s_Nodes_setAmount) k_Reader_readNumber J K (n + 1) 69 L S M = ai_imul 70 (am_run (c_Reader_readNumber s_Tokens_endOf s_Tokens_startOf s_Text_at s_Reader_add s_Nodes_setAmount) k_Reader_readNumber J K n) K 69 L S M := by rfl
set_option maxRecDepth 20000 in
theorem r_Reader_readNumber_70 {s_Tokens_endOf : aS} {s_Tokens_startOf : aS} {s_Text_at : aS} {s_Reader_add : aS} {s_Nodes_setAmount : aS} {J : aJ} {K : aR} {n : Nat} {L : aL} {S : List Value} {M : aM} : am_run (c_Reader_readNumber s_Tokens_endOf s_Tokens_startOf s_Text_at s_Reader_add s_Nodes_setAmount) k_Reader_readNumber J K (n + 1) 70 L S M = ai_aload 0 71 (am_run (c_Reader_readNumber s_Tokens_endOf s_Tokens_startOf s_Text_at s_Reader_add s_Nodes_setAmount) k_Reader_readNumber J K n) K 70 L S M := by rfl
set_option maxRecDepth 20000 in
theorem r_Reader_readNumber_71 {s_Tokens_endOf : aS} {s_Tokens_startOf : aS} {s_Text_at : aS} {s_Reader_add : aS} {s_Nodes_setAmount : aS} {J : aJ} {K : aR} {n : Nat} {L : aL} {S : List Value} {M : aM} : am_run (c_Reader_readNumber s_Tokens_endOf s_Tokens_startOf s_Text_at s_Reader_add s_Nodes_setAmount) k_Reader_readNumber J K (n + 1) 71 L S M = ai_getf 1 0 74 (am_run (c_Reader_readNumber s_Tokens_endOf s_Tokens_startOf s_Text_at s_Reader_add s_Nodes_setAmount) k_Reader_readNumber J K n) K 71 L S M := by rfl
set_option maxRecDepth 20000 in
theorem r_Reader_readNumber_74 {s_Tokens_endOf : aS} {s_Tokens_startOf : aS} {s_Text_at : aS} {s_Reader_add : aS} {s_Nodes_setAmount : aS} {J : aJ} {K : aR} {n : Nat} {L : aL} {S : List Value} {M : aM} : am_run (c_Reader_readNumber s_Tokens_endOf s_Tokens_startOf s_Text_at s_Reader_add s_Nodes_setAmount) k_Reader_readNumber J K (n + 1) 74 L S M = ai_iload 5 76 (am_run (c_Reader_readNumber s_Tokens_endOf s_Tokens_startOf s_Text_at s_Reader_add s_Nodes_setAmount) k_Reader_readNumber J K n) K 74 L S M := by rfl
set_option maxRecDepth 20000 in
theorem r_Reader_readNumber_76 {s_Tokens_endOf : aS} {s_Tokens_startOf : aS} {s_Text_at : aS} {s_Reader_add : aS} {s_Nodes_setAmount : aS} {J : aJ} {K : aR} {n : Nat} {L : aL} {S : List Value} {M : aM} : am_run (c_Reader_readNumber s_Tokens_endOf s_Tokens_startOf s_Text_at s_Reader_add s_Nodes_setAmount) k_Reader_readNumber J K (n + 1) 76 L S M = ai_callv2 2 s_Text_at 79 (am_run (c_Reader_readNumber s_Tokens_endOf s_Tokens_startOf s_Text_at s_Reader_add s_Nodes_setAmount) k_Reader_readNumber J K n) K 76 L S M := by rfl
set_option maxRecDepth 20000 in
theorem r_Reader_readNumber_79 {s_Tokens_endOf : aS} {s_Tokens_startOf : aS} {s_Text_at : aS} {s_Reader_add : aS} {s_Nodes_setAmount : aS} {J : aJ} {K : aR} {n : Nat} {L : aL} {S : List Value} {M : aM} : am_run (c_Reader_readNumber s_Tokens_endOf s_Tokens_startOf s_Text_at s_Reader_add s_Nodes_setAmount) k_Reader_readNumber J K (n + 1) 79 L S M = ai_const 48 81 (am_run (c_Reader_readNumber s_Tokens_endOf s_Tokens_startOf s_Text_at s_Reader_add s_Nodes_setAmount) k_Reader_readNumber J K n) K 79 L S M := by rfl
set_option maxRecDepth 20000 in
theorem r_Reader_readNumber_81 {s_Tokens_endOf : aS} {s_Tokens_startOf : aS} {s_Text_at : aS} {s_Reader_add : aS} {s_Nodes_setAmount : aS} {J : aJ} {K : aR} {n : Nat} {L : aL} {S : List Value} {M : aM} : am_run (c_Reader_readNumber s_Tokens_endOf s_Tokens_startOf s_Text_at s_Reader_add s_Nodes_setAmount) k_Reader_readNumber J K (n + 1) 81 L S M = ai_isub 82 (am_run (c_Reader_readNumber s_Tokens_endOf s_Tokens_startOf s_Text_at s_Reader_add s_Nodes_setAmount) k_Reader_readNumber J K n) K 81 L S M := by rfl
set_option maxRecDepth 20000 in
theorem r_Reader_readNumber_82 {s_Tokens_endOf : aS} {s_Tokens_startOf : aS} {s_Text_at : aS} {s_Reader_add : aS} {s_Nodes_setAmount : aS} {J : aJ} {K : aR} {n : Nat} {L : aL} {S : List Value} {M : aM} : am_run (c_Reader_readNumber s_Tokens_endOf s_Tokens_startOf s_Text_at s_Reader_add s_Nodes_setAmount) k_Reader_readNumber J K (n + 1) 82 L S M = ai_iadd 83 (am_run (c_Reader_readNumber s_Tokens_endOf s_Tokens_startOf s_Text_at s_Reader_add s_Nodes_setAmount) k_Reader_readNumber J K n) K 82 L S M := by rfl
set_option maxRecDepth 20000 in
theorem r_Reader_readNumber_83 {s_Tokens_endOf : aS} {s_Tokens_startOf : aS} {s_Text_at : aS} {s_Reader_add : aS} {s_Nodes_setAmount : aS} {J : aJ} {K : aR} {n : Nat} {L : aL} {S : List Value} {M : aM} : am_run (c_Reader_readNumber s_Tokens_endOf s_Tokens_startOf s_Text_at s_Reader_add s_Nodes_setAmount) k_Reader_readNumber J K (n + 1) 83 L S M = ai_istore 4 85 (am_run (c_Reader_readNumber s_Tokens_endOf s_Tokens_startOf s_Text_at s_Reader_add s_Nodes_setAmount) k_Reader_readNumber J K n) K 83 L S M := by rfl
set_option maxRecDepth 20000 in
theorem r_Reader_readNumber_85 {s_Tokens_endOf : aS} {s_Tokens_startOf : aS} {s_Text_at : aS} {s_Reader_add : aS} {s_Nodes_setAmount : aS} {J : aJ} {K : aR} {n : Nat} {L : aL} {S : List Value} {M : aM} : am_run (c_Reader_readNumber s_Tokens_endOf s_Tokens_startOf s_Text_at s_Reader_add s_Nodes_setAmount) k_Reader_readNumber J K (n + 1) 85 L S M = ai_iinc 5 1 88 (am_run (c_Reader_readNumber s_Tokens_endOf s_Tokens_startOf s_Text_at s_Reader_add s_Nodes_setAmount) k_Reader_readNumber J K n) K 85 L S M := by rfl
set_option maxRecDepth 20000 in
theorem r_Reader_readNumber_88 {s_Tokens_endOf : aS} {s_Tokens_startOf : aS} {s_Text_at : aS} {s_Reader_add : aS} {s_Nodes_setAmount : aS} {J : aJ} {K : aR} {n : Nat} {L : aL} {S : List Value} {M : aM} : am_run (c_Reader_readNumber s_Tokens_endOf s_Tokens_startOf s_Text_at s_Reader_add s_Nodes_setAmount) k_Reader_readNumber J K (n + 1) 88 L S M = ai_goto 59 (am_run (c_Reader_readNumber s_Tokens_endOf s_Tokens_startOf s_Text_at s_Reader_add s_Nodes_setAmount) k_Reader_readNumber J K n) K 88 L S M := by rfl
set_option maxRecDepth 20000 in
theorem r_Reader_readNumber_91 {s_Tokens_endOf : aS} {s_Tokens_startOf : aS} {s_Text_at : aS} {s_Reader_add : aS} {s_Nodes_setAmount : aS} {J : aJ} {K : aR} {n : Nat} {L : aL} {S : List Value} {M : aM} : am_run (c_Reader_readNumber s_Tokens_endOf s_Tokens_startOf s_Text_at s_Reader_add s_Nodes_setAmount) k_Reader_readNumber J K (n + 1) 91 L S M = ai_aload 0 92 (am_run (c_Reader_readNumber s_Tokens_endOf s_Tokens_startOf s_Text_at s_Reader_add s_Nodes_setAmount) k_Reader_readNumber J K n) K 91 L S M := by rfl
set_option maxRecDepth 20000 in
theorem r_Reader_readNumber_92 {s_Tokens_endOf : aS} {s_Tokens_startOf : aS} {s_Text_at : aS} {s_Reader_add : aS} {s_Nodes_setAmount : aS} {J : aJ} {K : aR} {n : Nat} {L : aL} {S : List Value} {M : aM} : am_run (c_Reader_readNumber s_Tokens_endOf s_Tokens_startOf s_Text_at s_Reader_add s_Nodes_setAmount) k_Reader_readNumber J K (n + 1) 92 L S M = ai_const 1 93 (am_run (c_Reader_readNumber s_Tokens_endOf s_Tokens_startOf s_Text_at s_Reader_add s_Nodes_setAmount) k_Reader_readNumber J K n) K 92 L S M := by rfl
set_option maxRecDepth 20000 in
theorem r_Reader_readNumber_93 {s_Tokens_endOf : aS} {s_Tokens_startOf : aS} {s_Text_at : aS} {s_Reader_add : aS} {s_Nodes_setAmount : aS} {J : aJ} {K : aR} {n : Nat} {L : aL} {S : List Value} {M : aM} : am_run (c_Reader_readNumber s_Tokens_endOf s_Tokens_startOf s_Text_at s_Reader_add s_Nodes_setAmount) k_Reader_readNumber J K (n + 1) 93 L S M = ai_callv2 1 s_Reader_add 96 (am_run (c_Reader_readNumber s_Tokens_endOf s_Tokens_startOf s_Text_at s_Reader_add s_Nodes_setAmount) k_Reader_readNumber J K n) K 93 L S M := by rfl
set_option maxRecDepth 20000 in
theorem r_Reader_readNumber_96 {s_Tokens_endOf : aS} {s_Tokens_startOf : aS} {s_Text_at : aS} {s_Reader_add : aS} {s_Nodes_setAmount : aS} {J : aJ} {K : aR} {n : Nat} {L : aL} {S : List Value} {M : aM} : am_run (c_Reader_readNumber s_Tokens_endOf s_Tokens_startOf s_Text_at s_Reader_add s_Nodes_setAmount) k_Reader_readNumber J K (n + 1) 96 L S M = ai_istore 5 98 (am_run (c_Reader_readNumber s_Tokens_endOf s_Tokens_startOf s_Text_at s_Reader_add s_Nodes_setAmount) k_Reader_readNumber J K n) K 96 L S M := by rfl
set_option maxRecDepth 20000 in
theorem r_Reader_readNumber_98 {s_Tokens_endOf : aS} {s_Tokens_startOf : aS} {s_Text_at : aS} {s_Reader_add : aS} {s_Nodes_setAmount : aS} {J : aJ} {K : aR} {n : Nat} {L : aL} {S : List Value} {M : aM} : am_run (c_Reader_readNumber s_Tokens_endOf s_Tokens_startOf s_Text_at s_Reader_add s_Nodes_setAmount) k_Reader_readNumber J K (n + 1) 98 L S M = ai_aload 0 99 (am_run (c_Reader_readNumber s_Tokens_endOf s_Tokens_startOf s_Text_at s_Reader_add s_Nodes_setAmount) k_Reader_readNumber J K n) K 98 L S M := by rfl
set_option maxRecDepth 20000 in
theorem r_Reader_readNumber_99 {s_Tokens_endOf : aS} {s_Tokens_startOf : aS} {s_Text_at : aS} {s_Reader_add : aS} {s_Nodes_setAmount : aS} {J : aJ} {K : aR} {n : Nat} {L : aL} {S : List Value} {M : aM} : am_run (c_Reader_readNumber s_Tokens_endOf s_Tokens_startOf s_Text_at s_Reader_add s_Nodes_setAmount) k_Reader_readNumber J K (n + 1) 99 L S M = ai_getf 1 1 102 (am_run (c_Reader_readNumber s_Tokens_endOf s_Tokens_startOf s_Text_at s_Reader_add s_Nodes_setAmount) k_Reader_readNumber J K n) K 99 L S M := by rfl
set_option maxRecDepth 20000 in
theorem r_Reader_readNumber_102 {s_Tokens_endOf : aS} {s_Tokens_startOf : aS} {s_Text_at : aS} {s_Reader_add : aS} {s_Nodes_setAmount : aS} {J : aJ} {K : aR} {n : Nat} {L : aL} {S : List Value} {M : aM} : am_run (c_Reader_readNumber s_Tokens_endOf s_Tokens_startOf s_Text_at s_Reader_add s_Nodes_setAmount) k_Reader_readNumber J K (n + 1) 102 L S M = ai_iload 5 104 (am_run (c_Reader_readNumber s_Tokens_endOf s_Tokens_startOf s_Text_at s_Reader_add s_Nodes_setAmount) k_Reader_readNumber J K n) K 102 L S M := by rfl
set_option maxRecDepth 20000 in
theorem r_Reader_readNumber_104 {s_Tokens_endOf : aS} {s_Tokens_startOf : aS} {s_Text_at : aS} {s_Reader_add : aS} {s_Nodes_setAmount : aS} {J : aJ} {K : aR} {n : Nat} {L : aL} {S : List Value} {M : aM} : am_run (c_Reader_readNumber s_Tokens_endOf s_Tokens_startOf s_Text_at s_Reader_add s_Nodes_setAmount) k_Reader_readNumber J K (n + 1) 104 L S M = ai_iload 3 105 (am_run (c_Reader_readNumber s_Tokens_endOf s_Tokens_startOf s_Text_at s_Reader_add s_Nodes_setAmount) k_Reader_readNumber J K n) K 104 L S M := by rfl
set_option maxRecDepth 20000 in
theorem r_Reader_readNumber_105 {s_Tokens_endOf : aS} {s_Tokens_startOf : aS} {s_Text_at : aS} {s_Reader_add : aS} {s_Nodes_setAmount : aS} {J : aJ} {K : aR} {n : Nat} {L : aL} {S : List Value} {M : aM} : am_run (c_Reader_readNumber s_Tokens_endOf s_Tokens_startOf s_Text_at s_Reader_add s_Nodes_setAmount) k_Reader_readNumber J K (n + 1) 105 L S M = ai_ifeq 114 108 (am_run (c_Reader_readNumber s_Tokens_endOf s_Tokens_startOf s_Text_at s_Reader_add s_Nodes_setAmount) k_Reader_readNumber J K n) K 105 L S M := by rfl
set_option maxRecDepth 20000 in
theorem r_Reader_readNumber_108 {s_Tokens_endOf : aS} {s_Tokens_startOf : aS} {s_Text_at : aS} {s_Reader_add : aS} {s_Nodes_setAmount : aS} {J : aJ} {K : aR} {n : Nat} {L : aL} {S : List Value} {M : aM} : am_run (c_Reader_readNumber s_Tokens_endOf s_Tokens_startOf s_Text_at s_Reader_add s_Nodes_setAmount) k_Reader_readNumber J K (n + 1) 108 L S M = ai_iload 4 110 (am_run (c_Reader_readNumber s_Tokens_endOf s_Tokens_startOf s_Text_at s_Reader_add s_Nodes_setAmount) k_Reader_readNumber J K n) K 108 L S M := by rfl
set_option maxRecDepth 20000 in
theorem r_Reader_readNumber_110 {s_Tokens_endOf : aS} {s_Tokens_startOf : aS} {s_Text_at : aS} {s_Reader_add : aS} {s_Nodes_setAmount : aS} {J : aJ} {K : aR} {n : Nat} {L : aL} {S : List Value} {M : aM} : am_run (c_Reader_readNumber s_Tokens_endOf s_Tokens_startOf s_Text_at s_Reader_add s_Nodes_setAmount) k_Reader_readNumber J K (n + 1) 110 L S M = ai_ineg 111 (am_run (c_Reader_readNumber s_Tokens_endOf s_Tokens_startOf s_Text_at s_Reader_add s_Nodes_setAmount) k_Reader_readNumber J K n) K 110 L S M := by rfl
set_option maxRecDepth 20000 in
theorem r_Reader_readNumber_111 {s_Tokens_endOf : aS} {s_Tokens_startOf : aS} {s_Text_at : aS} {s_Reader_add : aS} {s_Nodes_setAmount : aS} {J : aJ} {K : aR} {n : Nat} {L : aL} {S : List Value} {M : aM} : am_run (c_Reader_readNumber s_Tokens_endOf s_Tokens_startOf s_Text_at s_Reader_add s_Nodes_setAmount) k_Reader_readNumber J K (n + 1) 111 L S M = ai_goto 116 (am_run (c_Reader_readNumber s_Tokens_endOf s_Tokens_startOf s_Text_at s_Reader_add s_Nodes_setAmount) k_Reader_readNumber J K n) K 111 L S M := by rfl
set_option maxRecDepth 20000 in
theorem r_Reader_readNumber_114 {s_Tokens_endOf : aS} {s_Tokens_startOf : aS} {s_Text_at : aS} {s_Reader_add : aS} {s_Nodes_setAmount : aS} {J : aJ} {K : aR} {n : Nat} {L : aL} {S : List Value} {M : aM} : am_run (c_Reader_readNumber s_Tokens_endOf s_Tokens_startOf s_Text_at s_Reader_add s_Nodes_setAmount) k_Reader_readNumber J K (n + 1) 114 L S M = ai_iload 4 116 (am_run (c_Reader_readNumber s_Tokens_endOf s_Tokens_startOf s_Text_at s_Reader_add s_Nodes_setAmount) k_Reader_readNumber J K n) K 114 L S M := by rfl
set_option maxRecDepth 20000 in
theorem r_Reader_readNumber_116 {s_Tokens_endOf : aS} {s_Tokens_startOf : aS} {s_Text_at : aS} {s_Reader_add : aS} {s_Nodes_setAmount : aS} {J : aJ} {K : aR} {n : Nat} {L : aL} {S : List Value} {M : aM} : am_run (c_Reader_readNumber s_Tokens_endOf s_Tokens_startOf s_Text_at s_Reader_add s_Nodes_setAmount) k_Reader_readNumber J K (n + 1) 116 L S M = ai_callv3 0 s_Nodes_setAmount 119 (am_run (c_Reader_readNumber s_Tokens_endOf s_Tokens_startOf s_Text_at s_Reader_add s_Nodes_setAmount) k_Reader_readNumber J K n) K 116 L S M := by rfl
set_option maxRecDepth 20000 in
theorem r_Reader_readNumber_119 {s_Tokens_endOf : aS} {s_Tokens_startOf : aS} {s_Text_at : aS} {s_Reader_add : aS} {s_Nodes_setAmount : aS} {J : aJ} {K : aR} {n : Nat} {L : aL} {S : List Value} {M : aM} : am_run (c_Reader_readNumber s_Tokens_endOf s_Tokens_startOf s_Text_at s_Reader_add s_Nodes_setAmount) k_Reader_readNumber J K (n + 1) 119 L S M = ai_iload 5 121 (am_run (c_Reader_readNumber s_Tokens_endOf s_Tokens_startOf s_Text_at s_Reader_add s_Nodes_setAmount) k_Reader_readNumber J K n) K 119 L S M := by rfl
set_option maxRecDepth 20000 in
theorem r_Reader_readNumber_121 {s_Tokens_endOf : aS} {s_Tokens_startOf : aS} {s_Text_at : aS} {s_Reader_add : aS} {s_Nodes_setAmount : aS} {J : aJ} {K : aR} {n : Nat} {L : aL} {S : List Value} {M : aM} : am_run (c_Reader_readNumber s_Tokens_endOf s_Tokens_startOf s_Text_at s_Reader_add s_Nodes_setAmount) k_Reader_readNumber J K (n + 1) 121 L S M = ai_iret (am_run (c_Reader_readNumber s_Tokens_endOf s_Tokens_startOf s_Text_at s_Reader_add s_Nodes_setAmount) k_Reader_readNumber J K n) K 121 L S M := by rfl
def c_Reader_readName (s_Tokens_endOf : aS) (s_Reader_add : aS) (s_Tokens_startOf : aS) (s_Text_at : aS) (s_Nodes_addLetter : aS) : List (Nat × aI) := [
  (0, ai_aload 0 1),
  (1, ai_getf 1 2 4),
  (4, ai_aload 0 5),
  (5, ai_getf 1 3 8),
  (8, ai_callv2 3 s_Tokens_endOf 11),
  (11, ai_istore 1 12),
  (12, ai_aload 0 13),
  (13, ai_const 2 14),
  (14, ai_callv2 1 s_Reader_add 17),
  (17, ai_istore 2 18),
  (18, ai_aload 0 19),
  (19, ai_getf 1 2 22),
  (22, ai_aload 0 23),
  (23, ai_getf 1 3 26),
  (26, ai_callv2 3 s_Tokens_startOf 29),
  (29, ai_istore 3 30),
  (30, ai_iload 3 31),
  (31, ai_iload 1 32),
  (32, ai_cmpge 57 35),
  (35, ai_aload 0 36),
  (36, ai_getf 1 1 39),
  (39, ai_iload 2 40),
  (40, ai_aload 0 41),
  (41, ai_getf 1 0 44),
  (44, ai_iload 3 45),
  (45, ai_callv2 2 s_Text_at 48),
  (48, ai_callv3 0 s_Nodes_addLetter 51),
  (51, ai_iinc 3 1 54),
  (54, ai_goto 30),
  (57, ai_iload 2 58),
  (58, ai_iret)]
set_option maxRecDepth 100000 in
set_option maxHeartbeats 4000000 in
theorem tb_Reader_readName {G : aG} {d : Nat} {s_Tokens_endOf : aS} {d_Tokens_endOf : Nat} (h_Tokens_endOf : am_Sp G Y_Tokens_endOf d_Tokens_endOf s_Tokens_endOf) (l_Tokens_endOf : d_Tokens_endOf < d) {s_Reader_add : aS} {d_Reader_add : Nat} (h_Reader_add : am_Sp G Y_Reader_add d_Reader_add s_Reader_add) (l_Reader_add : d_Reader_add < d) {s_Tokens_startOf : aS} {d_Tokens_startOf : Nat} (h_Tokens_startOf : am_Sp G Y_Tokens_startOf d_Tokens_startOf s_Tokens_startOf) (l_Tokens_startOf : d_Tokens_startOf < d) {s_Text_at : aS} {d_Text_at : Nat} (h_Text_at : am_Sp G Y_Text_at d_Text_at s_Text_at) (l_Text_at : d_Text_at < d) {s_Nodes_addLetter : aS} {d_Nodes_addLetter : Nat} (h_Nodes_addLetter : am_Sp G Y_Nodes_addLetter d_Nodes_addLetter s_Nodes_addLetter) (l_Nodes_addLetter : d_Nodes_addLetter < d) : am_tab G Y_Reader_readName d (c_Reader_readName s_Tokens_endOf s_Reader_add s_Tokens_startOf s_Text_at s_Nodes_addLetter) := by
  intro K p e s m args below meth c C
  exact ⟨as_aload_n C (pc := 0) (q := 0) (by decide +kernel) rfl rfl,
    as_getf C (pc := 1) (T := T_Reader) (N := 5) rfl in_Reader (by decide) rfl w_178 (by decide +kernel) rfl,
    as_aload_n C (pc := 4) (q := 0) (by decide +kernel) rfl rfl,
    as_getf C (pc := 5) (T := T_Reader) (N := 5) rfl in_Reader (by decide) rfl w_179 (by decide +kernel) rfl,
    as_callv2N C (pc := 8) h_Tokens_endOf (T := T_Tokens) (N := 4) rfl w_316 w_75 w_315 w_15 w_313 hy_Tokens_endOf (am_rm_of l_Tokens_endOf (by decide)) (by decide +kernel) rfl,
    as_istore_n C (pc := 11) (q := 1) (by decide +kernel) rfl (by decide) rfl,
    as_aload_n C (pc := 12) (q := 0) (by decide +kernel) rfl rfl,
    as_iconst C (pc := 13) (n := 2) (by decide +kernel) (by decide +kernel) rfl,
    as_callv2 C (pc := 14) h_Reader_add (T := T_Reader) (N := 5) rfl w_325 w_74 w_324 w_17 w_322 hy_Reader_add (am_rm_of l_Reader_add (by decide)) (by decide +kernel) rfl,
    as_istore_n C (pc := 17) (q := 2) (by decide +kernel) rfl (by decide) rfl,
    as_aload_n C (pc := 18) (q := 0) (by decide +kernel) rfl rfl,
    as_getf C (pc := 19) (T := T_Reader) (N := 5) rfl in_Reader (by decide) rfl w_178 (by decide +kernel) rfl,
    as_aload_n C (pc := 22) (q := 0) (by decide +kernel) rfl rfl,
    as_getf C (pc := 23) (T := T_Reader) (N := 5) rfl in_Reader (by decide) rfl w_179 (by decide +kernel) rfl,
    as_callv2N C (pc := 26) h_Tokens_startOf (T := T_Tokens) (N := 4) rfl w_320 w_75 w_319 w_16 w_317 hy_Tokens_startOf (am_rm_of l_Tokens_startOf (by decide)) (by decide +kernel) rfl,
    as_istore_n C (pc := 29) (q := 3) (by decide +kernel) rfl (by decide) rfl,
    as_iload_n C (pc := 30) (q := 3) (by decide +kernel) rfl rfl,
    as_iload_n C (pc := 31) (q := 1) (by decide +kernel) rfl rfl,
    as_cmpge C (pc := 32) (off := 25) (by decide +kernel) (by decide) rfl,
    as_aload_n C (pc := 35) (q := 0) (by decide +kernel) rfl rfl,
    as_getf C (pc := 36) (T := T_Reader) (N := 5) rfl in_Reader (by decide) rfl w_177 (by decide +kernel) rfl,
    as_iload_n C (pc := 39) (q := 2) (by decide +kernel) rfl rfl,
    as_aload_n C (pc := 40) (q := 0) (by decide +kernel) rfl rfl,
    as_getf C (pc := 41) (T := T_Reader) (N := 5) rfl in_Reader (by decide) rfl w_176 (by decide +kernel) rfl,
    as_iload_n C (pc := 44) (q := 3) (by decide +kernel) rfl rfl,
    as_callv2N C (pc := 45) h_Text_at (T := T_Text) (N := 2) rfl w_270 w_71 w_269 w_5 w_321 hy_Text_at (am_rm_of l_Text_at (by decide)) (by decide +kernel) rfl,
    as_callv3N C (pc := 48) h_Nodes_addLetter (T := T_Nodes) (N := 10) rfl w_349 w_72 w_348 w_23 w_346 hy_Nodes_addLetter (am_rm_of l_Nodes_addLetter (by decide)) (by decide +kernel) rfl,
    as_iinc C (pc := 51) (k := 3) (n := 1) (by decide +kernel) (by decide +kernel) (by decide) rfl,
    as_goto C (pc := 54) (off := (-24)) (by decide +kernel) (by decide),
    as_iload_n C (pc := 57) (q := 2) (by decide +kernel) rfl rfl,
    as_iret C (pc := 58) rfl (by decide +kernel), trivial⟩
abbrev k_Reader_readName : List Nat := [30]
theorem q_Reader_readName_30 {s_Tokens_endOf : aS} {s_Reader_add : aS} {s_Tokens_startOf : aS} {s_Text_at : aS} {s_Nodes_addLetter : aS} : am_at (c_Reader_readName s_Tokens_endOf s_Reader_add s_Tokens_startOf s_Text_at s_Nodes_addLetter) 30 = ai_iload 3 31 := by rfl
theorem r_Reader_readName_0 {s_Tokens_endOf : aS} {s_Reader_add : aS} {s_Tokens_startOf : aS} {s_Text_at : aS} {s_Nodes_addLetter : aS} {J : aJ} {K : aR} {n : Nat} {L : aL} {S : List Value} {M : aM} : am_run (c_Reader_readName s_Tokens_endOf s_Reader_add s_Tokens_startOf s_Text_at s_Nodes_addLetter) k_Reader_readName J K (n + 1) 0 L S M = ai_aload 0 1 (am_run (c_Reader_readName s_Tokens_endOf s_Reader_add s_Tokens_startOf s_Text_at s_Nodes_addLetter) k_Reader_readName J K n) K 0 L S M := by rfl
theorem r_Reader_readName_1 {s_Tokens_endOf : aS} {s_Reader_add : aS} {s_Tokens_startOf : aS} {s_Text_at : aS} {s_Nodes_addLetter : aS} {J : aJ} {K : aR} {n : Nat} {L : aL} {S : List Value} {M : aM} : am_run (c_Reader_readName s_Tokens_endOf s_Reader_add s_Tokens_startOf s_Text_at s_Nodes_addLetter) k_Reader_readName J K (n + 1) 1 L S M = ai_getf 1 2 4 (am_run (c_Reader_readName s_Tokens_endOf s_Reader_add s_Tokens_startOf s_Text_at s_Nodes_addLetter) k_Reader_readName J K n) K 1 L S M := by rfl
theorem r_Reader_readName_4 {s_Tokens_endOf : aS} {s_Reader_add : aS} {s_Tokens_startOf : aS} {s_Text_at : aS} {s_Nodes_addLetter : aS} {J : aJ} {K : aR} {n : Nat} {L : aL} {S : List Value} {M : aM} : am_run (c_Reader_readName s_Tokens_endOf s_Reader_add s_Tokens_startOf s_Text_at s_Nodes_addLetter) k_Reader_readName J K (n + 1) 4 L S M = ai_aload 0 5 (am_run (c_Reader_readName s_Tokens_endOf s_Reader_add s_Tokens_startOf s_Text_at s_Nodes_addLetter) k_Reader_readName J K n) K 4 L S M := by rfl
theorem r_Reader_readName_5 {s_Tokens_endOf : aS} {s_Reader_add : aS} {s_Tokens_startOf : aS} {s_Text_at : aS} {s_Nodes_addLetter : aS} {J : aJ} {K : aR} {n : Nat} {L : aL} {S : List Value} {M : aM} : am_run (c_Reader_readName s_Tokens_endOf s_Reader_add s_Tokens_startOf s_Text_at s_Nodes_addLetter) k_Reader_readName J K (n + 1) 5 L S M = ai_getf 1 3 8 (am_run (c_Reader_readName s_Tokens_endOf s_Reader_add s_Tokens_startOf s_Text_at s_Nodes_addLetter) k_Reader_readName J K n) K 5 L S M := by rfl
theorem r_Reader_readName_8 {s_Tokens_endOf : aS} {s_Reader_add : aS} {s_Tokens_startOf : aS} {s_Text_at : aS} {s_Nodes_addLetter : aS} {J : aJ} {K : aR} {n : Nat} {L : aL} {S : List Value} {M : aM} : am_run (c_Reader_readName s_Tokens_endOf s_Reader_add s_Tokens_startOf s_Text_at s_Nodes_addLetter) k_Reader_readName J K (n + 1) 8 L S M = ai_callv2 3 s_Tokens_endOf 11 (am_run (c_Reader_readName s_Tokens_endOf s_Reader_add s_Tokens_startOf s_Text_at s_Nodes_addLetter) k_Reader_readName J K n) K 8 L S M := by rfl
theorem r_Reader_readName_11 {s_Tokens_endOf : aS} {s_Reader_add : aS} {s_Tokens_startOf : aS} {s_Text_at : aS} {s_Nodes_addLetter : aS} {J : aJ} {K : aR} {n : Nat} {L : aL} {S : List Value} {M : aM} : am_run (c_Reader_readName s_Tokens_endOf s_Reader_add s_Tokens_startOf s_Text_at s_Nodes_addLetter) k_Reader_readName J K (n + 1) 11 L S M = ai_istore 1 12 (am_run (c_Reader_readName s_Tokens_endOf s_Reader_add s_Tokens_startOf s_Text_at s_Nodes_addLetter) k_Reader_readName J K n) K 11 L S M := by rfl
theorem r_Reader_readName_12 {s_Tokens_endOf : aS} {s_Reader_add : aS} {s_Tokens_startOf : aS} {s_Text_at : aS} {s_Nodes_addLetter : aS} {J : aJ} {K : aR} {n : Nat} {L : aL} {S : List Value} {M : aM} : am_run (c_Reader_readName s_Tokens_endOf s_Reader_add s_Tokens_startOf s_Text_at s_Nodes_addLetter) k_Reader_readName J K (n + 1) 12 L S M = ai_aload 0 13 (am_run (c_Reader_readName s_Tokens_endOf s_Reader_add s_Tokens_startOf s_Text_at s_Nodes_addLetter) k_Reader_readName J K n) K 12 L S M := by rfl
theorem r_Reader_readName_13 {s_Tokens_endOf : aS} {s_Reader_add : aS} {s_Tokens_startOf : aS} {s_Text_at : aS} {s_Nodes_addLetter : aS} {J : aJ} {K : aR} {n : Nat} {L : aL} {S : List Value} {M : aM} : am_run (c_Reader_readName s_Tokens_endOf s_Reader_add s_Tokens_startOf s_Text_at s_Nodes_addLetter) k_Reader_readName J K (n + 1) 13 L S M = ai_const 2 14 (am_run (c_Reader_readName s_Tokens_endOf s_Reader_add s_Tokens_startOf s_Text_at s_Nodes_addLetter) k_Reader_readName J K n) K 13 L S M := by rfl
theorem r_Reader_readName_14 {s_Tokens_endOf : aS} {s_Reader_add : aS} {s_Tokens_startOf : aS} {s_Text_at : aS} {s_Nodes_addLetter : aS} {J : aJ} {K : aR} {n : Nat} {L : aL} {S : List Value} {M : aM} : am_run (c_Reader_readName s_Tokens_endOf s_Reader_add s_Tokens_startOf s_Text_at s_Nodes_addLetter) k_Reader_readName J K (n + 1) 14 L S M = ai_callv2 1 s_Reader_add 17 (am_run (c_Reader_readName s_Tokens_endOf s_Reader_add s_Tokens_startOf s_Text_at s_Nodes_addLetter) k_Reader_readName J K n) K 14 L S M := by rfl
theorem r_Reader_readName_17 {s_Tokens_endOf : aS} {s_Reader_add : aS} {s_Tokens_startOf : aS} {s_Text_at : aS} {s_Nodes_addLetter : aS} {J : aJ} {K : aR} {n : Nat} {L : aL} {S : List Value} {M : aM} : am_run (c_Reader_readName s_Tokens_endOf s_Reader_add s_Tokens_startOf s_Text_at s_Nodes_addLetter) k_Reader_readName J K (n + 1) 17 L S M = ai_istore 2 18 (am_run (c_Reader_readName s_Tokens_endOf s_Reader_add s_Tokens_startOf s_Text_at s_Nodes_addLetter) k_Reader_readName J K n) K 17 L S M := by rfl
theorem r_Reader_readName_18 {s_Tokens_endOf : aS} {s_Reader_add : aS} {s_Tokens_startOf : aS} {s_Text_at : aS} {s_Nodes_addLetter : aS} {J : aJ} {K : aR} {n : Nat} {L : aL} {S : List Value} {M : aM} : am_run (c_Reader_readName s_Tokens_endOf s_Reader_add s_Tokens_startOf s_Text_at s_Nodes_addLetter) k_Reader_readName J K (n + 1) 18 L S M = ai_aload 0 19 (am_run (c_Reader_readName s_Tokens_endOf s_Reader_add s_Tokens_startOf s_Text_at s_Nodes_addLetter) k_Reader_readName J K n) K 18 L S M := by rfl
theorem r_Reader_readName_19 {s_Tokens_endOf : aS} {s_Reader_add : aS} {s_Tokens_startOf : aS} {s_Text_at : aS} {s_Nodes_addLetter : aS} {J : aJ} {K : aR} {n : Nat} {L : aL} {S : List Value} {M : aM} : am_run (c_Reader_readName s_Tokens_endOf s_Reader_add s_Tokens_startOf s_Text_at s_Nodes_addLetter) k_Reader_readName J K (n + 1) 19 L S M = ai_getf 1 2 22 (am_run (c_Reader_readName s_Tokens_endOf s_Reader_add s_Tokens_startOf s_Text_at s_Nodes_addLetter) k_Reader_readName J K n) K 19 L S M := by rfl
theorem r_Reader_readName_22 {s_Tokens_endOf : aS} {s_Reader_add : aS} {s_Tokens_startOf : aS} {s_Text_at : aS} {s_Nodes_addLetter : aS} {J : aJ} {K : aR} {n : Nat} {L : aL} {S : List Value} {M : aM} : am_run (c_Reader_readName s_Tokens_endOf s_Reader_add s_Tokens_startOf s_Text_at s_Nodes_addLetter) k_Reader_readName J K (n + 1) 22 L S M = ai_aload 0 23 (am_run (c_Reader_readName s_Tokens_endOf s_Reader_add s_Tokens_startOf s_Text_at s_Nodes_addLetter) k_Reader_readName J K n) K 22 L S M := by rfl
theorem r_Reader_readName_23 {s_Tokens_endOf : aS} {s_Reader_add : aS} {s_Tokens_startOf : aS} {s_Text_at : aS} {s_Nodes_addLetter : aS} {J : aJ} {K : aR} {n : Nat} {L : aL} {S : List Value} {M : aM} : am_run (c_Reader_readName s_Tokens_endOf s_Reader_add s_Tokens_startOf s_Text_at s_Nodes_addLetter) k_Reader_readName J K (n + 1) 23 L S M = ai_getf 1 3 26 (am_run (c_Reader_readName s_Tokens_endOf s_Reader_add s_Tokens_startOf s_Text_at s_Nodes_addLetter) k_Reader_readName J K n) K 23 L S M := by rfl
theorem r_Reader_readName_26 {s_Tokens_endOf : aS} {s_Reader_add : aS} {s_Tokens_startOf : aS} {s_Text_at : aS} {s_Nodes_addLetter : aS} {J : aJ} {K : aR} {n : Nat} {L : aL} {S : List Value} {M : aM} : am_run (c_Reader_readName s_Tokens_endOf s_Reader_add s_Tokens_startOf s_Text_at s_Nodes_addLetter) k_Reader_readName J K (n + 1) 26 L S M = ai_callv2 3 s_Tokens_startOf 29 (am_run (c_Reader_readName s_Tokens_endOf s_Reader_add s_Tokens_startOf s_Text_at s_Nodes_addLetter) k_Reader_readName J K n) K 26 L S M := by rfl
theorem r_Reader_readName_29 {s_Tokens_endOf : aS} {s_Reader_add : aS} {s_Tokens_startOf : aS} {s_Text_at : aS} {s_Nodes_addLetter : aS} {J : aJ} {K : aR} {n : Nat} {L : aL} {S : List Value} {M : aM} : am_run (c_Reader_readName s_Tokens_endOf s_Reader_add s_Tokens_startOf s_Text_at s_Nodes_addLetter) k_Reader_readName J K (n + 1) 29 L S M = ai_istore 3 30 (am_run (c_Reader_readName s_Tokens_endOf s_Reader_add s_Tokens_startOf s_Text_at s_Nodes_addLetter) k_Reader_readName J K n) K 29 L S M := by rfl
theorem r_Reader_readName_30 {s_Tokens_endOf : aS} {s_Reader_add : aS} {s_Tokens_startOf : aS} {s_Text_at : aS} {s_Nodes_addLetter : aS} {J : aJ} {K : aR} {n : Nat} {L : aL} {S : List Value} {M : aM} : am_run (c_Reader_readName s_Tokens_endOf s_Reader_add s_Tokens_startOf s_Text_at s_Nodes_addLetter) k_Reader_readName J K (n + 1) 30 L S M = J 30 L S M := by rfl
theorem r_Reader_readName_31 {s_Tokens_endOf : aS} {s_Reader_add : aS} {s_Tokens_startOf : aS} {s_Text_at : aS} {s_Nodes_addLetter : aS} {J : aJ} {K : aR} {n : Nat} {L : aL} {S : List Value} {M : aM} : am_run (c_Reader_readName s_Tokens_endOf s_Reader_add s_Tokens_startOf s_Text_at s_Nodes_addLetter) k_Reader_readName J K (n + 1) 31 L S M = ai_iload 1 32 (am_run (c_Reader_readName s_Tokens_endOf s_Reader_add s_Tokens_startOf s_Text_at s_Nodes_addLetter) k_Reader_readName J K n) K 31 L S M := by rfl
theorem r_Reader_readName_32 {s_Tokens_endOf : aS} {s_Reader_add : aS} {s_Tokens_startOf : aS} {s_Text_at : aS} {s_Nodes_addLetter : aS} {J : aJ} {K : aR} {n : Nat} {L : aL} {S : List Value} {M : aM} : am_run (c_Reader_readName s_Tokens_endOf s_Reader_add s_Tokens_startOf s_Text_at s_Nodes_addLetter) k_Reader_readName J K (n + 1) 32 L S M = ai_cmpge 57 35 (am_run (c_Reader_readName s_Tokens_endOf s_Reader_add s_Tokens_startOf s_Text_at s_Nodes_addLetter) k_Reader_readName J K n) K 32 L S M := by rfl
theorem r_Reader_readName_35 {s_Tokens_endOf : aS} {s_Reader_add : aS} {s_Tokens_startOf : aS} {s_Text_at : aS} {s_Nodes_addLetter : aS} {J : aJ} {K : aR} {n : Nat} {L : aL} {S : List Value} {M : aM} : am_run (c_Reader_readName s_Tokens_endOf s_Reader_add s_Tokens_startOf s_Text_at s_Nodes_addLetter) k_Reader_readName J K (n + 1) 35 L S M = ai_aload 0 36 (am_run (c_Reader_readName s_Tokens_endOf s_Reader_add s_Tokens_startOf s_Text_at s_Nodes_addLetter) k_Reader_readName J K n) K 35 L S M := by rfl
theorem r_Reader_readName_36 {s_Tokens_endOf : aS} {s_Reader_add : aS} {s_Tokens_startOf : aS} {s_Text_at : aS} {s_Nodes_addLetter : aS} {J : aJ} {K : aR} {n : Nat} {L : aL} {S : List Value} {M : aM} : am_run (c_Reader_readName s_Tokens_endOf s_Reader_add s_Tokens_startOf s_Text_at s_Nodes_addLetter) k_Reader_readName J K (n + 1) 36 L S M = ai_getf 1 1 39 (am_run (c_Reader_readName s_Tokens_endOf s_Reader_add s_Tokens_startOf s_Text_at s_Nodes_addLetter) k_Reader_readName J K n) K 36 L S M := by rfl
theorem r_Reader_readName_39 {s_Tokens_endOf : aS} {s_Reader_add : aS} {s_Tokens_startOf : aS} {s_Text_at : aS} {s_Nodes_addLetter : aS} {J : aJ} {K : aR} {n : Nat} {L : aL} {S : List Value} {M : aM} : am_run (c_Reader_readName s_Tokens_endOf s_Reader_add s_Tokens_startOf s_Text_at s_Nodes_addLetter) k_Reader_readName J K (n + 1) 39 L S M = ai_iload 2 40 (am_run (c_Reader_readName s_Tokens_endOf s_Reader_add s_Tokens_startOf s_Text_at s_Nodes_addLetter) k_Reader_readName J K n) K 39 L S M := by rfl
theorem r_Reader_readName_40 {s_Tokens_endOf : aS} {s_Reader_add : aS} {s_Tokens_startOf : aS} {s_Text_at : aS} {s_Nodes_addLetter : aS} {J : aJ} {K : aR} {n : Nat} {L : aL} {S : List Value} {M : aM} : am_run (c_Reader_readName s_Tokens_endOf s_Reader_add s_Tokens_startOf s_Text_at s_Nodes_addLetter) k_Reader_readName J K (n + 1) 40 L S M = ai_aload 0 41 (am_run (c_Reader_readName s_Tokens_endOf s_Reader_add s_Tokens_startOf s_Text_at s_Nodes_addLetter) k_Reader_readName J K n) K 40 L S M := by rfl
theorem r_Reader_readName_41 {s_Tokens_endOf : aS} {s_Reader_add : aS} {s_Tokens_startOf : aS} {s_Text_at : aS} {s_Nodes_addLetter : aS} {J : aJ} {K : aR} {n : Nat} {L : aL} {S : List Value} {M : aM} : am_run (c_Reader_readName s_Tokens_endOf s_Reader_add s_Tokens_startOf s_Text_at s_Nodes_addLetter) k_Reader_readName J K (n + 1) 41 L S M = ai_getf 1 0 44 (am_run (c_Reader_readName s_Tokens_endOf s_Reader_add s_Tokens_startOf s_Text_at s_Nodes_addLetter) k_Reader_readName J K n) K 41 L S M := by rfl
theorem r_Reader_readName_44 {s_Tokens_endOf : aS} {s_Reader_add : aS} {s_Tokens_startOf : aS} {s_Text_at : aS} {s_Nodes_addLetter : aS} {J : aJ} {K : aR} {n : Nat} {L : aL} {S : List Value} {M : aM} : am_run (c_Reader_readName s_Tokens_endOf s_Reader_add s_Tokens_startOf s_Text_at s_Nodes_addLetter) k_Reader_readName J K (n + 1) 44 L S M = ai_iload 3 45 (am_run (c_Reader_readName s_Tokens_endOf s_Reader_add s_Tokens_startOf s_Text_at s_Nodes_addLetter) k_Reader_readName J K n) K 44 L S M := by rfl
theorem r_Reader_readName_45 {s_Tokens_endOf : aS} {s_Reader_add : aS} {s_Tokens_startOf : aS} {s_Text_at : aS} {s_Nodes_addLetter : aS} {J : aJ} {K : aR} {n : Nat} {L : aL} {S : List Value} {M : aM} : am_run (c_Reader_readName s_Tokens_endOf s_Reader_add s_Tokens_startOf s_Text_at s_Nodes_addLetter) k_Reader_readName J K (n + 1) 45 L S M = ai_callv2 2 s_Text_at 48 (am_run (c_Reader_readName s_Tokens_endOf s_Reader_add s_Tokens_startOf s_Text_at s_Nodes_addLetter) k_Reader_readName J K n) K 45 L S M := by rfl
theorem r_Reader_readName_48 {s_Tokens_endOf : aS} {s_Reader_add : aS} {s_Tokens_startOf : aS} {s_Text_at : aS} {s_Nodes_addLetter : aS} {J : aJ} {K : aR} {n : Nat} {L : aL} {S : List Value} {M : aM} : am_run (c_Reader_readName s_Tokens_endOf s_Reader_add s_Tokens_startOf s_Text_at s_Nodes_addLetter) k_Reader_readName J K (n + 1) 48 L S M = ai_callv3 0 s_Nodes_addLetter 51 (am_run (c_Reader_readName s_Tokens_endOf s_Reader_add s_Tokens_startOf s_Text_at s_Nodes_addLetter) k_Reader_readName J K n) K 48 L S M := by rfl
theorem r_Reader_readName_51 {s_Tokens_endOf : aS} {s_Reader_add : aS} {s_Tokens_startOf : aS} {s_Text_at : aS} {s_Nodes_addLetter : aS} {J : aJ} {K : aR} {n : Nat} {L : aL} {S : List Value} {M : aM} : am_run (c_Reader_readName s_Tokens_endOf s_Reader_add s_Tokens_startOf s_Text_at s_Nodes_addLetter) k_Reader_readName J K (n + 1) 51 L S M = ai_iinc 3 1 54 (am_run (c_Reader_readName s_Tokens_endOf s_Reader_add s_Tokens_startOf s_Text_at s_Nodes_addLetter) k_Reader_readName J K n) K 51 L S M := by rfl
theorem r_Reader_readName_54 {s_Tokens_endOf : aS} {s_Reader_add : aS} {s_Tokens_startOf : aS} {s_Text_at : aS} {s_Nodes_addLetter : aS} {J : aJ} {K : aR} {n : Nat} {L : aL} {S : List Value} {M : aM} : am_run (c_Reader_readName s_Tokens_endOf s_Reader_add s_Tokens_startOf s_Text_at s_Nodes_addLetter) k_Reader_readName J K (n + 1) 54 L S M = ai_goto 30 (am_run (c_Reader_readName s_Tokens_endOf s_Reader_add s_Tokens_startOf s_Text_at s_Nodes_addLetter) k_Reader_readName J K n) K 54 L S M := by rfl
theorem r_Reader_readName_57 {s_Tokens_endOf : aS} {s_Reader_add : aS} {s_Tokens_startOf : aS} {s_Text_at : aS} {s_Nodes_addLetter : aS} {J : aJ} {K : aR} {n : Nat} {L : aL} {S : List Value} {M : aM} : am_run (c_Reader_readName s_Tokens_endOf s_Reader_add s_Tokens_startOf s_Text_at s_Nodes_addLetter) k_Reader_readName J K (n + 1) 57 L S M = ai_iload 2 58 (am_run (c_Reader_readName s_Tokens_endOf s_Reader_add s_Tokens_startOf s_Text_at s_Nodes_addLetter) k_Reader_readName J K n) K 57 L S M := by rfl
theorem r_Reader_readName_58 {s_Tokens_endOf : aS} {s_Reader_add : aS} {s_Tokens_startOf : aS} {s_Text_at : aS} {s_Nodes_addLetter : aS} {J : aJ} {K : aR} {n : Nat} {L : aL} {S : List Value} {M : aM} : am_run (c_Reader_readName s_Tokens_endOf s_Reader_add s_Tokens_startOf s_Text_at s_Nodes_addLetter) k_Reader_readName J K (n + 1) 58 L S M = ai_iret (am_run (c_Reader_readName s_Tokens_endOf s_Reader_add s_Tokens_startOf s_Text_at s_Nodes_addLetter) k_Reader_readName J K n) K 58 L S M := by rfl
def c_Reader_readString (s_Tokens_endOf : aS) (s_Reader_add : aS) (s_Tokens_startOf : aS) (s_Text_at : aS) (s_Nodes_addLetter : aS) : List (Nat × aI) := [
  (0, ai_aload 0 1),
  (1, ai_getf 1 2 4),
  (4, ai_aload 0 5),
  (5, ai_getf 1 3 8),
  (8, ai_callv2 3 s_Tokens_endOf 11),
  (11, ai_const 1 12),
  (12, ai_isub 13),
  (13, ai_istore 1 14),
  (14, ai_aload 0 15),
  (15, ai_const 3 16),
  (16, ai_callv2 1 s_Reader_add 19),
  (19, ai_istore 2 20),
  (20, ai_aload 0 21),
  (21, ai_getf 1 2 24),
  (24, ai_aload 0 25),
  (25, ai_getf 1 3 28),
  (28, ai_callv2 3 s_Tokens_startOf 31),
  (31, ai_const 1 32),
  (32, ai_iadd 33),
  (33, ai_istore 3 34),
  (34, ai_iload 3 35),
  (35, ai_iload 1 36),
  (36, ai_cmpge 77 39),
  (39, ai_aload 0 40),
  (40, ai_getf 1 0 43),
  (43, ai_iload 3 44),
  (44, ai_callv2 2 s_Text_at 47),
  (47, ai_const 92 49),
  (49, ai_cmpne 55 52),
  (52, ai_iinc 3 1 55),
  (55, ai_aload 0 56),
  (56, ai_getf 1 1 59),
  (59, ai_iload 2 60),
  (60, ai_aload 0 61),
  (61, ai_getf 1 0 64),
  (64, ai_iload 3 65),
  (65, ai_callv2 2 s_Text_at 68),
  (68, ai_callv3 0 s_Nodes_addLetter 71),
  (71, ai_iinc 3 1 74),
  (74, ai_goto 34),
  (77, ai_iload 2 78),
  (78, ai_iret)]
set_option maxRecDepth 100000 in
set_option maxHeartbeats 4000000 in
theorem tb_Reader_readString {G : aG} {d : Nat} {s_Tokens_endOf : aS} {d_Tokens_endOf : Nat} (h_Tokens_endOf : am_Sp G Y_Tokens_endOf d_Tokens_endOf s_Tokens_endOf) (l_Tokens_endOf : d_Tokens_endOf < d) {s_Reader_add : aS} {d_Reader_add : Nat} (h_Reader_add : am_Sp G Y_Reader_add d_Reader_add s_Reader_add) (l_Reader_add : d_Reader_add < d) {s_Tokens_startOf : aS} {d_Tokens_startOf : Nat} (h_Tokens_startOf : am_Sp G Y_Tokens_startOf d_Tokens_startOf s_Tokens_startOf) (l_Tokens_startOf : d_Tokens_startOf < d) {s_Text_at : aS} {d_Text_at : Nat} (h_Text_at : am_Sp G Y_Text_at d_Text_at s_Text_at) (l_Text_at : d_Text_at < d) {s_Nodes_addLetter : aS} {d_Nodes_addLetter : Nat} (h_Nodes_addLetter : am_Sp G Y_Nodes_addLetter d_Nodes_addLetter s_Nodes_addLetter) (l_Nodes_addLetter : d_Nodes_addLetter < d) : am_tab G Y_Reader_readString d (c_Reader_readString s_Tokens_endOf s_Reader_add s_Tokens_startOf s_Text_at s_Nodes_addLetter) := by
  intro K p e s m args below meth c C
  exact ⟨as_aload_n C (pc := 0) (q := 0) (by decide +kernel) rfl rfl,
    as_getf C (pc := 1) (T := T_Reader) (N := 5) rfl in_Reader (by decide) rfl w_178 (by decide +kernel) rfl,
    as_aload_n C (pc := 4) (q := 0) (by decide +kernel) rfl rfl,
    as_getf C (pc := 5) (T := T_Reader) (N := 5) rfl in_Reader (by decide) rfl w_179 (by decide +kernel) rfl,
    as_callv2N C (pc := 8) h_Tokens_endOf (T := T_Tokens) (N := 4) rfl w_316 w_75 w_315 w_15 w_313 hy_Tokens_endOf (am_rm_of l_Tokens_endOf (by decide)) (by decide +kernel) rfl,
    as_iconst C (pc := 11) (n := 1) (by decide +kernel) (by decide +kernel) rfl,
    as_isub C (pc := 12) (by decide +kernel) rfl,
    as_istore_n C (pc := 13) (q := 1) (by decide +kernel) rfl (by decide) rfl,
    as_aload_n C (pc := 14) (q := 0) (by decide +kernel) rfl rfl,
    as_iconst C (pc := 15) (n := 3) (by decide +kernel) (by decide +kernel) rfl,
    as_callv2 C (pc := 16) h_Reader_add (T := T_Reader) (N := 5) rfl w_325 w_74 w_324 w_17 w_322 hy_Reader_add (am_rm_of l_Reader_add (by decide)) (by decide +kernel) rfl,
    as_istore_n C (pc := 19) (q := 2) (by decide +kernel) rfl (by decide) rfl,
    as_aload_n C (pc := 20) (q := 0) (by decide +kernel) rfl rfl,
    as_getf C (pc := 21) (T := T_Reader) (N := 5) rfl in_Reader (by decide) rfl w_178 (by decide +kernel) rfl,
    as_aload_n C (pc := 24) (q := 0) (by decide +kernel) rfl rfl,
    as_getf C (pc := 25) (T := T_Reader) (N := 5) rfl in_Reader (by decide) rfl w_179 (by decide +kernel) rfl,
    as_callv2N C (pc := 28) h_Tokens_startOf (T := T_Tokens) (N := 4) rfl w_320 w_75 w_319 w_16 w_317 hy_Tokens_startOf (am_rm_of l_Tokens_startOf (by decide)) (by decide +kernel) rfl,
    as_iconst C (pc := 31) (n := 1) (by decide +kernel) (by decide +kernel) rfl,
    as_iadd C (pc := 32) (by decide +kernel) rfl,
    as_istore_n C (pc := 33) (q := 3) (by decide +kernel) rfl (by decide) rfl,
    as_iload_n C (pc := 34) (q := 3) (by decide +kernel) rfl rfl,
    as_iload_n C (pc := 35) (q := 1) (by decide +kernel) rfl rfl,
    as_cmpge C (pc := 36) (off := 41) (by decide +kernel) (by decide) rfl,
    as_aload_n C (pc := 39) (q := 0) (by decide +kernel) rfl rfl,
    as_getf C (pc := 40) (T := T_Reader) (N := 5) rfl in_Reader (by decide) rfl w_176 (by decide +kernel) rfl,
    as_iload_n C (pc := 43) (q := 3) (by decide +kernel) rfl rfl,
    as_callv2N C (pc := 44) h_Text_at (T := T_Text) (N := 2) rfl w_270 w_71 w_269 w_5 w_321 hy_Text_at (am_rm_of l_Text_at (by decide)) (by decide +kernel) rfl,
    as_bipush C (pc := 47) (n := 92) (by decide +kernel) (by decide +kernel) rfl,
    as_cmpne C (pc := 49) (off := 6) (by decide +kernel) (by decide) rfl,
    as_iinc C (pc := 52) (k := 3) (n := 1) (by decide +kernel) (by decide +kernel) (by decide) rfl,
    as_aload_n C (pc := 55) (q := 0) (by decide +kernel) rfl rfl,
    as_getf C (pc := 56) (T := T_Reader) (N := 5) rfl in_Reader (by decide) rfl w_177 (by decide +kernel) rfl,
    as_iload_n C (pc := 59) (q := 2) (by decide +kernel) rfl rfl,
    as_aload_n C (pc := 60) (q := 0) (by decide +kernel) rfl rfl,
    as_getf C (pc := 61) (T := T_Reader) (N := 5) rfl in_Reader (by decide) rfl w_176 (by decide +kernel) rfl,
    as_iload_n C (pc := 64) (q := 3) (by decide +kernel) rfl rfl,
    as_callv2N C (pc := 65) h_Text_at (T := T_Text) (N := 2) rfl w_270 w_71 w_269 w_5 w_321 hy_Text_at (am_rm_of l_Text_at (by decide)) (by decide +kernel) rfl,
    as_callv3N C (pc := 68) h_Nodes_addLetter (T := T_Nodes) (N := 10) rfl w_349 w_72 w_348 w_23 w_346 hy_Nodes_addLetter (am_rm_of l_Nodes_addLetter (by decide)) (by decide +kernel) rfl,
    as_iinc C (pc := 71) (k := 3) (n := 1) (by decide +kernel) (by decide +kernel) (by decide) rfl,
    as_goto C (pc := 74) (off := (-40)) (by decide +kernel) (by decide),
    as_iload_n C (pc := 77) (q := 2) (by decide +kernel) rfl rfl,
    as_iret C (pc := 78) rfl (by decide +kernel), trivial⟩
abbrev k_Reader_readString : List Nat := [34]
theorem q_Reader_readString_34 {s_Tokens_endOf : aS} {s_Reader_add : aS} {s_Tokens_startOf : aS} {s_Text_at : aS} {s_Nodes_addLetter : aS} : am_at (c_Reader_readString s_Tokens_endOf s_Reader_add s_Tokens_startOf s_Text_at s_Nodes_addLetter) 34 = ai_iload 3 35 := by rfl
theorem r_Reader_readString_0 {s_Tokens_endOf : aS} {s_Reader_add : aS} {s_Tokens_startOf : aS} {s_Text_at : aS} {s_Nodes_addLetter : aS} {J : aJ} {K : aR} {n : Nat} {L : aL} {S : List Value} {M : aM} : am_run (c_Reader_readString s_Tokens_endOf s_Reader_add s_Tokens_startOf s_Text_at s_Nodes_addLetter) k_Reader_readString J K (n + 1) 0 L S M = ai_aload 0 1 (am_run (c_Reader_readString s_Tokens_endOf s_Reader_add s_Tokens_startOf s_Text_at s_Nodes_addLetter) k_Reader_readString J K n) K 0 L S M := by rfl
theorem r_Reader_readString_1 {s_Tokens_endOf : aS} {s_Reader_add : aS} {s_Tokens_startOf : aS} {s_Text_at : aS} {s_Nodes_addLetter : aS} {J : aJ} {K : aR} {n : Nat} {L : aL} {S : List Value} {M : aM} : am_run (c_Reader_readString s_Tokens_endOf s_Reader_add s_Tokens_startOf s_Text_at s_Nodes_addLetter) k_Reader_readString J K (n + 1) 1 L S M = ai_getf 1 2 4 (am_run (c_Reader_readString s_Tokens_endOf s_Reader_add s_Tokens_startOf s_Text_at s_Nodes_addLetter) k_Reader_readString J K n) K 1 L S M := by rfl
theorem r_Reader_readString_4 {s_Tokens_endOf : aS} {s_Reader_add : aS} {s_Tokens_startOf : aS} {s_Text_at : aS} {s_Nodes_addLetter : aS} {J : aJ} {K : aR} {n : Nat} {L : aL} {S : List Value} {M : aM} : am_run (c_Reader_readString s_Tokens_endOf s_Reader_add s_Tokens_startOf s_Text_at s_Nodes_addLetter) k_Reader_readString J K (n + 1) 4 L S M = ai_aload 0 5 (am_run (c_Reader_readString s_Tokens_endOf s_Reader_add s_Tokens_startOf s_Text_at s_Nodes_addLetter) k_Reader_readString J K n) K 4 L S M := by rfl
theorem r_Reader_readString_5 {s_Tokens_endOf : aS} {s_Reader_add : aS} {s_Tokens_startOf : aS} {s_Text_at : aS} {s_Nodes_addLetter : aS} {J : aJ} {K : aR} {n : Nat} {L : aL} {S : List Value} {M : aM} : am_run (c_Reader_readString s_Tokens_endOf s_Reader_add s_Tokens_startOf s_Text_at s_Nodes_addLetter) k_Reader_readString J K (n + 1) 5 L S M = ai_getf 1 3 8 (am_run (c_Reader_readString s_Tokens_endOf s_Reader_add s_Tokens_startOf s_Text_at s_Nodes_addLetter) k_Reader_readString J K n) K 5 L S M := by rfl
theorem r_Reader_readString_8 {s_Tokens_endOf : aS} {s_Reader_add : aS} {s_Tokens_startOf : aS} {s_Text_at : aS} {s_Nodes_addLetter : aS} {J : aJ} {K : aR} {n : Nat} {L : aL} {S : List Value} {M : aM} : am_run (c_Reader_readString s_Tokens_endOf s_Reader_add s_Tokens_startOf s_Text_at s_Nodes_addLetter) k_Reader_readString J K (n + 1) 8 L S M = ai_callv2 3 s_Tokens_endOf 11 (am_run (c_Reader_readString s_Tokens_endOf s_Reader_add s_Tokens_startOf s_Text_at s_Nodes_addLetter) k_Reader_readString J K n) K 8 L S M := by rfl
theorem r_Reader_readString_11 {s_Tokens_endOf : aS} {s_Reader_add : aS} {s_Tokens_startOf : aS} {s_Text_at : aS} {s_Nodes_addLetter : aS} {J : aJ} {K : aR} {n : Nat} {L : aL} {S : List Value} {M : aM} : am_run (c_Reader_readString s_Tokens_endOf s_Reader_add s_Tokens_startOf s_Text_at s_Nodes_addLetter) k_Reader_readString J K (n + 1) 11 L S M = ai_const 1 12 (am_run (c_Reader_readString s_Tokens_endOf s_Reader_add s_Tokens_startOf s_Text_at s_Nodes_addLetter) k_Reader_readString J K n) K 11 L S M := by rfl
theorem r_Reader_readString_12 {s_Tokens_endOf : aS} {s_Reader_add : aS} {s_Tokens_startOf : aS} {s_Text_at : aS} {s_Nodes_addLetter : aS} {J : aJ} {K : aR} {n : Nat} {L : aL} {S : List Value} {M : aM} : am_run (c_Reader_readString s_Tokens_endOf s_Reader_add s_Tokens_startOf s_Text_at s_Nodes_addLetter) k_Reader_readString J K (n + 1) 12 L S M = ai_isub 13 (am_run (c_Reader_readString s_Tokens_endOf s_Reader_add s_Tokens_startOf s_Text_at s_Nodes_addLetter) k_Reader_readString J K n) K 12 L S M := by rfl
theorem r_Reader_readString_13 {s_Tokens_endOf : aS} {s_Reader_add : aS} {s_Tokens_startOf : aS} {s_Text_at : aS} {s_Nodes_addLetter : aS} {J : aJ} {K : aR} {n : Nat} {L : aL} {S : List Value} {M : aM} : am_run (c_Reader_readString s_Tokens_endOf s_Reader_add s_Tokens_startOf s_Text_at s_Nodes_addLetter) k_Reader_readString J K (n + 1) 13 L S M = ai_istore 1 14 (am_run (c_Reader_readString s_Tokens_endOf s_Reader_add s_Tokens_startOf s_Text_at s_Nodes_addLetter) k_Reader_readString J K n) K 13 L S M := by rfl
theorem r_Reader_readString_14 {s_Tokens_endOf : aS} {s_Reader_add : aS} {s_Tokens_startOf : aS} {s_Text_at : aS} {s_Nodes_addLetter : aS} {J : aJ} {K : aR} {n : Nat} {L : aL} {S : List Value} {M : aM} : am_run (c_Reader_readString s_Tokens_endOf s_Reader_add s_Tokens_startOf s_Text_at s_Nodes_addLetter) k_Reader_readString J K (n + 1) 14 L S M = ai_aload 0 15 (am_run (c_Reader_readString s_Tokens_endOf s_Reader_add s_Tokens_startOf s_Text_at s_Nodes_addLetter) k_Reader_readString J K n) K 14 L S M := by rfl
theorem r_Reader_readString_15 {s_Tokens_endOf : aS} {s_Reader_add : aS} {s_Tokens_startOf : aS} {s_Text_at : aS} {s_Nodes_addLetter : aS} {J : aJ} {K : aR} {n : Nat} {L : aL} {S : List Value} {M : aM} : am_run (c_Reader_readString s_Tokens_endOf s_Reader_add s_Tokens_startOf s_Text_at s_Nodes_addLetter) k_Reader_readString J K (n + 1) 15 L S M = ai_const 3 16 (am_run (c_Reader_readString s_Tokens_endOf s_Reader_add s_Tokens_startOf s_Text_at s_Nodes_addLetter) k_Reader_readString J K n) K 15 L S M := by rfl
theorem r_Reader_readString_16 {s_Tokens_endOf : aS} {s_Reader_add : aS} {s_Tokens_startOf : aS} {s_Text_at : aS} {s_Nodes_addLetter : aS} {J : aJ} {K : aR} {n : Nat} {L : aL} {S : List Value} {M : aM} : am_run (c_Reader_readString s_Tokens_endOf s_Reader_add s_Tokens_startOf s_Text_at s_Nodes_addLetter) k_Reader_readString J K (n + 1) 16 L S M = ai_callv2 1 s_Reader_add 19 (am_run (c_Reader_readString s_Tokens_endOf s_Reader_add s_Tokens_startOf s_Text_at s_Nodes_addLetter) k_Reader_readString J K n) K 16 L S M := by rfl
theorem r_Reader_readString_19 {s_Tokens_endOf : aS} {s_Reader_add : aS} {s_Tokens_startOf : aS} {s_Text_at : aS} {s_Nodes_addLetter : aS} {J : aJ} {K : aR} {n : Nat} {L : aL} {S : List Value} {M : aM} : am_run (c_Reader_readString s_Tokens_endOf s_Reader_add s_Tokens_startOf s_Text_at s_Nodes_addLetter) k_Reader_readString J K (n + 1) 19 L S M = ai_istore 2 20 (am_run (c_Reader_readString s_Tokens_endOf s_Reader_add s_Tokens_startOf s_Text_at s_Nodes_addLetter) k_Reader_readString J K n) K 19 L S M := by rfl
theorem r_Reader_readString_20 {s_Tokens_endOf : aS} {s_Reader_add : aS} {s_Tokens_startOf : aS} {s_Text_at : aS} {s_Nodes_addLetter : aS} {J : aJ} {K : aR} {n : Nat} {L : aL} {S : List Value} {M : aM} : am_run (c_Reader_readString s_Tokens_endOf s_Reader_add s_Tokens_startOf s_Text_at s_Nodes_addLetter) k_Reader_readString J K (n + 1) 20 L S M = ai_aload 0 21 (am_run (c_Reader_readString s_Tokens_endOf s_Reader_add s_Tokens_startOf s_Text_at s_Nodes_addLetter) k_Reader_readString J K n) K 20 L S M := by rfl
theorem r_Reader_readString_21 {s_Tokens_endOf : aS} {s_Reader_add : aS} {s_Tokens_startOf : aS} {s_Text_at : aS} {s_Nodes_addLetter : aS} {J : aJ} {K : aR} {n : Nat} {L : aL} {S : List Value} {M : aM} : am_run (c_Reader_readString s_Tokens_endOf s_Reader_add s_Tokens_startOf s_Text_at s_Nodes_addLetter) k_Reader_readString J K (n + 1) 21 L S M = ai_getf 1 2 24 (am_run (c_Reader_readString s_Tokens_endOf s_Reader_add s_Tokens_startOf s_Text_at s_Nodes_addLetter) k_Reader_readString J K n) K 21 L S M := by rfl
theorem r_Reader_readString_24 {s_Tokens_endOf : aS} {s_Reader_add : aS} {s_Tokens_startOf : aS} {s_Text_at : aS} {s_Nodes_addLetter : aS} {J : aJ} {K : aR} {n : Nat} {L : aL} {S : List Value} {M : aM} : am_run (c_Reader_readString s_Tokens_endOf s_Reader_add s_Tokens_startOf s_Text_at s_Nodes_addLetter) k_Reader_readString J K (n + 1) 24 L S M = ai_aload 0 25 (am_run (c_Reader_readString s_Tokens_endOf s_Reader_add s_Tokens_startOf s_Text_at s_Nodes_addLetter) k_Reader_readString J K n) K 24 L S M := by rfl
theorem r_Reader_readString_25 {s_Tokens_endOf : aS} {s_Reader_add : aS} {s_Tokens_startOf : aS} {s_Text_at : aS} {s_Nodes_addLetter : aS} {J : aJ} {K : aR} {n : Nat} {L : aL} {S : List Value} {M : aM} : am_run (c_Reader_readString s_Tokens_endOf s_Reader_add s_Tokens_startOf s_Text_at s_Nodes_addLetter) k_Reader_readString J K (n + 1) 25 L S M = ai_getf 1 3 28 (am_run (c_Reader_readString s_Tokens_endOf s_Reader_add s_Tokens_startOf s_Text_at s_Nodes_addLetter) k_Reader_readString J K n) K 25 L S M := by rfl
theorem r_Reader_readString_28 {s_Tokens_endOf : aS} {s_Reader_add : aS} {s_Tokens_startOf : aS} {s_Text_at : aS} {s_Nodes_addLetter : aS} {J : aJ} {K : aR} {n : Nat} {L : aL} {S : List Value} {M : aM} : am_run (c_Reader_readString s_Tokens_endOf s_Reader_add s_Tokens_startOf s_Text_at s_Nodes_addLetter) k_Reader_readString J K (n + 1) 28 L S M = ai_callv2 3 s_Tokens_startOf 31 (am_run (c_Reader_readString s_Tokens_endOf s_Reader_add s_Tokens_startOf s_Text_at s_Nodes_addLetter) k_Reader_readString J K n) K 28 L S M := by rfl
theorem r_Reader_readString_31 {s_Tokens_endOf : aS} {s_Reader_add : aS} {s_Tokens_startOf : aS} {s_Text_at : aS} {s_Nodes_addLetter : aS} {J : aJ} {K : aR} {n : Nat} {L : aL} {S : List Value} {M : aM} : am_run (c_Reader_readString s_Tokens_endOf s_Reader_add s_Tokens_startOf s_Text_at s_Nodes_addLetter) k_Reader_readString J K (n + 1) 31 L S M = ai_const 1 32 (am_run (c_Reader_readString s_Tokens_endOf s_Reader_add s_Tokens_startOf s_Text_at s_Nodes_addLetter) k_Reader_readString J K n) K 31 L S M := by rfl
theorem r_Reader_readString_32 {s_Tokens_endOf : aS} {s_Reader_add : aS} {s_Tokens_startOf : aS} {s_Text_at : aS} {s_Nodes_addLetter : aS} {J : aJ} {K : aR} {n : Nat} {L : aL} {S : List Value} {M : aM} : am_run (c_Reader_readString s_Tokens_endOf s_Reader_add s_Tokens_startOf s_Text_at s_Nodes_addLetter) k_Reader_readString J K (n + 1) 32 L S M = ai_iadd 33 (am_run (c_Reader_readString s_Tokens_endOf s_Reader_add s_Tokens_startOf s_Text_at s_Nodes_addLetter) k_Reader_readString J K n) K 32 L S M := by rfl
theorem r_Reader_readString_33 {s_Tokens_endOf : aS} {s_Reader_add : aS} {s_Tokens_startOf : aS} {s_Text_at : aS} {s_Nodes_addLetter : aS} {J : aJ} {K : aR} {n : Nat} {L : aL} {S : List Value} {M : aM} : am_run (c_Reader_readString s_Tokens_endOf s_Reader_add s_Tokens_startOf s_Text_at s_Nodes_addLetter) k_Reader_readString J K (n + 1) 33 L S M = ai_istore 3 34 (am_run (c_Reader_readString s_Tokens_endOf s_Reader_add s_Tokens_startOf s_Text_at s_Nodes_addLetter) k_Reader_readString J K n) K 33 L S M := by rfl
theorem r_Reader_readString_34 {s_Tokens_endOf : aS} {s_Reader_add : aS} {s_Tokens_startOf : aS} {s_Text_at : aS} {s_Nodes_addLetter : aS} {J : aJ} {K : aR} {n : Nat} {L : aL} {S : List Value} {M : aM} : am_run (c_Reader_readString s_Tokens_endOf s_Reader_add s_Tokens_startOf s_Text_at s_Nodes_addLetter) k_Reader_readString J K (n + 1) 34 L S M = J 34 L S M := by rfl
theorem r_Reader_readString_35 {s_Tokens_endOf : aS} {s_Reader_add : aS} {s_Tokens_startOf : aS} {s_Text_at : aS} {s_Nodes_addLetter : aS} {J : aJ} {K : aR} {n : Nat} {L : aL} {S : List Value} {M : aM} : am_run (c_Reader_readString s_Tokens_endOf s_Reader_add s_Tokens_startOf s_Text_at s_Nodes_addLetter) k_Reader_readString J K (n + 1) 35 L S M = ai_iload 1 36 (am_run (c_Reader_readString s_Tokens_endOf s_Reader_add s_Tokens_startOf s_Text_at s_Nodes_addLetter) k_Reader_readString J K n) K 35 L S M := by rfl
theorem r_Reader_readString_36 {s_Tokens_endOf : aS} {s_Reader_add : aS} {s_Tokens_startOf : aS} {s_Text_at : aS} {s_Nodes_addLetter : aS} {J : aJ} {K : aR} {n : Nat} {L : aL} {S : List Value} {M : aM} : am_run (c_Reader_readString s_Tokens_endOf s_Reader_add s_Tokens_startOf s_Text_at s_Nodes_addLetter) k_Reader_readString J K (n + 1) 36 L S M = ai_cmpge 77 39 (am_run (c_Reader_readString s_Tokens_endOf s_Reader_add s_Tokens_startOf s_Text_at s_Nodes_addLetter) k_Reader_readString J K n) K 36 L S M := by rfl
theorem r_Reader_readString_39 {s_Tokens_endOf : aS} {s_Reader_add : aS} {s_Tokens_startOf : aS} {s_Text_at : aS} {s_Nodes_addLetter : aS} {J : aJ} {K : aR} {n : Nat} {L : aL} {S : List Value} {M : aM} : am_run (c_Reader_readString s_Tokens_endOf s_Reader_add s_Tokens_startOf s_Text_at s_Nodes_addLetter) k_Reader_readString J K (n + 1) 39 L S M = ai_aload 0 40 (am_run (c_Reader_readString s_Tokens_endOf s_Reader_add s_Tokens_startOf s_Text_at s_Nodes_addLetter) k_Reader_readString J K n) K 39 L S M := by rfl
theorem r_Reader_readString_40 {s_Tokens_endOf : aS} {s_Reader_add : aS} {s_Tokens_startOf : aS} {s_Text_at : aS} {s_Nodes_addLetter : aS} {J : aJ} {K : aR} {n : Nat} {L : aL} {S : List Value} {M : aM} : am_run (c_Reader_readString s_Tokens_endOf s_Reader_add s_Tokens_startOf s_Text_at s_Nodes_addLetter) k_Reader_readString J K (n + 1) 40 L S M = ai_getf 1 0 43 (am_run (c_Reader_readString s_Tokens_endOf s_Reader_add s_Tokens_startOf s_Text_at s_Nodes_addLetter) k_Reader_readString J K n) K 40 L S M := by rfl
theorem r_Reader_readString_43 {s_Tokens_endOf : aS} {s_Reader_add : aS} {s_Tokens_startOf : aS} {s_Text_at : aS} {s_Nodes_addLetter : aS} {J : aJ} {K : aR} {n : Nat} {L : aL} {S : List Value} {M : aM} : am_run (c_Reader_readString s_Tokens_endOf s_Reader_add s_Tokens_startOf s_Text_at s_Nodes_addLetter) k_Reader_readString J K (n + 1) 43 L S M = ai_iload 3 44 (am_run (c_Reader_readString s_Tokens_endOf s_Reader_add s_Tokens_startOf s_Text_at s_Nodes_addLetter) k_Reader_readString J K n) K 43 L S M := by rfl
theorem r_Reader_readString_44 {s_Tokens_endOf : aS} {s_Reader_add : aS} {s_Tokens_startOf : aS} {s_Text_at : aS} {s_Nodes_addLetter : aS} {J : aJ} {K : aR} {n : Nat} {L : aL} {S : List Value} {M : aM} : am_run (c_Reader_readString s_Tokens_endOf s_Reader_add s_Tokens_startOf s_Text_at s_Nodes_addLetter) k_Reader_readString J K (n + 1) 44 L S M = ai_callv2 2 s_Text_at 47 (am_run (c_Reader_readString s_Tokens_endOf s_Reader_add s_Tokens_startOf s_Text_at s_Nodes_addLetter) k_Reader_readString J K n) K 44 L S M := by rfl
theorem r_Reader_readString_47 {s_Tokens_endOf : aS} {s_Reader_add : aS} {s_Tokens_startOf : aS} {s_Text_at : aS} {s_Nodes_addLetter : aS} {J : aJ} {K : aR} {n : Nat} {L : aL} {S : List Value} {M : aM} : am_run (c_Reader_readString s_Tokens_endOf s_Reader_add s_Tokens_startOf s_Text_at s_Nodes_addLetter) k_Reader_readString J K (n + 1) 47 L S M = ai_const 92 49 (am_run (c_Reader_readString s_Tokens_endOf s_Reader_add s_Tokens_startOf s_Text_at s_Nodes_addLetter) k_Reader_readString J K n) K 47 L S M := by rfl
theorem r_Reader_readString_49 {s_Tokens_endOf : aS} {s_Reader_add : aS} {s_Tokens_startOf : aS} {s_Text_at : aS} {s_Nodes_addLetter : aS} {J : aJ} {K : aR} {n : Nat} {L : aL} {S : List Value} {M : aM} : am_run (c_Reader_readString s_Tokens_endOf s_Reader_add s_Tokens_startOf s_Text_at s_Nodes_addLetter) k_Reader_readString J K (n + 1) 49 L S M = ai_cmpne 55 52 (am_run (c_Reader_readString s_Tokens_endOf s_Reader_add s_Tokens_startOf s_Text_at s_Nodes_addLetter) k_Reader_readString J K n) K 49 L S M := by rfl
theorem r_Reader_readString_52 {s_Tokens_endOf : aS} {s_Reader_add : aS} {s_Tokens_startOf : aS} {s_Text_at : aS} {s_Nodes_addLetter : aS} {J : aJ} {K : aR} {n : Nat} {L : aL} {S : List Value} {M : aM} : am_run (c_Reader_readString s_Tokens_endOf s_Reader_add s_Tokens_startOf s_Text_at s_Nodes_addLetter) k_Reader_readString J K (n + 1) 52 L S M = ai_iinc 3 1 55 (am_run (c_Reader_readString s_Tokens_endOf s_Reader_add s_Tokens_startOf s_Text_at s_Nodes_addLetter) k_Reader_readString J K n) K 52 L S M := by rfl
theorem r_Reader_readString_55 {s_Tokens_endOf : aS} {s_Reader_add : aS} {s_Tokens_startOf : aS} {s_Text_at : aS} {s_Nodes_addLetter : aS} {J : aJ} {K : aR} {n : Nat} {L : aL} {S : List Value} {M : aM} : am_run (c_Reader_readString s_Tokens_endOf s_Reader_add s_Tokens_startOf s_Text_at s_Nodes_addLetter) k_Reader_readString J K (n + 1) 55 L S M = ai_aload 0 56 (am_run (c_Reader_readString s_Tokens_endOf s_Reader_add s_Tokens_startOf s_Text_at s_Nodes_addLetter) k_Reader_readString J K n) K 55 L S M := by rfl
theorem r_Reader_readString_56 {s_Tokens_endOf : aS} {s_Reader_add : aS} {s_Tokens_startOf : aS} {s_Text_at : aS} {s_Nodes_addLetter : aS} {J : aJ} {K : aR} {n : Nat} {L : aL} {S : List Value} {M : aM} : am_run (c_Reader_readString s_Tokens_endOf s_Reader_add s_Tokens_startOf s_Text_at s_Nodes_addLetter) k_Reader_readString J K (n + 1) 56 L S M = ai_getf 1 1 59 (am_run (c_Reader_readString s_Tokens_endOf s_Reader_add s_Tokens_startOf s_Text_at s_Nodes_addLetter) k_Reader_readString J K n) K 56 L S M := by rfl
theorem r_Reader_readString_59 {s_Tokens_endOf : aS} {s_Reader_add : aS} {s_Tokens_startOf : aS} {s_Text_at : aS} {s_Nodes_addLetter : aS} {J : aJ} {K : aR} {n : Nat} {L : aL} {S : List Value} {M : aM} : am_run (c_Reader_readString s_Tokens_endOf s_Reader_add s_Tokens_startOf s_Text_at s_Nodes_addLetter) k_Reader_readString J K (n + 1) 59 L S M = ai_iload 2 60 (am_run (c_Reader_readString s_Tokens_endOf s_Reader_add s_Tokens_startOf s_Text_at s_Nodes_addLetter) k_Reader_readString J K n) K 59 L S M := by rfl
theorem r_Reader_readString_60 {s_Tokens_endOf : aS} {s_Reader_add : aS} {s_Tokens_startOf : aS} {s_Text_at : aS} {s_Nodes_addLetter : aS} {J : aJ} {K : aR} {n : Nat} {L : aL} {S : List Value} {M : aM} : am_run (c_Reader_readString s_Tokens_endOf s_Reader_add s_Tokens_startOf s_Text_at s_Nodes_addLetter) k_Reader_readString J K (n + 1) 60 L S M = ai_aload 0 61 (am_run (c_Reader_readString s_Tokens_endOf s_Reader_add s_Tokens_startOf s_Text_at s_Nodes_addLetter) k_Reader_readString J K n) K 60 L S M := by rfl
theorem r_Reader_readString_61 {s_Tokens_endOf : aS} {s_Reader_add : aS} {s_Tokens_startOf : aS} {s_Text_at : aS} {s_Nodes_addLetter : aS} {J : aJ} {K : aR} {n : Nat} {L : aL} {S : List Value} {M : aM} : am_run (c_Reader_readString s_Tokens_endOf s_Reader_add s_Tokens_startOf s_Text_at s_Nodes_addLetter) k_Reader_readString J K (n + 1) 61 L S M = ai_getf 1 0 64 (am_run (c_Reader_readString s_Tokens_endOf s_Reader_add s_Tokens_startOf s_Text_at s_Nodes_addLetter) k_Reader_readString J K n) K 61 L S M := by rfl
theorem r_Reader_readString_64 {s_Tokens_endOf : aS} {s_Reader_add : aS} {s_Tokens_startOf : aS} {s_Text_at : aS} {s_Nodes_addLetter : aS} {J : aJ} {K : aR} {n : Nat} {L : aL} {S : List Value} {M : aM} : am_run (c_Reader_readString s_Tokens_endOf s_Reader_add s_Tokens_startOf s_Text_at s_Nodes_addLetter) k_Reader_readString J K (n + 1) 64 L S M = ai_iload 3 65 (am_run (c_Reader_readString s_Tokens_endOf s_Reader_add s_Tokens_startOf s_Text_at s_Nodes_addLetter) k_Reader_readString J K n) K 64 L S M := by rfl
theorem r_Reader_readString_65 {s_Tokens_endOf : aS} {s_Reader_add : aS} {s_Tokens_startOf : aS} {s_Text_at : aS} {s_Nodes_addLetter : aS} {J : aJ} {K : aR} {n : Nat} {L : aL} {S : List Value} {M : aM} : am_run (c_Reader_readString s_Tokens_endOf s_Reader_add s_Tokens_startOf s_Text_at s_Nodes_addLetter) k_Reader_readString J K (n + 1) 65 L S M = ai_callv2 2 s_Text_at 68 (am_run (c_Reader_readString s_Tokens_endOf s_Reader_add s_Tokens_startOf s_Text_at s_Nodes_addLetter) k_Reader_readString J K n) K 65 L S M := by rfl
theorem r_Reader_readString_68 {s_Tokens_endOf : aS} {s_Reader_add : aS} {s_Tokens_startOf : aS} {s_Text_at : aS} {s_Nodes_addLetter : aS} {J : aJ} {K : aR} {n : Nat} {L : aL} {S : List Value} {M : aM} : am_run (c_Reader_readString s_Tokens_endOf s_Reader_add s_Tokens_startOf s_Text_at s_Nodes_addLetter) k_Reader_readString J K (n + 1) 68 L S M = ai_callv3 0 s_Nodes_addLetter 71 (am_run (c_Reader_readString s_Tokens_endOf s_Reader_add s_Tokens_startOf s_Text_at s_Nodes_addLetter) k_Reader_readString J K n) K 68 L S M := by rfl
theorem r_Reader_readString_71 {s_Tokens_endOf : aS} {s_Reader_add : aS} {s_Tokens_startOf : aS} {s_Text_at : aS} {s_Nodes_addLetter : aS} {J : aJ} {K : aR} {n : Nat} {L : aL} {S : List Value} {M : aM} : am_run (c_Reader_readString s_Tokens_endOf s_Reader_add s_Tokens_startOf s_Text_at s_Nodes_addLetter) k_Reader_readString J K (n + 1) 71 L S M = ai_iinc 3 1 74 (am_run (c_Reader_readString s_Tokens_endOf s_Reader_add s_Tokens_startOf s_Text_at s_Nodes_addLetter) k_Reader_readString J K n) K 71 L S M := by rfl
theorem r_Reader_readString_74 {s_Tokens_endOf : aS} {s_Reader_add : aS} {s_Tokens_startOf : aS} {s_Text_at : aS} {s_Nodes_addLetter : aS} {J : aJ} {K : aR} {n : Nat} {L : aL} {S : List Value} {M : aM} : am_run (c_Reader_readString s_Tokens_endOf s_Reader_add s_Tokens_startOf s_Text_at s_Nodes_addLetter) k_Reader_readString J K (n + 1) 74 L S M = ai_goto 34 (am_run (c_Reader_readString s_Tokens_endOf s_Reader_add s_Tokens_startOf s_Text_at s_Nodes_addLetter) k_Reader_readString J K n) K 74 L S M := by rfl
theorem r_Reader_readString_77 {s_Tokens_endOf : aS} {s_Reader_add : aS} {s_Tokens_startOf : aS} {s_Text_at : aS} {s_Nodes_addLetter : aS} {J : aJ} {K : aR} {n : Nat} {L : aL} {S : List Value} {M : aM} : am_run (c_Reader_readString s_Tokens_endOf s_Reader_add s_Tokens_startOf s_Text_at s_Nodes_addLetter) k_Reader_readString J K (n + 1) 77 L S M = ai_iload 2 78 (am_run (c_Reader_readString s_Tokens_endOf s_Reader_add s_Tokens_startOf s_Text_at s_Nodes_addLetter) k_Reader_readString J K n) K 77 L S M := by rfl
theorem r_Reader_readString_78 {s_Tokens_endOf : aS} {s_Reader_add : aS} {s_Tokens_startOf : aS} {s_Text_at : aS} {s_Nodes_addLetter : aS} {J : aJ} {K : aR} {n : Nat} {L : aL} {S : List Value} {M : aM} : am_run (c_Reader_readString s_Tokens_endOf s_Reader_add s_Tokens_startOf s_Text_at s_Nodes_addLetter) k_Reader_readString J K (n + 1) 78 L S M = ai_iret (am_run (c_Reader_readString s_Tokens_endOf s_Reader_add s_Tokens_startOf s_Text_at s_Nodes_addLetter) k_Reader_readString J K n) K 78 L S M := by rfl
def c_Reader_readQuoted (s_Reader_fault : aS) (s_Reader_add : aS) (s_Nodes_nameQuote : aS) (s_Nodes_setHead : aS) (s_Nodes_setTail : aS) (s_Reader_readDatum : aS) : List (Nat × aI) := [
  (0, ai_iload 1 1),
  (1, ai_const 15 3),
  (3, ai_cmplt 11 6),
  (6, ai_aload 0 7),
  (7, ai_callv1 1 s_Reader_fault 10),
  (10, ai_iret),
  (11, ai_aload 0 12),
  (12, ai_const 4 13),
  (13, ai_callv2 1 s_Reader_add 16),
  (16, ai_istore 2 17),
  (17, ai_aload 0 18),
  (18, ai_const 2 19),
  (19, ai_callv2 1 s_Reader_add 22),
  (22, ai_istore 3 23),
  (23, ai_aload 0 24),
  (24, ai_const 4 25),
  (25, ai_callv2 1 s_Reader_add 28),
  (28, ai_istore 4 30),
  (30, ai_iload 4 32),
  (32, ai_const (-1) 33),
  (33, ai_cmpne 38 36),
  (36, ai_const (-1) 37),
  (37, ai_iret),
  (38, ai_aload 0 39),
  (39, ai_getf 1 1 42),
  (42, ai_iload 3 43),
  (43, ai_callv2 0 s_Nodes_nameQuote 46),
  (46, ai_aload 0 47),
  (47, ai_getf 1 1 50),
  (50, ai_iload 2 51),
  (51, ai_iload 3 52),
  (52, ai_callv3 0 s_Nodes_setHead 55),
  (55, ai_aload 0 56),
  (56, ai_getf 1 1 59),
  (59, ai_iload 2 60),
  (60, ai_iload 4 62),
  (62, ai_callv3 0 s_Nodes_setTail 65),
  (65, ai_aload 0 66),
  (66, ai_dup 67),
  (67, ai_getf 1 3 70),
  (70, ai_const 1 71),
  (71, ai_iadd 72),
  (72, ai_putf 1 3 75),
  (75, ai_aload 0 76),
  (76, ai_iload 1 77),
  (77, ai_const 1 78),
  (78, ai_iadd 79),
  (79, ai_callv2 1 s_Reader_readDatum 82),
  (82, ai_istore 5 84),
  (84, ai_iload 5 86),
  (86, ai_const (-1) 87),
  (87, ai_cmpne 92 90),
  (90, ai_const (-1) 91),
  (91, ai_iret),
  (92, ai_aload 0 93),
  (93, ai_getf 1 1 96),
  (96, ai_iload 4 98),
  (98, ai_iload 5 100),
  (100, ai_callv3 0 s_Nodes_setHead 103),
  (103, ai_aload 0 104),
  (104, ai_const 5 105),
  (105, ai_callv2 1 s_Reader_add 108),
  (108, ai_istore 6 110),
  (110, ai_aload 0 111),
  (111, ai_getf 1 1 114),
  (114, ai_iload 4 116),
  (116, ai_iload 6 118),
  (118, ai_callv3 0 s_Nodes_setTail 121),
  (121, ai_iload 6 123),
  (123, ai_const (-1) 124),
  (124, ai_cmpne 131 127),
  (127, ai_const (-1) 128),
  (128, ai_goto 132),
  (131, ai_iload 2 132),
  (132, ai_iret)]
set_option maxRecDepth 100000 in
set_option maxHeartbeats 4000000 in
theorem tb_Reader_readQuoted {G : aG} {d : Nat} {s_Reader_fault : aS} {d_Reader_fault : Nat} (h_Reader_fault : am_Sp G Y_Reader_fault d_Reader_fault s_Reader_fault) (l_Reader_fault : d_Reader_fault < d) {s_Reader_add : aS} {d_Reader_add : Nat} (h_Reader_add : am_Sp G Y_Reader_add d_Reader_add s_Reader_add) (l_Reader_add : d_Reader_add < d) {s_Nodes_nameQuote : aS} {d_Nodes_nameQuote : Nat} (h_Nodes_nameQuote : am_Sp G Y_Nodes_nameQuote d_Nodes_nameQuote s_Nodes_nameQuote) (l_Nodes_nameQuote : d_Nodes_nameQuote < d) {s_Nodes_setHead : aS} {d_Nodes_setHead : Nat} (h_Nodes_setHead : am_Sp G Y_Nodes_setHead d_Nodes_setHead s_Nodes_setHead) (l_Nodes_setHead : d_Nodes_setHead < d) {s_Nodes_setTail : aS} {d_Nodes_setTail : Nat} (h_Nodes_setTail : am_Sp G Y_Nodes_setTail d_Nodes_setTail s_Nodes_setTail) (l_Nodes_setTail : d_Nodes_setTail < d) {s_Reader_readDatum : aS} {d_Reader_readDatum : Nat} (h_Reader_readDatum : am_Sp G Y_Reader_readDatum d_Reader_readDatum s_Reader_readDatum) (l_Reader_readDatum : d_Reader_readDatum < d) : am_tab G Y_Reader_readQuoted d (c_Reader_readQuoted s_Reader_fault s_Reader_add s_Nodes_nameQuote s_Nodes_setHead s_Nodes_setTail s_Reader_readDatum) := by
  intro K p e s m args below meth c C
  exact ⟨as_iload_n C (pc := 0) (q := 1) (by decide +kernel) rfl rfl,
    as_bipush C (pc := 1) (n := 15) (by decide +kernel) (by decide +kernel) rfl,
    as_cmplt C (pc := 3) (off := 8) (by decide +kernel) (by decide) rfl,
    as_aload_n C (pc := 6) (q := 0) (by decide +kernel) rfl rfl,
    as_callv1 C (pc := 7) h_Reader_fault (T := T_Reader) (N := 5) rfl w_333 w_74 w_332 w_19 w_330 hy_Reader_fault (am_rm_of l_Reader_fault (by decide)) (by decide +kernel) rfl,
    as_iret C (pc := 10) rfl (by decide +kernel),
    as_aload_n C (pc := 11) (q := 0) (by decide +kernel) rfl rfl,
    as_iconst C (pc := 12) (n := 4) (by decide +kernel) (by decide +kernel) rfl,
    as_callv2 C (pc := 13) h_Reader_add (T := T_Reader) (N := 5) rfl w_325 w_74 w_324 w_17 w_322 hy_Reader_add (am_rm_of l_Reader_add (by decide)) (by decide +kernel) rfl,
    as_istore_n C (pc := 16) (q := 2) (by decide +kernel) rfl (by decide) rfl,
    as_aload_n C (pc := 17) (q := 0) (by decide +kernel) rfl rfl,
    as_iconst C (pc := 18) (n := 2) (by decide +kernel) (by decide +kernel) rfl,
    as_callv2 C (pc := 19) h_Reader_add (T := T_Reader) (N := 5) rfl w_325 w_74 w_324 w_17 w_322 hy_Reader_add (am_rm_of l_Reader_add (by decide)) (by decide +kernel) rfl,
    as_istore_n C (pc := 22) (q := 3) (by decide +kernel) rfl (by decide) rfl,
    as_aload_n C (pc := 23) (q := 0) (by decide +kernel) rfl rfl,
    as_iconst C (pc := 24) (n := 4) (by decide +kernel) (by decide +kernel) rfl,
    as_callv2 C (pc := 25) h_Reader_add (T := T_Reader) (N := 5) rfl w_325 w_74 w_324 w_17 w_322 hy_Reader_add (am_rm_of l_Reader_add (by decide)) (by decide +kernel) rfl,
    as_istore C (pc := 28) (k := 4) (by decide +kernel) (by decide) rfl,
    as_iload C (pc := 30) (k := 4) (by decide +kernel) rfl,
    as_iconst C (pc := 32) (n := (-1)) (by decide +kernel) (by decide +kernel) rfl,
    as_cmpne C (pc := 33) (off := 5) (by decide +kernel) (by decide) rfl,
    as_iconst C (pc := 36) (n := (-1)) (by decide +kernel) (by decide +kernel) rfl,
    as_iret C (pc := 37) rfl (by decide +kernel),
    as_aload_n C (pc := 38) (q := 0) (by decide +kernel) rfl rfl,
    as_getf C (pc := 39) (T := T_Reader) (N := 5) rfl in_Reader (by decide) rfl w_177 (by decide +kernel) rfl,
    as_iload_n C (pc := 42) (q := 3) (by decide +kernel) rfl rfl,
    as_callv2N C (pc := 43) h_Nodes_nameQuote (T := T_Nodes) (N := 10) rfl w_361 w_72 w_360 w_26 w_358 hy_Nodes_nameQuote (am_rm_of l_Nodes_nameQuote (by decide)) (by decide +kernel) rfl,
    as_aload_n C (pc := 46) (q := 0) (by decide +kernel) rfl rfl,
    as_getf C (pc := 47) (T := T_Reader) (N := 5) rfl in_Reader (by decide) rfl w_177 (by decide +kernel) rfl,
    as_iload_n C (pc := 50) (q := 2) (by decide +kernel) rfl rfl,
    as_iload_n C (pc := 51) (q := 3) (by decide +kernel) rfl rfl,
    as_callv3N C (pc := 52) h_Nodes_setHead (T := T_Nodes) (N := 10) rfl w_365 w_72 w_364 w_27 w_362 hy_Nodes_setHead (am_rm_of l_Nodes_setHead (by decide)) (by decide +kernel) rfl,
    as_aload_n C (pc := 55) (q := 0) (by decide +kernel) rfl rfl,
    as_getf C (pc := 56) (T := T_Reader) (N := 5) rfl in_Reader (by decide) rfl w_177 (by decide +kernel) rfl,
    as_iload_n C (pc := 59) (q := 2) (by decide +kernel) rfl rfl,
    as_iload C (pc := 60) (k := 4) (by decide +kernel) rfl,
    as_callv3N C (pc := 62) h_Nodes_setTail (T := T_Nodes) (N := 10) rfl w_369 w_72 w_368 w_28 w_366 hy_Nodes_setTail (am_rm_of l_Nodes_setTail (by decide)) (by decide +kernel) rfl,
    as_aload_n C (pc := 65) (q := 0) (by decide +kernel) rfl rfl,
    as_dup C (pc := 66) (by decide +kernel) rfl,
    as_getf C (pc := 67) (T := T_Reader) (N := 5) rfl in_Reader (by decide) rfl w_179 (by decide +kernel) rfl,
    as_iconst C (pc := 70) (n := 1) (by decide +kernel) (by decide +kernel) rfl,
    as_iadd C (pc := 71) (by decide +kernel) rfl,
    as_putf C (pc := 72) t_Reader (T := T_Reader) (N := 5) rfl in_Reader tok_Reader nm_Reader (by decide) rfl rfl (by decide +kernel) w_179 (by decide +kernel) rfl,
    as_aload_n C (pc := 75) (q := 0) (by decide +kernel) rfl rfl,
    as_iload_n C (pc := 76) (q := 1) (by decide +kernel) rfl rfl,
    as_iconst C (pc := 77) (n := 1) (by decide +kernel) (by decide +kernel) rfl,
    as_iadd C (pc := 78) (by decide +kernel) rfl,
    as_callv2 C (pc := 79) h_Reader_readDatum (T := T_Reader) (N := 5) rfl w_308 w_74 w_307 w_13 w_305 hy_Reader_readDatum (am_rm_of l_Reader_readDatum (by decide)) (by decide +kernel) rfl,
    as_istore C (pc := 82) (k := 5) (by decide +kernel) (by decide) rfl,
    as_iload C (pc := 84) (k := 5) (by decide +kernel) rfl,
    as_iconst C (pc := 86) (n := (-1)) (by decide +kernel) (by decide +kernel) rfl,
    as_cmpne C (pc := 87) (off := 5) (by decide +kernel) (by decide) rfl,
    as_iconst C (pc := 90) (n := (-1)) (by decide +kernel) (by decide +kernel) rfl,
    as_iret C (pc := 91) rfl (by decide +kernel),
    as_aload_n C (pc := 92) (q := 0) (by decide +kernel) rfl rfl,
    as_getf C (pc := 93) (T := T_Reader) (N := 5) rfl in_Reader (by decide) rfl w_177 (by decide +kernel) rfl,
    as_iload C (pc := 96) (k := 4) (by decide +kernel) rfl,
    as_iload C (pc := 98) (k := 5) (by decide +kernel) rfl,
    as_callv3N C (pc := 100) h_Nodes_setHead (T := T_Nodes) (N := 10) rfl w_365 w_72 w_364 w_27 w_362 hy_Nodes_setHead (am_rm_of l_Nodes_setHead (by decide)) (by decide +kernel) rfl,
    as_aload_n C (pc := 103) (q := 0) (by decide +kernel) rfl rfl,
    as_iconst C (pc := 104) (n := 5) (by decide +kernel) (by decide +kernel) rfl,
    as_callv2 C (pc := 105) h_Reader_add (T := T_Reader) (N := 5) rfl w_325 w_74 w_324 w_17 w_322 hy_Reader_add (am_rm_of l_Reader_add (by decide)) (by decide +kernel) rfl,
    as_istore C (pc := 108) (k := 6) (by decide +kernel) (by decide) rfl,
    as_aload_n C (pc := 110) (q := 0) (by decide +kernel) rfl rfl,
    as_getf C (pc := 111) (T := T_Reader) (N := 5) rfl in_Reader (by decide) rfl w_177 (by decide +kernel) rfl,
    as_iload C (pc := 114) (k := 4) (by decide +kernel) rfl,
    as_iload C (pc := 116) (k := 6) (by decide +kernel) rfl,
    as_callv3N C (pc := 118) h_Nodes_setTail (T := T_Nodes) (N := 10) rfl w_369 w_72 w_368 w_28 w_366 hy_Nodes_setTail (am_rm_of l_Nodes_setTail (by decide)) (by decide +kernel) rfl,
    as_iload C (pc := 121) (k := 6) (by decide +kernel) rfl,
    as_iconst C (pc := 123) (n := (-1)) (by decide +kernel) (by decide +kernel) rfl,
    as_cmpne C (pc := 124) (off := 7) (by decide +kernel) (by decide) rfl,
    as_iconst C (pc := 127) (n := (-1)) (by decide +kernel) (by decide +kernel) rfl,
    as_goto C (pc := 128) (off := 4) (by decide +kernel) (by decide),
    as_iload_n C (pc := 131) (q := 2) (by decide +kernel) rfl rfl,
    as_iret C (pc := 132) rfl (by decide +kernel), trivial⟩
abbrev k_Reader_readQuoted : List Nat := [17, 23, 30, 38, 92]
set_option maxRecDepth 20000 in
theorem q_Reader_readQuoted_17 {s_Reader_fault : aS} {s_Reader_add : aS} {s_Nodes_nameQuote : aS} {s_Nodes_setHead : aS} {s_Nodes_setTail : aS} {s_Reader_readDatum : aS} : am_at (c_Reader_readQuoted s_Reader_fault s_Reader_add s_Nodes_nameQuote s_Nodes_setHead s_Nodes_setTail s_Reader_readDatum) 17 = ai_aload 0 18 := by rfl
set_option maxRecDepth 20000 in
theorem q_Reader_readQuoted_23 {s_Reader_fault : aS} {s_Reader_add : aS} {s_Nodes_nameQuote : aS} {s_Nodes_setHead : aS} {s_Nodes_setTail : aS} {s_Reader_readDatum : aS} : am_at (c_Reader_readQuoted s_Reader_fault s_Reader_add s_Nodes_nameQuote s_Nodes_setHead s_Nodes_setTail s_Reader_readDatum) 23 = ai_aload 0 24 := by rfl
set_option maxRecDepth 20000 in
theorem q_Reader_readQuoted_30 {s_Reader_fault : aS} {s_Reader_add : aS} {s_Nodes_nameQuote : aS} {s_Nodes_setHead : aS} {s_Nodes_setTail : aS} {s_Reader_readDatum : aS} : am_at (c_Reader_readQuoted s_Reader_fault s_Reader_add s_Nodes_nameQuote s_Nodes_setHead s_Nodes_setTail s_Reader_readDatum) 30 = ai_iload 4 32 := by rfl
set_option maxRecDepth 20000 in
theorem q_Reader_readQuoted_38 {s_Reader_fault : aS} {s_Reader_add : aS} {s_Nodes_nameQuote : aS} {s_Nodes_setHead : aS} {s_Nodes_setTail : aS} {s_Reader_readDatum : aS} : am_at (c_Reader_readQuoted s_Reader_fault s_Reader_add s_Nodes_nameQuote s_Nodes_setHead s_Nodes_setTail s_Reader_readDatum) 38 = ai_aload 0 39 := by rfl
set_option maxRecDepth 20000 in
theorem q_Reader_readQuoted_92 {s_Reader_fault : aS} {s_Reader_add : aS} {s_Nodes_nameQuote : aS} {s_Nodes_setHead : aS} {s_Nodes_setTail : aS} {s_Reader_readDatum : aS} : am_at (c_Reader_readQuoted s_Reader_fault s_Reader_add s_Nodes_nameQuote s_Nodes_setHead s_Nodes_setTail s_Reader_readDatum) 92 = ai_aload 0 93 := by rfl
set_option maxRecDepth 20000 in
theorem r_Reader_readQuoted_0 {s_Reader_fault : aS} {s_Reader_add : aS} {s_Nodes_nameQuote : aS} {s_Nodes_setHead : aS} {s_Nodes_setTail : aS} {s_Reader_readDatum : aS} {J : aJ} {K : aR} {n : Nat} {L : aL} {S : List Value} {M : aM} : am_run (c_Reader_readQuoted s_Reader_fault s_Reader_add s_Nodes_nameQuote s_Nodes_setHead s_Nodes_setTail s_Reader_readDatum) k_Reader_readQuoted J K (n + 1) 0 L S M = ai_iload 1 1 (am_run (c_Reader_readQuoted s_Reader_fault s_Reader_add s_Nodes_nameQuote s_Nodes_setHead s_Nodes_setTail s_Reader_readDatum) k_Reader_readQuoted J K n) K 0 L S M := by rfl
set_option maxRecDepth 20000 in
theorem r_Reader_readQuoted_1 {s_Reader_fault : aS} {s_Reader_add : aS} {s_Nodes_nameQuote : aS} {s_Nodes_setHead : aS} {s_Nodes_setTail : aS} {s_Reader_readDatum : aS} {J : aJ} {K : aR} {n : Nat} {L : aL} {S : List Value} {M : aM} : am_run (c_Reader_readQuoted s_Reader_fault s_Reader_add s_Nodes_nameQuote s_Nodes_setHead s_Nodes_setTail s_Reader_readDatum) k_Reader_readQuoted J K (n + 1) 1 L S M = ai_const 15 3 (am_run (c_Reader_readQuoted s_Reader_fault s_Reader_add s_Nodes_nameQuote s_Nodes_setHead s_Nodes_setTail s_Reader_readDatum) k_Reader_readQuoted J K n) K 1 L S M := by rfl
set_option maxRecDepth 20000 in
theorem r_Reader_readQuoted_3 {s_Reader_fault : aS} {s_Reader_add : aS} {s_Nodes_nameQuote : aS} {s_Nodes_setHead : aS} {s_Nodes_setTail : aS} {s_Reader_readDatum : aS} {J : aJ} {K : aR} {n : Nat} {L : aL} {S : List Value} {M : aM} : am_run (c_Reader_readQuoted s_Reader_fault s_Reader_add s_Nodes_nameQuote s_Nodes_setHead s_Nodes_setTail s_Reader_readDatum) k_Reader_readQuoted J K (n + 1) 3 L S M = ai_cmplt 11 6 (am_run (c_Reader_readQuoted s_Reader_fault s_Reader_add s_Nodes_nameQuote s_Nodes_setHead s_Nodes_setTail s_Reader_readDatum) k_Reader_readQuoted J K n) K 3 L S M := by rfl
set_option maxRecDepth 20000 in
theorem r_Reader_readQuoted_6 {s_Reader_fault : aS} {s_Reader_add : aS} {s_Nodes_nameQuote : aS} {s_Nodes_setHead : aS} {s_Nodes_setTail : aS} {s_Reader_readDatum : aS} {J : aJ} {K : aR} {n : Nat} {L : aL} {S : List Value} {M : aM} : am_run (c_Reader_readQuoted s_Reader_fault s_Reader_add s_Nodes_nameQuote s_Nodes_setHead s_Nodes_setTail s_Reader_readDatum) k_Reader_readQuoted J K (n + 1) 6 L S M = ai_aload 0 7 (am_run (c_Reader_readQuoted s_Reader_fault s_Reader_add s_Nodes_nameQuote s_Nodes_setHead s_Nodes_setTail s_Reader_readDatum) k_Reader_readQuoted J K n) K 6 L S M := by rfl
set_option maxRecDepth 20000 in
theorem r_Reader_readQuoted_7 {s_Reader_fault : aS} {s_Reader_add : aS} {s_Nodes_nameQuote : aS} {s_Nodes_setHead : aS} {s_Nodes_setTail : aS} {s_Reader_readDatum : aS} {J : aJ} {K : aR} {n : Nat} {L : aL} {S : List Value} {M : aM} : am_run (c_Reader_readQuoted s_Reader_fault s_Reader_add s_Nodes_nameQuote s_Nodes_setHead s_Nodes_setTail s_Reader_readDatum) k_Reader_readQuoted J K (n + 1) 7 L S M = ai_callv1 1 s_Reader_fault 10 (am_run (c_Reader_readQuoted s_Reader_fault s_Reader_add s_Nodes_nameQuote s_Nodes_setHead s_Nodes_setTail s_Reader_readDatum) k_Reader_readQuoted J K n) K 7 L S M := by rfl
set_option maxRecDepth 20000 in
theorem r_Reader_readQuoted_10 {s_Reader_fault : aS} {s_Reader_add : aS} {s_Nodes_nameQuote : aS} {s_Nodes_setHead : aS} {s_Nodes_setTail : aS} {s_Reader_readDatum : aS} {J : aJ} {K : aR} {n : Nat} {L : aL} {S : List Value} {M : aM} : am_run (c_Reader_readQuoted s_Reader_fault s_Reader_add s_Nodes_nameQuote s_Nodes_setHead s_Nodes_setTail s_Reader_readDatum) k_Reader_readQuoted J K (n + 1) 10 L S M = ai_iret (am_run (c_Reader_readQuoted s_Reader_fault s_Reader_add s_Nodes_nameQuote s_Nodes_setHead s_Nodes_setTail s_Reader_readDatum) k_Reader_readQuoted J K n) K 10 L S M := by rfl
set_option maxRecDepth 20000 in
theorem r_Reader_readQuoted_11 {s_Reader_fault : aS} {s_Reader_add : aS} {s_Nodes_nameQuote : aS} {s_Nodes_setHead : aS} {s_Nodes_setTail : aS} {s_Reader_readDatum : aS} {J : aJ} {K : aR} {n : Nat} {L : aL} {S : List Value} {M : aM} : am_run (c_Reader_readQuoted s_Reader_fault s_Reader_add s_Nodes_nameQuote s_Nodes_setHead s_Nodes_setTail s_Reader_readDatum) k_Reader_readQuoted J K (n + 1) 11 L S M = ai_aload 0 12 (am_run (c_Reader_readQuoted s_Reader_fault s_Reader_add s_Nodes_nameQuote s_Nodes_setHead s_Nodes_setTail s_Reader_readDatum) k_Reader_readQuoted J K n) K 11 L S M := by rfl
set_option maxRecDepth 20000 in
theorem r_Reader_readQuoted_12 {s_Reader_fault : aS} {s_Reader_add : aS} {s_Nodes_nameQuote : aS} {s_Nodes_setHead : aS} {s_Nodes_setTail : aS} {s_Reader_readDatum : aS} {J : aJ} {K : aR} {n : Nat} {L : aL} {S : List Value} {M : aM} : am_run (c_Reader_readQuoted s_Reader_fault s_Reader_add s_Nodes_nameQuote s_Nodes_setHead s_Nodes_setTail s_Reader_readDatum) k_Reader_readQuoted J K (n + 1) 12 L S M = ai_const 4 13 (am_run (c_Reader_readQuoted s_Reader_fault s_Reader_add s_Nodes_nameQuote s_Nodes_setHead s_Nodes_setTail s_Reader_readDatum) k_Reader_readQuoted J K n) K 12 L S M := by rfl
set_option maxRecDepth 20000 in
theorem r_Reader_readQuoted_13 {s_Reader_fault : aS} {s_Reader_add : aS} {s_Nodes_nameQuote : aS} {s_Nodes_setHead : aS} {s_Nodes_setTail : aS} {s_Reader_readDatum : aS} {J : aJ} {K : aR} {n : Nat} {L : aL} {S : List Value} {M : aM} : am_run (c_Reader_readQuoted s_Reader_fault s_Reader_add s_Nodes_nameQuote s_Nodes_setHead s_Nodes_setTail s_Reader_readDatum) k_Reader_readQuoted J K (n + 1) 13 L S M = ai_callv2 1 s_Reader_add 16 (am_run (c_Reader_readQuoted s_Reader_fault s_Reader_add s_Nodes_nameQuote s_Nodes_setHead s_Nodes_setTail s_Reader_readDatum) k_Reader_readQuoted J K n) K 13 L S M := by rfl
set_option maxRecDepth 20000 in
theorem r_Reader_readQuoted_16 {s_Reader_fault : aS} {s_Reader_add : aS} {s_Nodes_nameQuote : aS} {s_Nodes_setHead : aS} {s_Nodes_setTail : aS} {s_Reader_readDatum : aS} {J : aJ} {K : aR} {n : Nat} {L : aL} {S : List Value} {M : aM} : am_run (c_Reader_readQuoted s_Reader_fault s_Reader_add s_Nodes_nameQuote s_Nodes_setHead s_Nodes_setTail s_Reader_readDatum) k_Reader_readQuoted J K (n + 1) 16 L S M = ai_istore 2 17 (am_run (c_Reader_readQuoted s_Reader_fault s_Reader_add s_Nodes_nameQuote s_Nodes_setHead s_Nodes_setTail s_Reader_readDatum) k_Reader_readQuoted J K n) K 16 L S M := by rfl
set_option maxRecDepth 20000 in
theorem r_Reader_readQuoted_17 {s_Reader_fault : aS} {s_Reader_add : aS} {s_Nodes_nameQuote : aS} {s_Nodes_setHead : aS} {s_Nodes_setTail : aS} {s_Reader_readDatum : aS} {J : aJ} {K : aR} {n : Nat} {L : aL} {S : List Value} {M : aM} : am_run (c_Reader_readQuoted s_Reader_fault s_Reader_add s_Nodes_nameQuote s_Nodes_setHead s_Nodes_setTail s_Reader_readDatum) k_Reader_readQuoted J K (n + 1) 17 L S M = J 17 L S M := by rfl
set_option maxRecDepth 20000 in
theorem r_Reader_readQuoted_18 {s_Reader_fault : aS} {s_Reader_add : aS} {s_Nodes_nameQuote : aS} {s_Nodes_setHead : aS} {s_Nodes_setTail : aS} {s_Reader_readDatum : aS} {J : aJ} {K : aR} {n : Nat} {L : aL} {S : List Value} {M : aM} : am_run (c_Reader_readQuoted s_Reader_fault s_Reader_add s_Nodes_nameQuote s_Nodes_setHead s_Nodes_setTail s_Reader_readDatum) k_Reader_readQuoted J K (n + 1) 18 L S M = ai_const 2 19 (am_run (c_Reader_readQuoted s_Reader_fault s_Reader_add s_Nodes_nameQuote s_Nodes_setHead s_Nodes_setTail s_Reader_readDatum) k_Reader_readQuoted J K n) K 18 L S M := by rfl
set_option maxRecDepth 20000 in
theorem r_Reader_readQuoted_19 {s_Reader_fault : aS} {s_Reader_add : aS} {s_Nodes_nameQuote : aS} {s_Nodes_setHead : aS} {s_Nodes_setTail : aS} {s_Reader_readDatum : aS} {J : aJ} {K : aR} {n : Nat} {L : aL} {S : List Value} {M : aM} : am_run (c_Reader_readQuoted s_Reader_fault s_Reader_add s_Nodes_nameQuote s_Nodes_setHead s_Nodes_setTail s_Reader_readDatum) k_Reader_readQuoted J K (n + 1) 19 L S M = ai_callv2 1 s_Reader_add 22 (am_run (c_Reader_readQuoted s_Reader_fault s_Reader_add s_Nodes_nameQuote s_Nodes_setHead s_Nodes_setTail s_Reader_readDatum) k_Reader_readQuoted J K n) K 19 L S M := by rfl
set_option maxRecDepth 20000 in
theorem r_Reader_readQuoted_22 {s_Reader_fault : aS} {s_Reader_add : aS} {s_Nodes_nameQuote : aS} {s_Nodes_setHead : aS} {s_Nodes_setTail : aS} {s_Reader_readDatum : aS} {J : aJ} {K : aR} {n : Nat} {L : aL} {S : List Value} {M : aM} : am_run (c_Reader_readQuoted s_Reader_fault s_Reader_add s_Nodes_nameQuote s_Nodes_setHead s_Nodes_setTail s_Reader_readDatum) k_Reader_readQuoted J K (n + 1) 22 L S M = ai_istore 3 23 (am_run (c_Reader_readQuoted s_Reader_fault s_Reader_add s_Nodes_nameQuote s_Nodes_setHead s_Nodes_setTail s_Reader_readDatum) k_Reader_readQuoted J K n) K 22 L S M := by rfl
set_option maxRecDepth 20000 in
theorem r_Reader_readQuoted_23 {s_Reader_fault : aS} {s_Reader_add : aS} {s_Nodes_nameQuote : aS} {s_Nodes_setHead : aS} {s_Nodes_setTail : aS} {s_Reader_readDatum : aS} {J : aJ} {K : aR} {n : Nat} {L : aL} {S : List Value} {M : aM} : am_run (c_Reader_readQuoted s_Reader_fault s_Reader_add s_Nodes_nameQuote s_Nodes_setHead s_Nodes_setTail s_Reader_readDatum) k_Reader_readQuoted J K (n + 1) 23 L S M = J 23 L S M := by rfl
set_option maxRecDepth 20000 in
theorem r_Reader_readQuoted_24 {s_Reader_fault : aS} {s_Reader_add : aS} {s_Nodes_nameQuote : aS} {s_Nodes_setHead : aS} {s_Nodes_setTail : aS} {s_Reader_readDatum : aS} {J : aJ} {K : aR} {n : Nat} {L : aL} {S : List Value} {M : aM} : am_run (c_Reader_readQuoted s_Reader_fault s_Reader_add s_Nodes_nameQuote s_Nodes_setHead s_Nodes_setTail s_Reader_readDatum) k_Reader_readQuoted J K (n + 1) 24 L S M = ai_const 4 25 (am_run (c_Reader_readQuoted s_Reader_fault s_Reader_add s_Nodes_nameQuote s_Nodes_setHead s_Nodes_setTail s_Reader_readDatum) k_Reader_readQuoted J K n) K 24 L S M := by rfl
set_option maxRecDepth 20000 in
theorem r_Reader_readQuoted_25 {s_Reader_fault : aS} {s_Reader_add : aS} {s_Nodes_nameQuote : aS} {s_Nodes_setHead : aS} {s_Nodes_setTail : aS} {s_Reader_readDatum : aS} {J : aJ} {K : aR} {n : Nat} {L : aL} {S : List Value} {M : aM} : am_run (c_Reader_readQuoted s_Reader_fault s_Reader_add s_Nodes_nameQuote s_Nodes_setHead s_Nodes_setTail s_Reader_readDatum) k_Reader_readQuoted J K (n + 1) 25 L S M = ai_callv2 1 s_Reader_add 28 (am_run (c_Reader_readQuoted s_Reader_fault s_Reader_add s_Nodes_nameQuote s_Nodes_setHead s_Nodes_setTail s_Reader_readDatum) k_Reader_readQuoted J K n) K 25 L S M := by rfl
set_option maxRecDepth 20000 in
theorem r_Reader_readQuoted_28 {s_Reader_fault : aS} {s_Reader_add : aS} {s_Nodes_nameQuote : aS} {s_Nodes_setHead : aS} {s_Nodes_setTail : aS} {s_Reader_readDatum : aS} {J : aJ} {K : aR} {n : Nat} {L : aL} {S : List Value} {M : aM} : am_run (c_Reader_readQuoted s_Reader_fault s_Reader_add s_Nodes_nameQuote s_Nodes_setHead s_Nodes_setTail s_Reader_readDatum) k_Reader_readQuoted J K (n + 1) 28 L S M = ai_istore 4 30 (am_run (c_Reader_readQuoted s_Reader_fault s_Reader_add s_Nodes_nameQuote s_Nodes_setHead s_Nodes_setTail s_Reader_readDatum) k_Reader_readQuoted J K n) K 28 L S M := by rfl
set_option maxRecDepth 20000 in
theorem r_Reader_readQuoted_30 {s_Reader_fault : aS} {s_Reader_add : aS} {s_Nodes_nameQuote : aS} {s_Nodes_setHead : aS} {s_Nodes_setTail : aS} {s_Reader_readDatum : aS} {J : aJ} {K : aR} {n : Nat} {L : aL} {S : List Value} {M : aM} : am_run (c_Reader_readQuoted s_Reader_fault s_Reader_add s_Nodes_nameQuote s_Nodes_setHead s_Nodes_setTail s_Reader_readDatum) k_Reader_readQuoted J K (n + 1) 30 L S M = J 30 L S M := by rfl
set_option maxRecDepth 20000 in
theorem r_Reader_readQuoted_32 {s_Reader_fault : aS} {s_Reader_add : aS} {s_Nodes_nameQuote : aS} {s_Nodes_setHead : aS} {s_Nodes_setTail : aS} {s_Reader_readDatum : aS} {J : aJ} {K : aR} {n : Nat} {L : aL} {S : List Value} {M : aM} : am_run (c_Reader_readQuoted s_Reader_fault s_Reader_add s_Nodes_nameQuote s_Nodes_setHead s_Nodes_setTail s_Reader_readDatum) k_Reader_readQuoted J K (n + 1) 32 L S M = ai_const (-1) 33 (am_run (c_Reader_readQuoted s_Reader_fault s_Reader_add s_Nodes_nameQuote s_Nodes_setHead s_Nodes_setTail s_Reader_readDatum) k_Reader_readQuoted J K n) K 32 L S M := by rfl
set_option maxRecDepth 20000 in
theorem r_Reader_readQuoted_33 {s_Reader_fault : aS} {s_Reader_add : aS} {s_Nodes_nameQuote : aS} {s_Nodes_setHead : aS} {s_Nodes_setTail : aS} {s_Reader_readDatum : aS} {J : aJ} {K : aR} {n : Nat} {L : aL} {S : List Value} {M : aM} : am_run (c_Reader_readQuoted s_Reader_fault s_Reader_add s_Nodes_nameQuote s_Nodes_setHead s_Nodes_setTail s_Reader_readDatum) k_Reader_readQuoted J K (n + 1) 33 L S M = ai_cmpne 38 36 (am_run (c_Reader_readQuoted s_Reader_fault s_Reader_add s_Nodes_nameQuote s_Nodes_setHead s_Nodes_setTail s_Reader_readDatum) k_Reader_readQuoted J K n) K 33 L S M := by rfl
set_option maxRecDepth 20000 in
theorem r_Reader_readQuoted_36 {s_Reader_fault : aS} {s_Reader_add : aS} {s_Nodes_nameQuote : aS} {s_Nodes_setHead : aS} {s_Nodes_setTail : aS} {s_Reader_readDatum : aS} {J : aJ} {K : aR} {n : Nat} {L : aL} {S : List Value} {M : aM} : am_run (c_Reader_readQuoted s_Reader_fault s_Reader_add s_Nodes_nameQuote s_Nodes_setHead s_Nodes_setTail s_Reader_readDatum) k_Reader_readQuoted J K (n + 1) 36 L S M = ai_const (-1) 37 (am_run (c_Reader_readQuoted s_Reader_fault s_Reader_add s_Nodes_nameQuote s_Nodes_setHead s_Nodes_setTail s_Reader_readDatum) k_Reader_readQuoted J K n) K 36 L S M := by rfl
set_option maxRecDepth 20000 in
theorem r_Reader_readQuoted_37 {s_Reader_fault : aS} {s_Reader_add : aS} {s_Nodes_nameQuote : aS} {s_Nodes_setHead : aS} {s_Nodes_setTail : aS} {s_Reader_readDatum : aS} {J : aJ} {K : aR} {n : Nat} {L : aL} {S : List Value} {M : aM} : am_run (c_Reader_readQuoted s_Reader_fault s_Reader_add s_Nodes_nameQuote s_Nodes_setHead s_Nodes_setTail s_Reader_readDatum) k_Reader_readQuoted J K (n + 1) 37 L S M = ai_iret (am_run (c_Reader_readQuoted s_Reader_fault s_Reader_add s_Nodes_nameQuote s_Nodes_setHead s_Nodes_setTail s_Reader_readDatum) k_Reader_readQuoted J K n) K 37 L S M := by rfl
set_option maxRecDepth 20000 in
theorem r_Reader_readQuoted_38 {s_Reader_fault : aS} {s_Reader_add : aS} {s_Nodes_nameQuote : aS} {s_Nodes_setHead : aS} {s_Nodes_setTail : aS} {s_Reader_readDatum : aS} {J : aJ} {K : aR} {n : Nat} {L : aL} {S : List Value} {M : aM} : am_run (c_Reader_readQuoted s_Reader_fault s_Reader_add s_Nodes_nameQuote s_Nodes_setHead s_Nodes_setTail s_Reader_readDatum) k_Reader_readQuoted J K (n + 1) 38 L S M = J 38 L S M := by rfl
set_option maxRecDepth 20000 in
theorem r_Reader_readQuoted_39 {s_Reader_fault : aS} {s_Reader_add : aS} {s_Nodes_nameQuote : aS} {s_Nodes_setHead : aS} {s_Nodes_setTail : aS} {s_Reader_readDatum : aS} {J : aJ} {K : aR} {n : Nat} {L : aL} {S : List Value} {M : aM} : am_run (c_Reader_readQuoted s_Reader_fault s_Reader_add s_Nodes_nameQuote s_Nodes_setHead s_Nodes_setTail s_Reader_readDatum) k_Reader_readQuoted J K (n + 1) 39 L S M = ai_getf 1 1 42 (am_run (c_Reader_readQuoted s_Reader_fault s_Reader_add s_Nodes_nameQuote s_Nodes_setHead s_Nodes_setTail s_Reader_readDatum) k_Reader_readQuoted J K n) K 39 L S M := by rfl
set_option maxRecDepth 20000 in
theorem r_Reader_readQuoted_42 {s_Reader_fault : aS} {s_Reader_add : aS} {s_Nodes_nameQuote : aS} {s_Nodes_setHead : aS} {s_Nodes_setTail : aS} {s_Reader_readDatum : aS} {J : aJ} {K : aR} {n : Nat} {L : aL} {S : List Value} {M : aM} : am_run (c_Reader_readQuoted s_Reader_fault s_Reader_add s_Nodes_nameQuote s_Nodes_setHead s_Nodes_setTail s_Reader_readDatum) k_Reader_readQuoted J K (n + 1) 42 L S M = ai_iload 3 43 (am_run (c_Reader_readQuoted s_Reader_fault s_Reader_add s_Nodes_nameQuote s_Nodes_setHead s_Nodes_setTail s_Reader_readDatum) k_Reader_readQuoted J K n) K 42 L S M := by rfl
set_option maxRecDepth 20000 in
theorem r_Reader_readQuoted_43 {s_Reader_fault : aS} {s_Reader_add : aS} {s_Nodes_nameQuote : aS} {s_Nodes_setHead : aS} {s_Nodes_setTail : aS} {s_Reader_readDatum : aS} {J : aJ} {K : aR} {n : Nat} {L : aL} {S : List Value} {M : aM} : am_run (c_Reader_readQuoted s_Reader_fault s_Reader_add s_Nodes_nameQuote s_Nodes_setHead s_Nodes_setTail s_Reader_readDatum) k_Reader_readQuoted J K (n + 1) 43 L S M = ai_callv2 0 s_Nodes_nameQuote 46 (am_run (c_Reader_readQuoted s_Reader_fault s_Reader_add s_Nodes_nameQuote s_Nodes_setHead s_Nodes_setTail s_Reader_readDatum) k_Reader_readQuoted J K n) K 43 L S M := by rfl
set_option maxRecDepth 20000 in
theorem r_Reader_readQuoted_46 {s_Reader_fault : aS} {s_Reader_add : aS} {s_Nodes_nameQuote : aS} {s_Nodes_setHead : aS} {s_Nodes_setTail : aS} {s_Reader_readDatum : aS} {J : aJ} {K : aR} {n : Nat} {L : aL} {S : List Value} {M : aM} : am_run (c_Reader_readQuoted s_Reader_fault s_Reader_add s_Nodes_nameQuote s_Nodes_setHead s_Nodes_setTail s_Reader_readDatum) k_Reader_readQuoted J K (n + 1) 46 L S M = ai_aload 0 47 (am_run (c_Reader_readQuoted s_Reader_fault s_Reader_add s_Nodes_nameQuote s_Nodes_setHead s_Nodes_setTail s_Reader_readDatum) k_Reader_readQuoted J K n) K 46 L S M := by rfl
set_option maxRecDepth 20000 in
theorem r_Reader_readQuoted_47 {s_Reader_fault : aS} {s_Reader_add : aS} {s_Nodes_nameQuote : aS} {s_Nodes_setHead : aS} {s_Nodes_setTail : aS} {s_Reader_readDatum : aS} {J : aJ} {K : aR} {n : Nat} {L : aL} {S : List Value} {M : aM} : am_run (c_Reader_readQuoted s_Reader_fault s_Reader_add s_Nodes_nameQuote s_Nodes_setHead s_Nodes_setTail s_Reader_readDatum) k_Reader_readQuoted J K (n + 1) 47 L S M = ai_getf 1 1 50 (am_run (c_Reader_readQuoted s_Reader_fault s_Reader_add s_Nodes_nameQuote s_Nodes_setHead s_Nodes_setTail s_Reader_readDatum) k_Reader_readQuoted J K n) K 47 L S M := by rfl
set_option maxRecDepth 20000 in
theorem r_Reader_readQuoted_50 {s_Reader_fault : aS} {s_Reader_add : aS} {s_Nodes_nameQuote : aS} {s_Nodes_setHead : aS} {s_Nodes_setTail : aS} {s_Reader_readDatum : aS} {J : aJ} {K : aR} {n : Nat} {L : aL} {S : List Value} {M : aM} : am_run (c_Reader_readQuoted s_Reader_fault s_Reader_add s_Nodes_nameQuote s_Nodes_setHead s_Nodes_setTail s_Reader_readDatum) k_Reader_readQuoted J K (n + 1) 50 L S M = ai_iload 2 51 (am_run (c_Reader_readQuoted s_Reader_fault s_Reader_add s_Nodes_nameQuote s_Nodes_setHead s_Nodes_setTail s_Reader_readDatum) k_Reader_readQuoted J K n) K 50 L S M := by rfl
set_option maxRecDepth 20000 in
theorem r_Reader_readQuoted_51 {s_Reader_fault : aS} {s_Reader_add : aS} {s_Nodes_nameQuote : aS} {s_Nodes_setHead : aS} {s_Nodes_setTail : aS} {s_Reader_readDatum : aS} {J : aJ} {K : aR} {n : Nat} {L : aL} {S : List Value} {M : aM} : am_run (c_Reader_readQuoted s_Reader_fault s_Reader_add s_Nodes_nameQuote s_Nodes_setHead s_Nodes_setTail s_Reader_readDatum) k_Reader_readQuoted J K (n + 1) 51 L S M = ai_iload 3 52 (am_run (c_Reader_readQuoted s_Reader_fault s_Reader_add s_Nodes_nameQuote s_Nodes_setHead s_Nodes_setTail s_Reader_readDatum) k_Reader_readQuoted J K n) K 51 L S M := by rfl
set_option maxRecDepth 20000 in
theorem r_Reader_readQuoted_52 {s_Reader_fault : aS} {s_Reader_add : aS} {s_Nodes_nameQuote : aS} {s_Nodes_setHead : aS} {s_Nodes_setTail : aS} {s_Reader_readDatum : aS} {J : aJ} {K : aR} {n : Nat} {L : aL} {S : List Value} {M : aM} : am_run (c_Reader_readQuoted s_Reader_fault s_Reader_add s_Nodes_nameQuote s_Nodes_setHead s_Nodes_setTail s_Reader_readDatum) k_Reader_readQuoted J K (n + 1) 52 L S M = ai_callv3 0 s_Nodes_setHead 55 (am_run (c_Reader_readQuoted s_Reader_fault s_Reader_add s_Nodes_nameQuote s_Nodes_setHead s_Nodes_setTail s_Reader_readDatum) k_Reader_readQuoted J K n) K 52 L S M := by rfl
set_option maxRecDepth 20000 in
theorem r_Reader_readQuoted_55 {s_Reader_fault : aS} {s_Reader_add : aS} {s_Nodes_nameQuote : aS} {s_Nodes_setHead : aS} {s_Nodes_setTail : aS} {s_Reader_readDatum : aS} {J : aJ} {K : aR} {n : Nat} {L : aL} {S : List Value} {M : aM} : am_run (c_Reader_readQuoted s_Reader_fault s_Reader_add s_Nodes_nameQuote s_Nodes_setHead s_Nodes_setTail s_Reader_readDatum) k_Reader_readQuoted J K (n + 1) 55 L S M = ai_aload 0 56 (am_run (c_Reader_readQuoted s_Reader_fault s_Reader_add s_Nodes_nameQuote s_Nodes_setHead s_Nodes_setTail s_Reader_readDatum) k_Reader_readQuoted J K n) K 55 L S M := by rfl
set_option maxRecDepth 20000 in
theorem r_Reader_readQuoted_56 {s_Reader_fault : aS} {s_Reader_add : aS} {s_Nodes_nameQuote : aS} {s_Nodes_setHead : aS} {s_Nodes_setTail : aS} {s_Reader_readDatum : aS} {J : aJ} {K : aR} {n : Nat} {L : aL} {S : List Value} {M : aM} : am_run (c_Reader_readQuoted s_Reader_fault s_Reader_add s_Nodes_nameQuote s_Nodes_setHead s_Nodes_setTail s_Reader_readDatum) k_Reader_readQuoted J K (n + 1) 56 L S M = ai_getf 1 1 59 (am_run (c_Reader_readQuoted s_Reader_fault s_Reader_add s_Nodes_nameQuote s_Nodes_setHead s_Nodes_setTail s_Reader_readDatum) k_Reader_readQuoted J K n) K 56 L S M := by rfl
set_option maxRecDepth 20000 in
theorem r_Reader_readQuoted_59 {s_Reader_fault : aS} {s_Reader_add : aS} {s_Nodes_nameQuote : aS} {s_Nodes_setHead : aS} {s_Nodes_setTail : aS} {s_Reader_readDatum : aS} {J : aJ} {K : aR} {n : Nat} {L : aL} {S : List Value} {M : aM} : am_run (c_Reader_readQuoted s_Reader_fault s_Reader_add s_Nodes_nameQuote s_Nodes_setHead s_Nodes_setTail s_Reader_readDatum) k_Reader_readQuoted J K (n + 1) 59 L S M = ai_iload 2 60 (am_run (c_Reader_readQuoted s_Reader_fault s_Reader_add s_Nodes_nameQuote s_Nodes_setHead s_Nodes_setTail s_Reader_readDatum) k_Reader_readQuoted J K n) K 59 L S M := by rfl
set_option maxRecDepth 20000 in
theorem r_Reader_readQuoted_60 {s_Reader_fault : aS} {s_Reader_add : aS} {s_Nodes_nameQuote : aS} {s_Nodes_setHead : aS} {s_Nodes_setTail : aS} {s_Reader_readDatum : aS} {J : aJ} {K : aR} {n : Nat} {L : aL} {S : List Value} {M : aM} : am_run (c_Reader_readQuoted s_Reader_fault s_Reader_add s_Nodes_nameQuote s_Nodes_setHead s_Nodes_setTail s_Reader_readDatum) k_Reader_readQuoted J K (n + 1) 60 L S M = ai_iload 4 62 (am_run (c_Reader_readQuoted s_Reader_fault s_Reader_add s_Nodes_nameQuote s_Nodes_setHead s_Nodes_setTail s_Reader_readDatum) k_Reader_readQuoted J K n) K 60 L S M := by rfl
set_option maxRecDepth 20000 in
theorem r_Reader_readQuoted_62 {s_Reader_fault : aS} {s_Reader_add : aS} {s_Nodes_nameQuote : aS} {s_Nodes_setHead : aS} {s_Nodes_setTail : aS} {s_Reader_readDatum : aS} {J : aJ} {K : aR} {n : Nat} {L : aL} {S : List Value} {M : aM} : am_run (c_Reader_readQuoted s_Reader_fault s_Reader_add s_Nodes_nameQuote s_Nodes_setHead s_Nodes_setTail s_Reader_readDatum) k_Reader_readQuoted J K (n + 1) 62 L S M = ai_callv3 0 s_Nodes_setTail 65 (am_run (c_Reader_readQuoted s_Reader_fault s_Reader_add s_Nodes_nameQuote s_Nodes_setHead s_Nodes_setTail s_Reader_readDatum) k_Reader_readQuoted J K n) K 62 L S M := by rfl
set_option maxRecDepth 20000 in
theorem r_Reader_readQuoted_65 {s_Reader_fault : aS} {s_Reader_add : aS} {s_Nodes_nameQuote : aS} {s_Nodes_setHead : aS} {s_Nodes_setTail : aS} {s_Reader_readDatum : aS} {J : aJ} {K : aR} {n : Nat} {L : aL} {S : List Value} {M : aM} : am_run (c_Reader_readQuoted s_Reader_fault s_Reader_add s_Nodes_nameQuote s_Nodes_setHead s_Nodes_setTail s_Reader_readDatum) k_Reader_readQuoted J K (n + 1) 65 L S M = ai_aload 0 66 (am_run (c_Reader_readQuoted s_Reader_fault s_Reader_add s_Nodes_nameQuote s_Nodes_setHead s_Nodes_setTail s_Reader_readDatum) k_Reader_readQuoted J K n) K 65 L S M := by rfl
set_option maxRecDepth 20000 in
theorem r_Reader_readQuoted_66 {s_Reader_fault : aS} {s_Reader_add : aS} {s_Nodes_nameQuote : aS} {s_Nodes_setHead : aS} {s_Nodes_setTail : aS} {s_Reader_readDatum : aS} {J : aJ} {K : aR} {n : Nat} {L : aL} {S : List Value} {M : aM} : am_run (c_Reader_readQuoted s_Reader_fault s_Reader_add s_Nodes_nameQuote s_Nodes_setHead s_Nodes_setTail s_Reader_readDatum) k_Reader_readQuoted J K (n + 1) 66 L S M = ai_dup 67 (am_run (c_Reader_readQuoted s_Reader_fault s_Reader_add s_Nodes_nameQuote s_Nodes_setHead s_Nodes_setTail s_Reader_readDatum) k_Reader_readQuoted J K n) K 66 L S M := by rfl
set_option maxRecDepth 20000 in
theorem r_Reader_readQuoted_67 {s_Reader_fault : aS} {s_Reader_add : aS} {s_Nodes_nameQuote : aS} {s_Nodes_setHead : aS} {s_Nodes_setTail : aS} {s_Reader_readDatum : aS} {J : aJ} {K : aR} {n : Nat} {L : aL} {S : List Value} {M : aM} : am_run (c_Reader_readQuoted s_Reader_fault s_Reader_add s_Nodes_nameQuote s_Nodes_setHead s_Nodes_setTail s_Reader_readDatum) k_Reader_readQuoted J K (n + 1) 67 L S M = ai_getf 1 3 70 (am_run (c_Reader_readQuoted s_Reader_fault s_Reader_add s_Nodes_nameQuote s_Nodes_setHead s_Nodes_setTail s_Reader_readDatum) k_Reader_readQuoted J K n) K 67 L S M := by rfl
set_option maxRecDepth 20000 in
theorem r_Reader_readQuoted_70 {s_Reader_fault : aS} {s_Reader_add : aS} {s_Nodes_nameQuote : aS} {s_Nodes_setHead : aS} {s_Nodes_setTail : aS} {s_Reader_readDatum : aS} {J : aJ} {K : aR} {n : Nat} {L : aL} {S : List Value} {M : aM} : am_run (c_Reader_readQuoted s_Reader_fault s_Reader_add s_Nodes_nameQuote s_Nodes_setHead s_Nodes_setTail s_Reader_readDatum) k_Reader_readQuoted J K (n + 1) 70 L S M = ai_const 1 71 (am_run (c_Reader_readQuoted s_Reader_fault s_Reader_add s_Nodes_nameQuote s_Nodes_setHead s_Nodes_setTail s_Reader_readDatum) k_Reader_readQuoted J K n) K 70 L S M := by rfl
set_option maxRecDepth 20000 in
theorem r_Reader_readQuoted_71 {s_Reader_fault : aS} {s_Reader_add : aS} {s_Nodes_nameQuote : aS} {s_Nodes_setHead : aS} {s_Nodes_setTail : aS} {s_Reader_readDatum : aS} {J : aJ} {K : aR} {n : Nat} {L : aL} {S : List Value} {M : aM} : am_run (c_Reader_readQuoted s_Reader_fault s_Reader_add s_Nodes_nameQuote s_Nodes_setHead s_Nodes_setTail s_Reader_readDatum) k_Reader_readQuoted J K (n + 1) 71 L S M = ai_iadd 72 (am_run (c_Reader_readQuoted s_Reader_fault s_Reader_add s_Nodes_nameQuote s_Nodes_setHead s_Nodes_setTail s_Reader_readDatum) k_Reader_readQuoted J K n) K 71 L S M := by rfl
set_option maxRecDepth 20000 in
theorem r_Reader_readQuoted_72 {s_Reader_fault : aS} {s_Reader_add : aS} {s_Nodes_nameQuote : aS} {s_Nodes_setHead : aS} {s_Nodes_setTail : aS} {s_Reader_readDatum : aS} {J : aJ} {K : aR} {n : Nat} {L : aL} {S : List Value} {M : aM} : am_run (c_Reader_readQuoted s_Reader_fault s_Reader_add s_Nodes_nameQuote s_Nodes_setHead s_Nodes_setTail s_Reader_readDatum) k_Reader_readQuoted J K (n + 1) 72 L S M = ai_putf 1 3 75 (am_run (c_Reader_readQuoted s_Reader_fault s_Reader_add s_Nodes_nameQuote s_Nodes_setHead s_Nodes_setTail s_Reader_readDatum) k_Reader_readQuoted J K n) K 72 L S M := by rfl
set_option maxRecDepth 20000 in
theorem r_Reader_readQuoted_75 {s_Reader_fault : aS} {s_Reader_add : aS} {s_Nodes_nameQuote : aS} {s_Nodes_setHead : aS} {s_Nodes_setTail : aS} {s_Reader_readDatum : aS} {J : aJ} {K : aR} {n : Nat} {L : aL} {S : List Value} {M : aM} : am_run (c_Reader_readQuoted s_Reader_fault s_Reader_add s_Nodes_nameQuote s_Nodes_setHead s_Nodes_setTail s_Reader_readDatum) k_Reader_readQuoted J K (n + 1) 75 L S M = ai_aload 0 76 (am_run (c_Reader_readQuoted s_Reader_fault s_Reader_add s_Nodes_nameQuote s_Nodes_setHead s_Nodes_setTail s_Reader_readDatum) k_Reader_readQuoted J K n) K 75 L S M := by rfl
set_option maxRecDepth 20000 in
theorem r_Reader_readQuoted_76 {s_Reader_fault : aS} {s_Reader_add : aS} {s_Nodes_nameQuote : aS} {s_Nodes_setHead : aS} {s_Nodes_setTail : aS} {s_Reader_readDatum : aS} {J : aJ} {K : aR} {n : Nat} {L : aL} {S : List Value} {M : aM} : am_run (c_Reader_readQuoted s_Reader_fault s_Reader_add s_Nodes_nameQuote s_Nodes_setHead s_Nodes_setTail s_Reader_readDatum) k_Reader_readQuoted J K (n + 1) 76 L S M = ai_iload 1 77 (am_run (c_Reader_readQuoted s_Reader_fault s_Reader_add s_Nodes_nameQuote s_Nodes_setHead s_Nodes_setTail s_Reader_readDatum) k_Reader_readQuoted J K n) K 76 L S M := by rfl
set_option maxRecDepth 20000 in
theorem r_Reader_readQuoted_77 {s_Reader_fault : aS} {s_Reader_add : aS} {s_Nodes_nameQuote : aS} {s_Nodes_setHead : aS} {s_Nodes_setTail : aS} {s_Reader_readDatum : aS} {J : aJ} {K : aR} {n : Nat} {L : aL} {S : List Value} {M : aM} : am_run (c_Reader_readQuoted s_Reader_fault s_Reader_add s_Nodes_nameQuote s_Nodes_setHead s_Nodes_setTail s_Reader_readDatum) k_Reader_readQuoted J K (n + 1) 77 L S M = ai_const 1 78 (am_run (c_Reader_readQuoted s_Reader_fault s_Reader_add s_Nodes_nameQuote s_Nodes_setHead s_Nodes_setTail s_Reader_readDatum) k_Reader_readQuoted J K n) K 77 L S M := by rfl
set_option maxRecDepth 20000 in
theorem r_Reader_readQuoted_78 {s_Reader_fault : aS} {s_Reader_add : aS} {s_Nodes_nameQuote : aS} {s_Nodes_setHead : aS} {s_Nodes_setTail : aS} {s_Reader_readDatum : aS} {J : aJ} {K : aR} {n : Nat} {L : aL} {S : List Value} {M : aM} : am_run (c_Reader_readQuoted s_Reader_fault s_Reader_add s_Nodes_nameQuote s_Nodes_setHead s_Nodes_setTail s_Reader_readDatum) k_Reader_readQuoted J K (n + 1) 78 L S M = ai_iadd 79 (am_run (c_Reader_readQuoted s_Reader_fault s_Reader_add s_Nodes_nameQuote s_Nodes_setHead s_Nodes_setTail s_Reader_readDatum) k_Reader_readQuoted J K n) K 78 L S M := by rfl
set_option maxRecDepth 20000 in
theorem r_Reader_readQuoted_79 {s_Reader_fault : aS} {s_Reader_add : aS} {s_Nodes_nameQuote : aS} {s_Nodes_setHead : aS} {s_Nodes_setTail : aS} {s_Reader_readDatum : aS} {J : aJ} {K : aR} {n : Nat} {L : aL} {S : List Value} {M : aM} : am_run (c_Reader_readQuoted s_Reader_fault s_Reader_add s_Nodes_nameQuote s_Nodes_setHead s_Nodes_setTail s_Reader_readDatum) k_Reader_readQuoted J K (n + 1) 79 L S M = ai_callv2 1 s_Reader_readDatum 82 (am_run (c_Reader_readQuoted s_Reader_fault s_Reader_add s_Nodes_nameQuote s_Nodes_setHead s_Nodes_setTail s_Reader_readDatum) k_Reader_readQuoted J K n) K 79 L S M := by rfl
set_option maxRecDepth 20000 in
theorem r_Reader_readQuoted_82 {s_Reader_fault : aS} {s_Reader_add : aS} {s_Nodes_nameQuote : aS} {s_Nodes_setHead : aS} {s_Nodes_setTail : aS} {s_Reader_readDatum : aS} {J : aJ} {K : aR} {n : Nat} {L : aL} {S : List Value} {M : aM} : am_run (c_Reader_readQuoted s_Reader_fault s_Reader_add s_Nodes_nameQuote s_Nodes_setHead s_Nodes_setTail s_Reader_readDatum) k_Reader_readQuoted J K (n + 1) 82 L S M = ai_istore 5 84 (am_run (c_Reader_readQuoted s_Reader_fault s_Reader_add s_Nodes_nameQuote s_Nodes_setHead s_Nodes_setTail s_Reader_readDatum) k_Reader_readQuoted J K n) K 82 L S M := by rfl
set_option maxRecDepth 20000 in
theorem r_Reader_readQuoted_84 {s_Reader_fault : aS} {s_Reader_add : aS} {s_Nodes_nameQuote : aS} {s_Nodes_setHead : aS} {s_Nodes_setTail : aS} {s_Reader_readDatum : aS} {J : aJ} {K : aR} {n : Nat} {L : aL} {S : List Value} {M : aM} : am_run (c_Reader_readQuoted s_Reader_fault s_Reader_add s_Nodes_nameQuote s_Nodes_setHead s_Nodes_setTail s_Reader_readDatum) k_Reader_readQuoted J K (n + 1) 84 L S M = ai_iload 5 86 (am_run (c_Reader_readQuoted s_Reader_fault s_Reader_add s_Nodes_nameQuote s_Nodes_setHead s_Nodes_setTail s_Reader_readDatum) k_Reader_readQuoted J K n) K 84 L S M := by rfl
set_option maxRecDepth 20000 in
theorem r_Reader_readQuoted_86 {s_Reader_fault : aS} {s_Reader_add : aS} {s_Nodes_nameQuote : aS} {s_Nodes_setHead : aS} {s_Nodes_setTail : aS} {s_Reader_readDatum : aS} {J : aJ} {K : aR} {n : Nat} {L : aL} {S : List Value} {M : aM} : am_run (c_Reader_readQuoted s_Reader_fault s_Reader_add s_Nodes_nameQuote s_Nodes_setHead s_Nodes_setTail s_Reader_readDatum) k_Reader_readQuoted J K (n + 1) 86 L S M = ai_const (-1) 87 (am_run (c_Reader_readQuoted s_Reader_fault s_Reader_add s_Nodes_nameQuote s_Nodes_setHead s_Nodes_setTail s_Reader_readDatum) k_Reader_readQuoted J K n) K 86 L S M := by rfl
set_option maxRecDepth 20000 in
theorem r_Reader_readQuoted_87 {s_Reader_fault : aS} {s_Reader_add : aS} {s_Nodes_nameQuote : aS} {s_Nodes_setHead : aS} {s_Nodes_setTail : aS} {s_Reader_readDatum : aS} {J : aJ} {K : aR} {n : Nat} {L : aL} {S : List Value} {M : aM} : am_run (c_Reader_readQuoted s_Reader_fault s_Reader_add s_Nodes_nameQuote s_Nodes_setHead s_Nodes_setTail s_Reader_readDatum) k_Reader_readQuoted J K (n + 1) 87 L S M = ai_cmpne 92 90 (am_run (c_Reader_readQuoted s_Reader_fault s_Reader_add s_Nodes_nameQuote s_Nodes_setHead s_Nodes_setTail s_Reader_readDatum) k_Reader_readQuoted J K n) K 87 L S M := by rfl
set_option maxRecDepth 20000 in
theorem r_Reader_readQuoted_90 {s_Reader_fault : aS} {s_Reader_add : aS} {s_Nodes_nameQuote : aS} {s_Nodes_setHead : aS} {s_Nodes_setTail : aS} {s_Reader_readDatum : aS} {J : aJ} {K : aR} {n : Nat} {L : aL} {S : List Value} {M : aM} : am_run (c_Reader_readQuoted s_Reader_fault s_Reader_add s_Nodes_nameQuote s_Nodes_setHead s_Nodes_setTail s_Reader_readDatum) k_Reader_readQuoted J K (n + 1) 90 L S M = ai_const (-1) 91 (am_run (c_Reader_readQuoted s_Reader_fault s_Reader_add s_Nodes_nameQuote s_Nodes_setHead s_Nodes_setTail s_Reader_readDatum) k_Reader_readQuoted J K n) K 90 L S M := by rfl
set_option maxRecDepth 20000 in
theorem r_Reader_readQuoted_91 {s_Reader_fault : aS} {s_Reader_add : aS} {s_Nodes_nameQuote : aS} {s_Nodes_setHead : aS} {s_Nodes_setTail : aS} {s_Reader_readDatum : aS} {J : aJ} {K : aR} {n : Nat} {L : aL} {S : List Value} {M : aM} : am_run (c_Reader_readQuoted s_Reader_fault s_Reader_add s_Nodes_nameQuote s_Nodes_setHead s_Nodes_setTail s_Reader_readDatum) k_Reader_readQuoted J K (n + 1) 91 L S M = ai_iret (am_run (c_Reader_readQuoted s_Reader_fault s_Reader_add s_Nodes_nameQuote s_Nodes_setHead s_Nodes_setTail s_Reader_readDatum) k_Reader_readQuoted J K n) K 91 L S M := by rfl
set_option maxRecDepth 20000 in
theorem r_Reader_readQuoted_92 {s_Reader_fault : aS} {s_Reader_add : aS} {s_Nodes_nameQuote : aS} {s_Nodes_setHead : aS} {s_Nodes_setTail : aS} {s_Reader_readDatum : aS} {J : aJ} {K : aR} {n : Nat} {L : aL} {S : List Value} {M : aM} : am_run (c_Reader_readQuoted s_Reader_fault s_Reader_add s_Nodes_nameQuote s_Nodes_setHead s_Nodes_setTail s_Reader_readDatum) k_Reader_readQuoted J K (n + 1) 92 L S M = J 92 L S M := by rfl
set_option maxRecDepth 20000 in
theorem r_Reader_readQuoted_93 {s_Reader_fault : aS} {s_Reader_add : aS} {s_Nodes_nameQuote : aS} {s_Nodes_setHead : aS} {s_Nodes_setTail : aS} {s_Reader_readDatum : aS} {J : aJ} {K : aR} {n : Nat} {L : aL} {S : List Value} {M : aM} : am_run (c_Reader_readQuoted s_Reader_fault s_Reader_add s_Nodes_nameQuote s_Nodes_setHead s_Nodes_setTail s_Reader_readDatum) k_Reader_readQuoted J K (n + 1) 93 L S M = ai_getf 1 1 96 (am_run (c_Reader_readQuoted s_Reader_fault s_Reader_add s_Nodes_nameQuote s_Nodes_setHead s_Nodes_setTail s_Reader_readDatum) k_Reader_readQuoted J K n) K 93 L S M := by rfl
set_option maxRecDepth 20000 in
theorem r_Reader_readQuoted_96 {s_Reader_fault : aS} {s_Reader_add : aS} {s_Nodes_nameQuote : aS} {s_Nodes_setHead : aS} {s_Nodes_setTail : aS} {s_Reader_readDatum : aS} {J : aJ} {K : aR} {n : Nat} {L : aL} {S : List Value} {M : aM} : am_run (c_Reader_readQuoted s_Reader_fault s_Reader_add s_Nodes_nameQuote s_Nodes_setHead s_Nodes_setTail s_Reader_readDatum) k_Reader_readQuoted J K (n + 1) 96 L S M = ai_iload 4 98 (am_run (c_Reader_readQuoted s_Reader_fault s_Reader_add s_Nodes_nameQuote s_Nodes_setHead s_Nodes_setTail s_Reader_readDatum) k_Reader_readQuoted J K n) K 96 L S M := by rfl
set_option maxRecDepth 20000 in
theorem r_Reader_readQuoted_98 {s_Reader_fault : aS} {s_Reader_add : aS} {s_Nodes_nameQuote : aS} {s_Nodes_setHead : aS} {s_Nodes_setTail : aS} {s_Reader_readDatum : aS} {J : aJ} {K : aR} {n : Nat} {L : aL} {S : List Value} {M : aM} : am_run (c_Reader_readQuoted s_Reader_fault s_Reader_add s_Nodes_nameQuote s_Nodes_setHead s_Nodes_setTail s_Reader_readDatum) k_Reader_readQuoted J K (n + 1) 98 L S M = ai_iload 5 100 (am_run (c_Reader_readQuoted s_Reader_fault s_Reader_add s_Nodes_nameQuote s_Nodes_setHead s_Nodes_setTail s_Reader_readDatum) k_Reader_readQuoted J K n) K 98 L S M := by rfl
set_option maxRecDepth 20000 in
theorem r_Reader_readQuoted_100 {s_Reader_fault : aS} {s_Reader_add : aS} {s_Nodes_nameQuote : aS} {s_Nodes_setHead : aS} {s_Nodes_setTail : aS} {s_Reader_readDatum : aS} {J : aJ} {K : aR} {n : Nat} {L : aL} {S : List Value} {M : aM} : am_run (c_Reader_readQuoted s_Reader_fault s_Reader_add s_Nodes_nameQuote s_Nodes_setHead s_Nodes_setTail s_Reader_readDatum) k_Reader_readQuoted J K (n + 1) 100 L S M = ai_callv3 0 s_Nodes_setHead 103 (am_run (c_Reader_readQuoted s_Reader_fault s_Reader_add s_Nodes_nameQuote s_Nodes_setHead s_Nodes_setTail s_Reader_readDatum) k_Reader_readQuoted J K n) K 100 L S M := by rfl
set_option maxRecDepth 20000 in
theorem r_Reader_readQuoted_103 {s_Reader_fault : aS} {s_Reader_add : aS} {s_Nodes_nameQuote : aS} {s_Nodes_setHead : aS} {s_Nodes_setTail : aS} {s_Reader_readDatum : aS} {J : aJ} {K : aR} {n : Nat} {L : aL} {S : List Value} {M : aM} : am_run (c_Reader_readQuoted s_Reader_fault s_Reader_add s_Nodes_nameQuote s_Nodes_setHead s_Nodes_setTail s_Reader_readDatum) k_Reader_readQuoted J K (n + 1) 103 L S M = ai_aload 0 104 (am_run (c_Reader_readQuoted s_Reader_fault s_Reader_add s_Nodes_nameQuote s_Nodes_setHead s_Nodes_setTail s_Reader_readDatum) k_Reader_readQuoted J K n) K 103 L S M := by rfl
set_option maxRecDepth 20000 in
theorem r_Reader_readQuoted_104 {s_Reader_fault : aS} {s_Reader_add : aS} {s_Nodes_nameQuote : aS} {s_Nodes_setHead : aS} {s_Nodes_setTail : aS} {s_Reader_readDatum : aS} {J : aJ} {K : aR} {n : Nat} {L : aL} {S : List Value} {M : aM} : am_run (c_Reader_readQuoted s_Reader_fault s_Reader_add s_Nodes_nameQuote s_Nodes_setHead s_Nodes_setTail s_Reader_readDatum) k_Reader_readQuoted J K (n + 1) 104 L S M = ai_const 5 105 (am_run (c_Reader_readQuoted s_Reader_fault s_Reader_add s_Nodes_nameQuote s_Nodes_setHead s_Nodes_setTail s_Reader_readDatum) k_Reader_readQuoted J K n) K 104 L S M := by rfl
set_option maxRecDepth 20000 in
theorem r_Reader_readQuoted_105 {s_Reader_fault : aS} {s_Reader_add : aS} {s_Nodes_nameQuote : aS} {s_Nodes_setHead : aS} {s_Nodes_setTail : aS} {s_Reader_readDatum : aS} {J : aJ} {K : aR} {n : Nat} {L : aL} {S : List Value} {M : aM} : am_run (c_Reader_readQuoted s_Reader_fault s_Reader_add s_Nodes_nameQuote s_Nodes_setHead s_Nodes_setTail s_Reader_readDatum) k_Reader_readQuoted J K (n + 1) 105 L S M = ai_callv2 1 s_Reader_add 108 (am_run (c_Reader_readQuoted s_Reader_fault s_Reader_add s_Nodes_nameQuote s_Nodes_setHead s_Nodes_setTail s_Reader_readDatum) k_Reader_readQuoted J K n) K 105 L S M := by rfl
set_option maxRecDepth 20000 in
theorem r_Reader_readQuoted_108 {s_Reader_fault : aS} {s_Reader_add : aS} {s_Nodes_nameQuote : aS} {s_Nodes_setHead : aS} {s_Nodes_setTail : aS} {s_Reader_readDatum : aS} {J : aJ} {K : aR} {n : Nat} {L : aL} {S : List Value} {M : aM} : am_run (c_Reader_readQuoted s_Reader_fault s_Reader_add s_Nodes_nameQuote s_Nodes_setHead s_Nodes_setTail s_Reader_readDatum) k_Reader_readQuoted J K (n + 1) 108 L S M = ai_istore 6 110 (am_run (c_Reader_readQuoted s_Reader_fault s_Reader_add s_Nodes_nameQuote s_Nodes_setHead s_Nodes_setTail s_Reader_readDatum) k_Reader_readQuoted J K n) K 108 L S M := by rfl
set_option maxRecDepth 20000 in
theorem r_Reader_readQuoted_110 {s_Reader_fault : aS} {s_Reader_add : aS} {s_Nodes_nameQuote : aS} {s_Nodes_setHead : aS} {s_Nodes_setTail : aS} {s_Reader_readDatum : aS} {J : aJ} {K : aR} {n : Nat} {L : aL} {S : List Value} {M : aM} : am_run (c_Reader_readQuoted s_Reader_fault s_Reader_add s_Nodes_nameQuote s_Nodes_setHead s_Nodes_setTail s_Reader_readDatum) k_Reader_readQuoted J K (n + 1) 110 L S M = ai_aload 0 111 (am_run (c_Reader_readQuoted s_Reader_fault s_Reader_add s_Nodes_nameQuote s_Nodes_setHead s_Nodes_setTail s_Reader_readDatum) k_Reader_readQuoted J K n) K 110 L S M := by rfl
set_option maxRecDepth 20000 in
theorem r_Reader_readQuoted_111 {s_Reader_fault : aS} {s_Reader_add : aS} {s_Nodes_nameQuote : aS} {s_Nodes_setHead : aS} {s_Nodes_setTail : aS} {s_Reader_readDatum : aS} {J : aJ} {K : aR} {n : Nat} {L : aL} {S : List Value} {M : aM} : am_run (c_Reader_readQuoted s_Reader_fault s_Reader_add s_Nodes_nameQuote s_Nodes_setHead s_Nodes_setTail s_Reader_readDatum) k_Reader_readQuoted J K (n + 1) 111 L S M = ai_getf 1 1 114 (am_run (c_Reader_readQuoted s_Reader_fault s_Reader_add s_Nodes_nameQuote s_Nodes_setHead s_Nodes_setTail s_Reader_readDatum) k_Reader_readQuoted J K n) K 111 L S M := by rfl
set_option maxRecDepth 20000 in
theorem r_Reader_readQuoted_114 {s_Reader_fault : aS} {s_Reader_add : aS} {s_Nodes_nameQuote : aS} {s_Nodes_setHead : aS} {s_Nodes_setTail : aS} {s_Reader_readDatum : aS} {J : aJ} {K : aR} {n : Nat} {L : aL} {S : List Value} {M : aM} : am_run (c_Reader_readQuoted s_Reader_fault s_Reader_add s_Nodes_nameQuote s_Nodes_setHead s_Nodes_setTail s_Reader_readDatum) k_Reader_readQuoted J K (n + 1) 114 L S M = ai_iload 4 116 (am_run (c_Reader_readQuoted s_Reader_fault s_Reader_add s_Nodes_nameQuote s_Nodes_setHead s_Nodes_setTail s_Reader_readDatum) k_Reader_readQuoted J K n) K 114 L S M := by rfl
set_option maxRecDepth 20000 in
theorem r_Reader_readQuoted_116 {s_Reader_fault : aS} {s_Reader_add : aS} {s_Nodes_nameQuote : aS} {s_Nodes_setHead : aS} {s_Nodes_setTail : aS} {s_Reader_readDatum : aS} {J : aJ} {K : aR} {n : Nat} {L : aL} {S : List Value} {M : aM} : am_run (c_Reader_readQuoted s_Reader_fault s_Reader_add s_Nodes_nameQuote s_Nodes_setHead s_Nodes_setTail s_Reader_readDatum) k_Reader_readQuoted J K (n + 1) 116 L S M = ai_iload 6 118 (am_run (c_Reader_readQuoted s_Reader_fault s_Reader_add s_Nodes_nameQuote s_Nodes_setHead s_Nodes_setTail s_Reader_readDatum) k_Reader_readQuoted J K n) K 116 L S M := by rfl
set_option maxRecDepth 20000 in
theorem r_Reader_readQuoted_118 {s_Reader_fault : aS} {s_Reader_add : aS} {s_Nodes_nameQuote : aS} {s_Nodes_setHead : aS} {s_Nodes_setTail : aS} {s_Reader_readDatum : aS} {J : aJ} {K : aR} {n : Nat} {L : aL} {S : List Value} {M : aM} : am_run (c_Reader_readQuoted s_Reader_fault s_Reader_add s_Nodes_nameQuote s_Nodes_setHead s_Nodes_setTail s_Reader_readDatum) k_Reader_readQuoted J K (n + 1) 118 L S M = ai_callv3 0 s_Nodes_setTail 121 (am_run (c_Reader_readQuoted s_Reader_fault s_Reader_add s_Nodes_nameQuote s_Nodes_setHead s_Nodes_setTail s_Reader_readDatum) k_Reader_readQuoted J K n) K 118 L S M := by rfl
set_option maxRecDepth 20000 in
theorem r_Reader_readQuoted_121 {s_Reader_fault : aS} {s_Reader_add : aS} {s_Nodes_nameQuote : aS} {s_Nodes_setHead : aS} {s_Nodes_setTail : aS} {s_Reader_readDatum : aS} {J : aJ} {K : aR} {n : Nat} {L : aL} {S : List Value} {M : aM} : am_run (c_Reader_readQuoted s_Reader_fault s_Reader_add s_Nodes_nameQuote s_Nodes_setHead s_Nodes_setTail s_Reader_readDatum) k_Reader_readQuoted J K (n + 1) 121 L S M = ai_iload 6 123 (am_run (c_Reader_readQuoted s_Reader_fault s_Reader_add s_Nodes_nameQuote s_Nodes_setHead s_Nodes_setTail s_Reader_readDatum) k_Reader_readQuoted J K n) K 121 L S M := by rfl
set_option maxRecDepth 20000 in
theorem r_Reader_readQuoted_123 {s_Reader_fault : aS} {s_Reader_add : aS} {s_Nodes_nameQuote : aS} {s_Nodes_setHead : aS} {s_Nodes_setTail : aS} {s_Reader_readDatum : aS} {J : aJ} {K : aR} {n : Nat} {L : aL} {S : List Value} {M : aM} : am_run (c_Reader_readQuoted s_Reader_fault s_Reader_add s_Nodes_nameQuote s_Nodes_setHead s_Nodes_setTail s_Reader_readDatum) k_Reader_readQuoted J K (n + 1) 123 L S M = ai_const (-1) 124 (am_run (c_Reader_readQuoted s_Reader_fault s_Reader_add s_Nodes_nameQuote s_Nodes_setHead s_Nodes_setTail s_Reader_readDatum) k_Reader_readQuoted J K n) K 123 L S M := by rfl
set_option maxRecDepth 20000 in
theorem r_Reader_readQuoted_124 {s_Reader_fault : aS} {s_Reader_add : aS} {s_Nodes_nameQuote : aS} {s_Nodes_setHead : aS} {s_Nodes_setTail : aS} {s_Reader_readDatum : aS} {J : aJ} {K : aR} {n : Nat} {L : aL} {S : List Value} {M : aM} : am_run (c_Reader_readQuoted s_Reader_fault s_Reader_add s_Nodes_nameQuote s_Nodes_setHead s_Nodes_setTail s_Reader_readDatum) k_Reader_readQuoted J K (n + 1) 124 L S M = ai_cmpne 131 127 (am_run (c_Reader_readQuoted s_Reader_fault s_Reader_add s_Nodes_nameQuote s_Nodes_setHead s_Nodes_setTail s_Reader_readDatum) k_Reader_readQuoted J K n) K 124 L S M := by rfl
set_option maxRecDepth 20000 in
theorem r_Reader_readQuoted_127 {s_Reader_fault : aS} {s_Reader_add : aS} {s_Nodes_nameQuote : aS} {s_Nodes_setHead : aS} {s_Nodes_setTail : aS} {s_Reader_readDatum : aS} {J : aJ} {K : aR} {n : Nat} {L : aL} {S : List Value} {M : aM} : am_run (c_Reader_readQuoted s_Reader_fault s_Reader_add s_Nodes_nameQuote s_Nodes_setHead s_Nodes_setTail s_Reader_readDatum) k_Reader_readQuoted J K (n + 1) 127 L S M = ai_const (-1) 128 (am_run (c_Reader_readQuoted s_Reader_fault s_Reader_add s_Nodes_nameQuote s_Nodes_setHead s_Nodes_setTail s_Reader_readDatum) k_Reader_readQuoted J K n) K 127 L S M := by rfl
set_option maxRecDepth 20000 in
theorem r_Reader_readQuoted_128 {s_Reader_fault : aS} {s_Reader_add : aS} {s_Nodes_nameQuote : aS} {s_Nodes_setHead : aS} {s_Nodes_setTail : aS} {s_Reader_readDatum : aS} {J : aJ} {K : aR} {n : Nat} {L : aL} {S : List Value} {M : aM} : am_run (c_Reader_readQuoted s_Reader_fault s_Reader_add s_Nodes_nameQuote s_Nodes_setHead s_Nodes_setTail s_Reader_readDatum) k_Reader_readQuoted J K (n + 1) 128 L S M = ai_goto 132 (am_run (c_Reader_readQuoted s_Reader_fault s_Reader_add s_Nodes_nameQuote s_Nodes_setHead s_Nodes_setTail s_Reader_readDatum) k_Reader_readQuoted J K n) K 128 L S M := by rfl
set_option maxRecDepth 20000 in
theorem r_Reader_readQuoted_131 {s_Reader_fault : aS} {s_Reader_add : aS} {s_Nodes_nameQuote : aS} {s_Nodes_setHead : aS} {s_Nodes_setTail : aS} {s_Reader_readDatum : aS} {J : aJ} {K : aR} {n : Nat} {L : aL} {S : List Value} {M : aM} : am_run (c_Reader_readQuoted s_Reader_fault s_Reader_add s_Nodes_nameQuote s_Nodes_setHead s_Nodes_setTail s_Reader_readDatum) k_Reader_readQuoted J K (n + 1) 131 L S M = ai_iload 2 132 (am_run (c_Reader_readQuoted s_Reader_fault s_Reader_add s_Nodes_nameQuote s_Nodes_setHead s_Nodes_setTail s_Reader_readDatum) k_Reader_readQuoted J K n) K 131 L S M := by rfl
set_option maxRecDepth 20000 in
theorem r_Reader_readQuoted_132 {s_Reader_fault : aS} {s_Reader_add : aS} {s_Nodes_nameQuote : aS} {s_Nodes_setHead : aS} {s_Nodes_setTail : aS} {s_Reader_readDatum : aS} {J : aJ} {K : aR} {n : Nat} {L : aL} {S : List Value} {M : aM} : am_run (c_Reader_readQuoted s_Reader_fault s_Reader_add s_Nodes_nameQuote s_Nodes_setHead s_Nodes_setTail s_Reader_readDatum) k_Reader_readQuoted J K (n + 1) 132 L S M = ai_iret (am_run (c_Reader_readQuoted s_Reader_fault s_Reader_add s_Nodes_nameQuote s_Nodes_setHead s_Nodes_setTail s_Reader_readDatum) k_Reader_readQuoted J K n) K 132 L S M := by rfl
def c_Reader_readList (s_Reader_fault : aS) (s_Tokens_sortOf : aS) (s_Reader_add : aS) (s_Reader_readDatum : aS) (s_Nodes_setHead : aS) (s_Reader_readDotted : aS) (s_Nodes_setTail : aS) : List (Nat × aI) := [
  (0, ai_iload 1 1),
  (1, ai_const 15 3),
  (3, ai_cmplt 11 6),
  (6, ai_aload 0 7),
  (7, ai_callv1 1 s_Reader_fault 10),
  (10, ai_iret),
  (11, ai_aload 0 12),
  (12, ai_getf 1 2 15),
  (15, ai_aload 0 16),
  (16, ai_getf 1 3 19),
  (19, ai_const 1 20),
  (20, ai_iadd 21),
  (21, ai_callv2 3 s_Tokens_sortOf 24),
  (24, ai_const 7 26),
  (26, ai_cmpne 45 29),
  (29, ai_aload 0 30),
  (30, ai_dup 31),
  (31, ai_getf 1 3 34),
  (34, ai_const 1 35),
  (35, ai_iadd 36),
  (36, ai_putf 1 3 39),
  (39, ai_aload 0 40),
  (40, ai_const 5 41),
  (41, ai_callv2 1 s_Reader_add 44),
  (44, ai_iret),
  (45, ai_aload 0 46),
  (46, ai_const 4 47),
  (47, ai_callv2 1 s_Reader_add 50),
  (50, ai_istore 2 51),
  (51, ai_iload 2 52),
  (52, ai_istore 3 53),
  (53, ai_aload 0 54),
  (54, ai_dup 55),
  (55, ai_getf 1 3 58),
  (58, ai_const 1 59),
  (59, ai_iadd 60),
  (60, ai_putf 1 3 63),
  (63, ai_const 0 64),
  (64, ai_istore 4 66),
  (66, ai_iload 4 68),
  (68, ai_const 200 71),
  (71, ai_cmpge 213 74),
  (74, ai_iload 3 75),
  (75, ai_const (-1) 76),
  (76, ai_cmpeq 213 79),
  (79, ai_aload 0 80),
  (80, ai_iload 1 81),
  (81, ai_const 1 82),
  (82, ai_iadd 83),
  (83, ai_callv2 1 s_Reader_readDatum 86),
  (86, ai_istore 5 88),
  (88, ai_iload 5 90),
  (90, ai_const (-1) 91),
  (91, ai_cmpne 96 94),
  (94, ai_const (-1) 95),
  (95, ai_iret),
  (96, ai_aload 0 97),
  (97, ai_getf 1 1 100),
  (100, ai_iload 3 101),
  (101, ai_iload 5 103),
  (103, ai_callv3 0 s_Nodes_setHead 106),
  (106, ai_aload 0 107),
  (107, ai_dup 108),
  (108, ai_getf 1 3 111),
  (111, ai_const 1 112),
  (112, ai_iadd 113),
  (113, ai_putf 1 3 116),
  (116, ai_aload 0 117),
  (117, ai_getf 1 2 120),
  (120, ai_aload 0 121),
  (121, ai_getf 1 3 124),
  (124, ai_callv2 3 s_Tokens_sortOf 127),
  (127, ai_istore 6 129),
  (129, ai_iload 6 131),
  (131, ai_const 7 133),
  (133, ai_cmpeq 143 136),
  (136, ai_iload 6 138),
  (138, ai_const 9 140),
  (140, ai_cmpne 187 143),
  (143, ai_iload 6 145),
  (145, ai_const 7 147),
  (147, ai_cmpne 158 150),
  (150, ai_aload 0 151),
  (151, ai_const 5 152),
  (152, ai_callv2 1 s_Reader_add 155),
  (155, ai_goto 163),
  (158, ai_aload 0 159),
  (159, ai_iload 1 160),
  (160, ai_callv2 1 s_Reader_readDotted 163),
  (163, ai_istore 7 165),
  (165, ai_aload 0 166),
  (166, ai_getf 1 1 169),
  (169, ai_iload 3 170),
  (170, ai_iload 7 172),
  (172, ai_callv3 0 s_Nodes_setTail 175),
  (175, ai_iload 7 177),
  (177, ai_const (-1) 178),
  (178, ai_cmpne 185 181),
  (181, ai_const (-1) 182),
  (182, ai_goto 186),
  (185, ai_iload 2 186),
  (186, ai_iret),
  (187, ai_aload 0 188),
  (188, ai_const 4 189),
  (189, ai_callv2 1 s_Reader_add 192),
  (192, ai_istore 7 194),
  (194, ai_aload 0 195),
  (195, ai_getf 1 1 198),
  (198, ai_iload 3 199),
  (199, ai_iload 7 201),
  (201, ai_callv3 0 s_Nodes_setTail 204),
  (204, ai_iload 7 206),
  (206, ai_istore 3 207),
  (207, ai_iinc 4 1 210),
  (210, ai_goto 66),
  (213, ai_const (-1) 214),
  (214, ai_iret)]
set_option maxRecDepth 100000 in
set_option maxHeartbeats 4000000 in
theorem tb_Reader_readList {G : aG} {d : Nat} {s_Reader_fault : aS} {d_Reader_fault : Nat} (h_Reader_fault : am_Sp G Y_Reader_fault d_Reader_fault s_Reader_fault) (l_Reader_fault : d_Reader_fault < d) {s_Tokens_sortOf : aS} {d_Tokens_sortOf : Nat} (h_Tokens_sortOf : am_Sp G Y_Tokens_sortOf d_Tokens_sortOf s_Tokens_sortOf) (l_Tokens_sortOf : d_Tokens_sortOf < d) {s_Reader_add : aS} {d_Reader_add : Nat} (h_Reader_add : am_Sp G Y_Reader_add d_Reader_add s_Reader_add) (l_Reader_add : d_Reader_add < d) {s_Reader_readDatum : aS} {d_Reader_readDatum : Nat} (h_Reader_readDatum : am_Sp G Y_Reader_readDatum d_Reader_readDatum s_Reader_readDatum) (l_Reader_readDatum : d_Reader_readDatum < d) {s_Nodes_setHead : aS} {d_Nodes_setHead : Nat} (h_Nodes_setHead : am_Sp G Y_Nodes_setHead d_Nodes_setHead s_Nodes_setHead) (l_Nodes_setHead : d_Nodes_setHead < d) {s_Reader_readDotted : aS} {d_Reader_readDotted : Nat} (h_Reader_readDotted : am_Sp G Y_Reader_readDotted d_Reader_readDotted s_Reader_readDotted) (l_Reader_readDotted : d_Reader_readDotted < d) {s_Nodes_setTail : aS} {d_Nodes_setTail : Nat} (h_Nodes_setTail : am_Sp G Y_Nodes_setTail d_Nodes_setTail s_Nodes_setTail) (l_Nodes_setTail : d_Nodes_setTail < d) : am_tab G Y_Reader_readList d (c_Reader_readList s_Reader_fault s_Tokens_sortOf s_Reader_add s_Reader_readDatum s_Nodes_setHead s_Reader_readDotted s_Nodes_setTail) := by
  intro K p e s m args below meth c C
  exact ⟨as_iload_n C (pc := 0) (q := 1) (by decide +kernel) rfl rfl,
    as_bipush C (pc := 1) (n := 15) (by decide +kernel) (by decide +kernel) rfl,
    as_cmplt C (pc := 3) (off := 8) (by decide +kernel) (by decide) rfl,
    as_aload_n C (pc := 6) (q := 0) (by decide +kernel) rfl rfl,
    as_callv1 C (pc := 7) h_Reader_fault (T := T_Reader) (N := 5) rfl w_333 w_74 w_332 w_19 w_330 hy_Reader_fault (am_rm_of l_Reader_fault (by decide)) (by decide +kernel) rfl,
    as_iret C (pc := 10) rfl (by decide +kernel),
    as_aload_n C (pc := 11) (q := 0) (by decide +kernel) rfl rfl,
    as_getf C (pc := 12) (T := T_Reader) (N := 5) rfl in_Reader (by decide) rfl w_178 (by decide +kernel) rfl,
    as_aload_n C (pc := 15) (q := 0) (by decide +kernel) rfl rfl,
    as_getf C (pc := 16) (T := T_Reader) (N := 5) rfl in_Reader (by decide) rfl w_179 (by decide +kernel) rfl,
    as_iconst C (pc := 19) (n := 1) (by decide +kernel) (by decide +kernel) rfl,
    as_iadd C (pc := 20) (by decide +kernel) rfl,
    as_callv2N C (pc := 21) h_Tokens_sortOf (T := T_Tokens) (N := 4) rfl w_304 w_75 w_303 w_12 w_301 hy_Tokens_sortOf (am_rm_of l_Tokens_sortOf (by decide)) (by decide +kernel) rfl,
    as_bipush C (pc := 24) (n := 7) (by decide +kernel) (by decide +kernel) rfl,
    as_cmpne C (pc := 26) (off := 19) (by decide +kernel) (by decide) rfl,
    as_aload_n C (pc := 29) (q := 0) (by decide +kernel) rfl rfl,
    as_dup C (pc := 30) (by decide +kernel) rfl,
    as_getf C (pc := 31) (T := T_Reader) (N := 5) rfl in_Reader (by decide) rfl w_179 (by decide +kernel) rfl,
    as_iconst C (pc := 34) (n := 1) (by decide +kernel) (by decide +kernel) rfl,
    as_iadd C (pc := 35) (by decide +kernel) rfl,
    as_putf C (pc := 36) t_Reader (T := T_Reader) (N := 5) rfl in_Reader tok_Reader nm_Reader (by decide) rfl rfl (by decide +kernel) w_179 (by decide +kernel) rfl,
    as_aload_n C (pc := 39) (q := 0) (by decide +kernel) rfl rfl,
    as_iconst C (pc := 40) (n := 5) (by decide +kernel) (by decide +kernel) rfl,
    as_callv2 C (pc := 41) h_Reader_add (T := T_Reader) (N := 5) rfl w_325 w_74 w_324 w_17 w_322 hy_Reader_add (am_rm_of l_Reader_add (by decide)) (by decide +kernel) rfl,
    as_iret C (pc := 44) rfl (by decide +kernel),
    as_aload_n C (pc := 45) (q := 0) (by decide +kernel) rfl rfl,
    as_iconst C (pc := 46) (n := 4) (by decide +kernel) (by decide +kernel) rfl,
    as_callv2 C (pc := 47) h_Reader_add (T := T_Reader) (N := 5) rfl w_325 w_74 w_324 w_17 w_322 hy_Reader_add (am_rm_of l_Reader_add (by decide)) (by decide +kernel) rfl,
    as_istore_n C (pc := 50) (q := 2) (by decide +kernel) rfl (by decide) rfl,
    as_iload_n C (pc := 51) (q := 2) (by decide +kernel) rfl rfl,
    as_istore_n C (pc := 52) (q := 3) (by decide +kernel) rfl (by decide) rfl,
    as_aload_n C (pc := 53) (q := 0) (by decide +kernel) rfl rfl,
    as_dup C (pc := 54) (by decide +kernel) rfl,
    as_getf C (pc := 55) (T := T_Reader) (N := 5) rfl in_Reader (by decide) rfl w_179 (by decide +kernel) rfl,
    as_iconst C (pc := 58) (n := 1) (by decide +kernel) (by decide +kernel) rfl,
    as_iadd C (pc := 59) (by decide +kernel) rfl,
    as_putf C (pc := 60) t_Reader (T := T_Reader) (N := 5) rfl in_Reader tok_Reader nm_Reader (by decide) rfl rfl (by decide +kernel) w_179 (by decide +kernel) rfl,
    as_iconst C (pc := 63) (n := 0) (by decide +kernel) (by decide +kernel) rfl,
    as_istore C (pc := 64) (k := 4) (by decide +kernel) (by decide) rfl,
    as_iload C (pc := 66) (k := 4) (by decide +kernel) rfl,
    as_sipush C (pc := 68) (n := 200) (by decide +kernel) (by decide +kernel) rfl,
    as_cmpge C (pc := 71) (off := 142) (by decide +kernel) (by decide) rfl,
    as_iload_n C (pc := 74) (q := 3) (by decide +kernel) rfl rfl,
    as_iconst C (pc := 75) (n := (-1)) (by decide +kernel) (by decide +kernel) rfl,
    as_cmpeq C (pc := 76) (off := 137) (by decide +kernel) (by decide) rfl,
    as_aload_n C (pc := 79) (q := 0) (by decide +kernel) rfl rfl,
    as_iload_n C (pc := 80) (q := 1) (by decide +kernel) rfl rfl,
    as_iconst C (pc := 81) (n := 1) (by decide +kernel) (by decide +kernel) rfl,
    as_iadd C (pc := 82) (by decide +kernel) rfl,
    as_callv2 C (pc := 83) h_Reader_readDatum (T := T_Reader) (N := 5) rfl w_308 w_74 w_307 w_13 w_305 hy_Reader_readDatum (am_rm_of l_Reader_readDatum (by decide)) (by decide +kernel) rfl,
    as_istore C (pc := 86) (k := 5) (by decide +kernel) (by decide) rfl,
    as_iload C (pc := 88) (k := 5) (by decide +kernel) rfl,
    as_iconst C (pc := 90) (n := (-1)) (by decide +kernel) (by decide +kernel) rfl,
    as_cmpne C (pc := 91) (off := 5) (by decide +kernel) (by decide) rfl,
    as_iconst C (pc := 94) (n := (-1)) (by decide +kernel) (by decide +kernel) rfl,
    as_iret C (pc := 95) rfl (by decide +kernel),
    as_aload_n C (pc := 96) (q := 0) (by decide +kernel) rfl rfl,
    as_getf C (pc := 97) (T := T_Reader) (N := 5) rfl in_Reader (by decide) rfl w_177 (by decide +kernel) rfl,
    as_iload_n C (pc := 100) (q := 3) (by decide +kernel) rfl rfl,
    as_iload C (pc := 101) (k := 5) (by decide +kernel) rfl,
    as_callv3N C (pc := 103) h_Nodes_setHead (T := T_Nodes) (N := 10) rfl w_365 w_72 w_364 w_27 w_362 hy_Nodes_setHead (am_rm_of l_Nodes_setHead (by decide)) (by decide +kernel) rfl,
    as_aload_n C (pc := 106) (q := 0) (by decide +kernel) rfl rfl,
    as_dup C (pc := 107) (by decide +kernel) rfl,
    as_getf C (pc := 108) (T := T_Reader) (N := 5) rfl in_Reader (by decide) rfl w_179 (by decide +kernel) rfl,
    as_iconst C (pc := 111) (n := 1) (by decide +kernel) (by decide +kernel) rfl,
    as_iadd C (pc := 112) (by decide +kernel) rfl,
    as_putf C (pc := 113) t_Reader (T := T_Reader) (N := 5) rfl in_Reader tok_Reader nm_Reader (by decide) rfl rfl (by decide +kernel) w_179 (by decide +kernel) rfl,
    as_aload_n C (pc := 116) (q := 0) (by decide +kernel) rfl rfl,
    as_getf C (pc := 117) (T := T_Reader) (N := 5) rfl in_Reader (by decide) rfl w_178 (by decide +kernel) rfl,
    as_aload_n C (pc := 120) (q := 0) (by decide +kernel) rfl rfl,
    as_getf C (pc := 121) (T := T_Reader) (N := 5) rfl in_Reader (by decide) rfl w_179 (by decide +kernel) rfl,
    as_callv2N C (pc := 124) h_Tokens_sortOf (T := T_Tokens) (N := 4) rfl w_304 w_75 w_303 w_12 w_301 hy_Tokens_sortOf (am_rm_of l_Tokens_sortOf (by decide)) (by decide +kernel) rfl,
    as_istore C (pc := 127) (k := 6) (by decide +kernel) (by decide) rfl,
    as_iload C (pc := 129) (k := 6) (by decide +kernel) rfl,
    as_bipush C (pc := 131) (n := 7) (by decide +kernel) (by decide +kernel) rfl,
    as_cmpeq C (pc := 133) (off := 10) (by decide +kernel) (by decide) rfl,
    as_iload C (pc := 136) (k := 6) (by decide +kernel) rfl,
    as_bipush C (pc := 138) (n := 9) (by decide +kernel) (by decide +kernel) rfl,
    as_cmpne C (pc := 140) (off := 47) (by decide +kernel) (by decide) rfl,
    as_iload C (pc := 143) (k := 6) (by decide +kernel) rfl,
    as_bipush C (pc := 145) (n := 7) (by decide +kernel) (by decide +kernel) rfl,
    as_cmpne C (pc := 147) (off := 11) (by decide +kernel) (by decide) rfl,
    as_aload_n C (pc := 150) (q := 0) (by decide +kernel) rfl rfl,
    as_iconst C (pc := 151) (n := 5) (by decide +kernel) (by decide +kernel) rfl,
    as_callv2 C (pc := 152) h_Reader_add (T := T_Reader) (N := 5) rfl w_325 w_74 w_324 w_17 w_322 hy_Reader_add (am_rm_of l_Reader_add (by decide)) (by decide +kernel) rfl,
    as_goto C (pc := 155) (off := 8) (by decide +kernel) (by decide),
    as_aload_n C (pc := 158) (q := 0) (by decide +kernel) rfl rfl,
    as_iload_n C (pc := 159) (q := 1) (by decide +kernel) rfl rfl,
    as_callv2 C (pc := 160) h_Reader_readDotted (T := T_Reader) (N := 5) rfl w_377 w_74 w_376 w_30 w_374 hy_Reader_readDotted (am_rm_of l_Reader_readDotted (by decide)) (by decide +kernel) rfl,
    as_istore C (pc := 163) (k := 7) (by decide +kernel) (by decide) rfl,
    as_aload_n C (pc := 165) (q := 0) (by decide +kernel) rfl rfl,
    as_getf C (pc := 166) (T := T_Reader) (N := 5) rfl in_Reader (by decide) rfl w_177 (by decide +kernel) rfl,
    as_iload_n C (pc := 169) (q := 3) (by decide +kernel) rfl rfl,
    as_iload C (pc := 170) (k := 7) (by decide +kernel) rfl,
    as_callv3N C (pc := 172) h_Nodes_setTail (T := T_Nodes) (N := 10) rfl w_369 w_72 w_368 w_28 w_366 hy_Nodes_setTail (am_rm_of l_Nodes_setTail (by decide)) (by decide +kernel) rfl,
    as_iload C (pc := 175) (k := 7) (by decide +kernel) rfl,
    as_iconst C (pc := 177) (n := (-1)) (by decide +kernel) (by decide +kernel) rfl,
    as_cmpne C (pc := 178) (off := 7) (by decide +kernel) (by decide) rfl,
    as_iconst C (pc := 181) (n := (-1)) (by decide +kernel) (by decide +kernel) rfl,
    as_goto C (pc := 182) (off := 4) (by decide +kernel) (by decide),
    as_iload_n C (pc := 185) (q := 2) (by decide +kernel) rfl rfl,
    as_iret C (pc := 186) rfl (by decide +kernel),
    as_aload_n C (pc := 187) (q := 0) (by decide +kernel) rfl rfl,
    as_iconst C (pc := 188) (n := 4) (by decide +kernel) (by decide +kernel) rfl,
    as_callv2 C (pc := 189) h_Reader_add (T := T_Reader) (N := 5) rfl w_325 w_74 w_324 w_17 w_322 hy_Reader_add (am_rm_of l_Reader_add (by decide)) (by decide +kernel) rfl,
    as_istore C (pc := 192) (k := 7) (by decide +kernel) (by decide) rfl,
    as_aload_n C (pc := 194) (q := 0) (by decide +kernel) rfl rfl,
    as_getf C (pc := 195) (T := T_Reader) (N := 5) rfl in_Reader (by decide) rfl w_177 (by decide +kernel) rfl,
    as_iload_n C (pc := 198) (q := 3) (by decide +kernel) rfl rfl,
    as_iload C (pc := 199) (k := 7) (by decide +kernel) rfl,
    as_callv3N C (pc := 201) h_Nodes_setTail (T := T_Nodes) (N := 10) rfl w_369 w_72 w_368 w_28 w_366 hy_Nodes_setTail (am_rm_of l_Nodes_setTail (by decide)) (by decide +kernel) rfl,
    as_iload C (pc := 204) (k := 7) (by decide +kernel) rfl,
    as_istore_n C (pc := 206) (q := 3) (by decide +kernel) rfl (by decide) rfl,
    as_iinc C (pc := 207) (k := 4) (n := 1) (by decide +kernel) (by decide +kernel) (by decide) rfl,
    as_goto C (pc := 210) (off := (-144)) (by decide +kernel) (by decide),
    as_iconst C (pc := 213) (n := (-1)) (by decide +kernel) (by decide +kernel) rfl,
    as_iret C (pc := 214) rfl (by decide +kernel), trivial⟩
abbrev k_Reader_readList : List Nat := [66]
set_option maxRecDepth 20000 in
theorem q_Reader_readList_66 {s_Reader_fault : aS} {s_Tokens_sortOf : aS} {s_Reader_add : aS} {s_Reader_readDatum : aS} {s_Nodes_setHead : aS} {s_Reader_readDotted : aS} {s_Nodes_setTail : aS} : am_at (c_Reader_readList s_Reader_fault s_Tokens_sortOf s_Reader_add s_Reader_readDatum s_Nodes_setHead s_Reader_readDotted s_Nodes_setTail) 66 = ai_iload 4 68 := by rfl
set_option maxRecDepth 20000 in
theorem r_Reader_readList_0 {s_Reader_fault : aS} {s_Tokens_sortOf : aS} {s_Reader_add : aS} {s_Reader_readDatum : aS} {s_Nodes_setHead : aS} {s_Reader_readDotted : aS} {s_Nodes_setTail : aS} {J : aJ} {K : aR} {n : Nat} {L : aL} {S : List Value} {M : aM} : am_run (c_Reader_readList s_Reader_fault s_Tokens_sortOf s_Reader_add s_Reader_readDatum s_Nodes_setHead s_Reader_readDotted s_Nodes_setTail) k_Reader_readList J K (n + 1) 0 L S M = ai_iload 1 1 (am_run (c_Reader_readList s_Reader_fault s_Tokens_sortOf s_Reader_add s_Reader_readDatum s_Nodes_setHead s_Reader_readDotted s_Nodes_setTail) k_Reader_readList J K n) K 0 L S M := by rfl
set_option maxRecDepth 20000 in
theorem r_Reader_readList_1 {s_Reader_fault : aS} {s_Tokens_sortOf : aS} {s_Reader_add : aS} {s_Reader_readDatum : aS} {s_Nodes_setHead : aS} {s_Reader_readDotted : aS} {s_Nodes_setTail : aS} {J : aJ} {K : aR} {n : Nat} {L : aL} {S : List Value} {M : aM} : am_run (c_Reader_readList s_Reader_fault s_Tokens_sortOf s_Reader_add s_Reader_readDatum s_Nodes_setHead s_Reader_readDotted s_Nodes_setTail) k_Reader_readList J K (n + 1) 1 L S M = ai_const 15 3 (am_run (c_Reader_readList s_Reader_fault s_Tokens_sortOf s_Reader_add s_Reader_readDatum s_Nodes_setHead s_Reader_readDotted s_Nodes_setTail) k_Reader_readList J K n) K 1 L S M := by rfl
set_option maxRecDepth 20000 in
theorem r_Reader_readList_3 {s_Reader_fault : aS} {s_Tokens_sortOf : aS} {s_Reader_add : aS} {s_Reader_readDatum : aS} {s_Nodes_setHead : aS} {s_Reader_readDotted : aS} {s_Nodes_setTail : aS} {J : aJ} {K : aR} {n : Nat} {L : aL} {S : List Value} {M : aM} : am_run (c_Reader_readList s_Reader_fault s_Tokens_sortOf s_Reader_add s_Reader_readDatum s_Nodes_setHead s_Reader_readDotted s_Nodes_setTail) k_Reader_readList J K (n + 1) 3 L S M = ai_cmplt 11 6 (am_run (c_Reader_readList s_Reader_fault s_Tokens_sortOf s_Reader_add s_Reader_readDatum s_Nodes_setHead s_Reader_readDotted s_Nodes_setTail) k_Reader_readList J K n) K 3 L S M := by rfl
set_option maxRecDepth 20000 in
theorem r_Reader_readList_6 {s_Reader_fault : aS} {s_Tokens_sortOf : aS} {s_Reader_add : aS} {s_Reader_readDatum : aS} {s_Nodes_setHead : aS} {s_Reader_readDotted : aS} {s_Nodes_setTail : aS} {J : aJ} {K : aR} {n : Nat} {L : aL} {S : List Value} {M : aM} : am_run (c_Reader_readList s_Reader_fault s_Tokens_sortOf s_Reader_add s_Reader_readDatum s_Nodes_setHead s_Reader_readDotted s_Nodes_setTail) k_Reader_readList J K (n + 1) 6 L S M = ai_aload 0 7 (am_run (c_Reader_readList s_Reader_fault s_Tokens_sortOf s_Reader_add s_Reader_readDatum s_Nodes_setHead s_Reader_readDotted s_Nodes_setTail) k_Reader_readList J K n) K 6 L S M := by rfl
set_option maxRecDepth 20000 in
theorem r_Reader_readList_7 {s_Reader_fault : aS} {s_Tokens_sortOf : aS} {s_Reader_add : aS} {s_Reader_readDatum : aS} {s_Nodes_setHead : aS} {s_Reader_readDotted : aS} {s_Nodes_setTail : aS} {J : aJ} {K : aR} {n : Nat} {L : aL} {S : List Value} {M : aM} : am_run (c_Reader_readList s_Reader_fault s_Tokens_sortOf s_Reader_add s_Reader_readDatum s_Nodes_setHead s_Reader_readDotted s_Nodes_setTail) k_Reader_readList J K (n + 1) 7 L S M = ai_callv1 1 s_Reader_fault 10 (am_run (c_Reader_readList s_Reader_fault s_Tokens_sortOf s_Reader_add s_Reader_readDatum s_Nodes_setHead s_Reader_readDotted s_Nodes_setTail) k_Reader_readList J K n) K 7 L S M := by rfl
set_option maxRecDepth 20000 in
theorem r_Reader_readList_10 {s_Reader_fault : aS} {s_Tokens_sortOf : aS} {s_Reader_add : aS} {s_Reader_readDatum : aS} {s_Nodes_setHead : aS} {s_Reader_readDotted : aS} {s_Nodes_setTail : aS} {J : aJ} {K : aR} {n : Nat} {L : aL} {S : List Value} {M : aM} : am_run (c_Reader_readList s_Reader_fault s_Tokens_sortOf s_Reader_add s_Reader_readDatum s_Nodes_setHead s_Reader_readDotted s_Nodes_setTail) k_Reader_readList J K (n + 1) 10 L S M = ai_iret (am_run (c_Reader_readList s_Reader_fault s_Tokens_sortOf s_Reader_add s_Reader_readDatum s_Nodes_setHead s_Reader_readDotted s_Nodes_setTail) k_Reader_readList J K n) K 10 L S M := by rfl
set_option maxRecDepth 20000 in
theorem r_Reader_readList_11 {s_Reader_fault : aS} {s_Tokens_sortOf : aS} {s_Reader_add : aS} {s_Reader_readDatum : aS} {s_Nodes_setHead : aS} {s_Reader_readDotted : aS} {s_Nodes_setTail : aS} {J : aJ} {K : aR} {n : Nat} {L : aL} {S : List Value} {M : aM} : am_run (c_Reader_readList s_Reader_fault s_Tokens_sortOf s_Reader_add s_Reader_readDatum s_Nodes_setHead s_Reader_readDotted s_Nodes_setTail) k_Reader_readList J K (n + 1) 11 L S M = ai_aload 0 12 (am_run (c_Reader_readList s_Reader_fault s_Tokens_sortOf s_Reader_add s_Reader_readDatum s_Nodes_setHead s_Reader_readDotted s_Nodes_setTail) k_Reader_readList J K n) K 11 L S M := by rfl
set_option maxRecDepth 20000 in
theorem r_Reader_readList_12 {s_Reader_fault : aS} {s_Tokens_sortOf : aS} {s_Reader_add : aS} {s_Reader_readDatum : aS} {s_Nodes_setHead : aS} {s_Reader_readDotted : aS} {s_Nodes_setTail : aS} {J : aJ} {K : aR} {n : Nat} {L : aL} {S : List Value} {M : aM} : am_run (c_Reader_readList s_Reader_fault s_Tokens_sortOf s_Reader_add s_Reader_readDatum s_Nodes_setHead s_Reader_readDotted s_Nodes_setTail) k_Reader_readList J K (n + 1) 12 L S M = ai_getf 1 2 15 (am_run (c_Reader_readList s_Reader_fault s_Tokens_sortOf s_Reader_add s_Reader_readDatum s_Nodes_setHead s_Reader_readDotted s_Nodes_setTail) k_Reader_readList J K n) K 12 L S M := by rfl
set_option maxRecDepth 20000 in
theorem r_Reader_readList_15 {s_Reader_fault : aS} {s_Tokens_sortOf : aS} {s_Reader_add : aS} {s_Reader_readDatum : aS} {s_Nodes_setHead : aS} {s_Reader_readDotted : aS} {s_Nodes_setTail : aS} {J : aJ} {K : aR} {n : Nat} {L : aL} {S : List Value} {M : aM} : am_run (c_Reader_readList s_Reader_fault s_Tokens_sortOf s_Reader_add s_Reader_readDatum s_Nodes_setHead s_Reader_readDotted s_Nodes_setTail) k_Reader_readList J K (n + 1) 15 L S M = ai_aload 0 16 (am_run (c_Reader_readList s_Reader_fault s_Tokens_sortOf s_Reader_add s_Reader_readDatum s_Nodes_setHead s_Reader_readDotted s_Nodes_setTail) k_Reader_readList J K n) K 15 L S M := by rfl
set_option maxRecDepth 20000 in
theorem r_Reader_readList_16 {s_Reader_fault : aS} {s_Tokens_sortOf : aS} {s_Reader_add : aS} {s_Reader_readDatum : aS} {s_Nodes_setHead : aS} {s_Reader_readDotted : aS} {s_Nodes_setTail : aS} {J : aJ} {K : aR} {n : Nat} {L : aL} {S : List Value} {M : aM} : am_run (c_Reader_readList s_Reader_fault s_Tokens_sortOf s_Reader_add s_Reader_readDatum s_Nodes_setHead s_Reader_readDotted s_Nodes_setTail) k_Reader_readList J K (n + 1) 16 L S M = ai_getf 1 3 19 (am_run (c_Reader_readList s_Reader_fault s_Tokens_sortOf s_Reader_add s_Reader_readDatum s_Nodes_setHead s_Reader_readDotted s_Nodes_setTail) k_Reader_readList J K n) K 16 L S M := by rfl
set_option maxRecDepth 20000 in
theorem r_Reader_readList_19 {s_Reader_fault : aS} {s_Tokens_sortOf : aS} {s_Reader_add : aS} {s_Reader_readDatum : aS} {s_Nodes_setHead : aS} {s_Reader_readDotted : aS} {s_Nodes_setTail : aS} {J : aJ} {K : aR} {n : Nat} {L : aL} {S : List Value} {M : aM} : am_run (c_Reader_readList s_Reader_fault s_Tokens_sortOf s_Reader_add s_Reader_readDatum s_Nodes_setHead s_Reader_readDotted s_Nodes_setTail) k_Reader_readList J K (n + 1) 19 L S M = ai_const 1 20 (am_run (c_Reader_readList s_Reader_fault s_Tokens_sortOf s_Reader_add s_Reader_readDatum s_Nodes_setHead s_Reader_readDotted s_Nodes_setTail) k_Reader_readList J K n) K 19 L S M := by rfl
set_option maxRecDepth 20000 in
theorem r_Reader_readList_20 {s_Reader_fault : aS} {s_Tokens_sortOf : aS} {s_Reader_add : aS} {s_Reader_readDatum : aS} {s_Nodes_setHead : aS} {s_Reader_readDotted : aS} {s_Nodes_setTail : aS} {J : aJ} {K : aR} {n : Nat} {L : aL} {S : List Value} {M : aM} : am_run (c_Reader_readList s_Reader_fault s_Tokens_sortOf s_Reader_add s_Reader_readDatum s_Nodes_setHead s_Reader_readDotted s_Nodes_setTail) k_Reader_readList J K (n + 1) 20 L S M = ai_iadd 21 (am_run (c_Reader_readList s_Reader_fault s_Tokens_sortOf s_Reader_add s_Reader_readDatum s_Nodes_setHead s_Reader_readDotted s_Nodes_setTail) k_Reader_readList J K n) K 20 L S M := by rfl
set_option maxRecDepth 20000 in
theorem r_Reader_readList_21 {s_Reader_fault : aS} {s_Tokens_sortOf : aS} {s_Reader_add : aS} {s_Reader_readDatum : aS} {s_Nodes_setHead : aS} {s_Reader_readDotted : aS} {s_Nodes_setTail : aS} {J : aJ} {K : aR} {n : Nat} {L : aL} {S : List Value} {M : aM} : am_run (c_Reader_readList s_Reader_fault s_Tokens_sortOf s_Reader_add s_Reader_readDatum s_Nodes_setHead s_Reader_readDotted s_Nodes_setTail) k_Reader_readList J K (n + 1) 21 L S M = ai_callv2 3 s_Tokens_sortOf 24 (am_run (c_Reader_readList s_Reader_fault s_Tokens_sortOf s_Reader_add s_Reader_readDatum s_Nodes_setHead s_Reader_readDotted s_Nodes_setTail) k_Reader_readList J K n) K 21 L S M := by rfl
set_option maxRecDepth 20000 in
theorem r_Reader_readList_24 {s_Reader_fault : aS} {s_Tokens_sortOf : aS} {s_Reader_add : aS} {s_Reader_readDatum : aS} {s_Nodes_setHead : aS} {s_Reader_readDotted : aS} {s_Nodes_setTail : aS} {J : aJ} {K : aR} {n : Nat} {L : aL} {S : List Value} {M : aM} : am_run (c_Reader_readList s_Reader_fault s_Tokens_sortOf s_Reader_add s_Reader_readDatum s_Nodes_setHead s_Reader_readDotted s_Nodes_setTail) k_Reader_readList J K (n + 1) 24 L S M = ai_const 7 26 (am_run (c_Reader_readList s_Reader_fault s_Tokens_sortOf s_Reader_add s_Reader_readDatum s_Nodes_setHead s_Reader_readDotted s_Nodes_setTail) k_Reader_readList J K n) K 24 L S M := by rfl
set_option maxRecDepth 20000 in
theorem r_Reader_readList_26 {s_Reader_fault : aS} {s_Tokens_sortOf : aS} {s_Reader_add : aS} {s_Reader_readDatum : aS} {s_Nodes_setHead : aS} {s_Reader_readDotted : aS} {s_Nodes_setTail : aS} {J : aJ} {K : aR} {n : Nat} {L : aL} {S : List Value} {M : aM} : am_run (c_Reader_readList s_Reader_fault s_Tokens_sortOf s_Reader_add s_Reader_readDatum s_Nodes_setHead s_Reader_readDotted s_Nodes_setTail) k_Reader_readList J K (n + 1) 26 L S M = ai_cmpne 45 29 (am_run (c_Reader_readList s_Reader_fault s_Tokens_sortOf s_Reader_add s_Reader_readDatum s_Nodes_setHead s_Reader_readDotted s_Nodes_setTail) k_Reader_readList J K n) K 26 L S M := by rfl
set_option maxRecDepth 20000 in
theorem r_Reader_readList_29 {s_Reader_fault : aS} {s_Tokens_sortOf : aS} {s_Reader_add : aS} {s_Reader_readDatum : aS} {s_Nodes_setHead : aS} {s_Reader_readDotted : aS} {s_Nodes_setTail : aS} {J : aJ} {K : aR} {n : Nat} {L : aL} {S : List Value} {M : aM} : am_run (c_Reader_readList s_Reader_fault s_Tokens_sortOf s_Reader_add s_Reader_readDatum s_Nodes_setHead s_Reader_readDotted s_Nodes_setTail) k_Reader_readList J K (n + 1) 29 L S M = ai_aload 0 30 (am_run (c_Reader_readList s_Reader_fault s_Tokens_sortOf s_Reader_add s_Reader_readDatum s_Nodes_setHead s_Reader_readDotted s_Nodes_setTail) k_Reader_readList J K n) K 29 L S M := by rfl
set_option maxRecDepth 20000 in
theorem r_Reader_readList_30 {s_Reader_fault : aS} {s_Tokens_sortOf : aS} {s_Reader_add : aS} {s_Reader_readDatum : aS} {s_Nodes_setHead : aS} {s_Reader_readDotted : aS} {s_Nodes_setTail : aS} {J : aJ} {K : aR} {n : Nat} {L : aL} {S : List Value} {M : aM} : am_run (c_Reader_readList s_Reader_fault s_Tokens_sortOf s_Reader_add s_Reader_readDatum s_Nodes_setHead s_Reader_readDotted s_Nodes_setTail) k_Reader_readList J K (n + 1) 30 L S M = ai_dup 31 (am_run (c_Reader_readList s_Reader_fault s_Tokens_sortOf s_Reader_add s_Reader_readDatum s_Nodes_setHead s_Reader_readDotted s_Nodes_setTail) k_Reader_readList J K n) K 30 L S M := by rfl
set_option maxRecDepth 20000 in
theorem r_Reader_readList_31 {s_Reader_fault : aS} {s_Tokens_sortOf : aS} {s_Reader_add : aS} {s_Reader_readDatum : aS} {s_Nodes_setHead : aS} {s_Reader_readDotted : aS} {s_Nodes_setTail : aS} {J : aJ} {K : aR} {n : Nat} {L : aL} {S : List Value} {M : aM} : am_run (c_Reader_readList s_Reader_fault s_Tokens_sortOf s_Reader_add s_Reader_readDatum s_Nodes_setHead s_Reader_readDotted s_Nodes_setTail) k_Reader_readList J K (n + 1) 31 L S M = ai_getf 1 3 34 (am_run (c_Reader_readList s_Reader_fault s_Tokens_sortOf s_Reader_add s_Reader_readDatum s_Nodes_setHead s_Reader_readDotted s_Nodes_setTail) k_Reader_readList J K n) K 31 L S M := by rfl
set_option maxRecDepth 20000 in
theorem r_Reader_readList_34 {s_Reader_fault : aS} {s_Tokens_sortOf : aS} {s_Reader_add : aS} {s_Reader_readDatum : aS} {s_Nodes_setHead : aS} {s_Reader_readDotted : aS} {s_Nodes_setTail : aS} {J : aJ} {K : aR} {n : Nat} {L : aL} {S : List Value} {M : aM} : am_run (c_Reader_readList s_Reader_fault s_Tokens_sortOf s_Reader_add s_Reader_readDatum s_Nodes_setHead s_Reader_readDotted s_Nodes_setTail) k_Reader_readList J K (n + 1) 34 L S M = ai_const 1 35 (am_run (c_Reader_readList s_Reader_fault s_Tokens_sortOf s_Reader_add s_Reader_readDatum s_Nodes_setHead s_Reader_readDotted s_Nodes_setTail) k_Reader_readList J K n) K 34 L S M := by rfl
set_option maxRecDepth 20000 in
theorem r_Reader_readList_35 {s_Reader_fault : aS} {s_Tokens_sortOf : aS} {s_Reader_add : aS} {s_Reader_readDatum : aS} {s_Nodes_setHead : aS} {s_Reader_readDotted : aS} {s_Nodes_setTail : aS} {J : aJ} {K : aR} {n : Nat} {L : aL} {S : List Value} {M : aM} : am_run (c_Reader_readList s_Reader_fault s_Tokens_sortOf s_Reader_add s_Reader_readDatum s_Nodes_setHead s_Reader_readDotted s_Nodes_setTail) k_Reader_readList J K (n + 1) 35 L S M = ai_iadd 36 (am_run (c_Reader_readList s_Reader_fault s_Tokens_sortOf s_Reader_add s_Reader_readDatum s_Nodes_setHead s_Reader_readDotted s_Nodes_setTail) k_Reader_readList J K n) K 35 L S M := by rfl
set_option maxRecDepth 20000 in
theorem r_Reader_readList_36 {s_Reader_fault : aS} {s_Tokens_sortOf : aS} {s_Reader_add : aS} {s_Reader_readDatum : aS} {s_Nodes_setHead : aS} {s_Reader_readDotted : aS} {s_Nodes_setTail : aS} {J : aJ} {K : aR} {n : Nat} {L : aL} {S : List Value} {M : aM} : am_run (c_Reader_readList s_Reader_fault s_Tokens_sortOf s_Reader_add s_Reader_readDatum s_Nodes_setHead s_Reader_readDotted s_Nodes_setTail) k_Reader_readList J K (n + 1) 36 L S M = ai_putf 1 3 39 (am_run (c_Reader_readList s_Reader_fault s_Tokens_sortOf s_Reader_add s_Reader_readDatum s_Nodes_setHead s_Reader_readDotted s_Nodes_setTail) k_Reader_readList J K n) K 36 L S M := by rfl
set_option maxRecDepth 20000 in
theorem r_Reader_readList_39 {s_Reader_fault : aS} {s_Tokens_sortOf : aS} {s_Reader_add : aS} {s_Reader_readDatum : aS} {s_Nodes_setHead : aS} {s_Reader_readDotted : aS} {s_Nodes_setTail : aS} {J : aJ} {K : aR} {n : Nat} {L : aL} {S : List Value} {M : aM} : am_run (c_Reader_readList s_Reader_fault s_Tokens_sortOf s_Reader_add s_Reader_readDatum s_Nodes_setHead s_Reader_readDotted s_Nodes_setTail) k_Reader_readList J K (n + 1) 39 L S M = ai_aload 0 40 (am_run (c_Reader_readList s_Reader_fault s_Tokens_sortOf s_Reader_add s_Reader_readDatum s_Nodes_setHead s_Reader_readDotted s_Nodes_setTail) k_Reader_readList J K n) K 39 L S M := by rfl
set_option maxRecDepth 20000 in
theorem r_Reader_readList_40 {s_Reader_fault : aS} {s_Tokens_sortOf : aS} {s_Reader_add : aS} {s_Reader_readDatum : aS} {s_Nodes_setHead : aS} {s_Reader_readDotted : aS} {s_Nodes_setTail : aS} {J : aJ} {K : aR} {n : Nat} {L : aL} {S : List Value} {M : aM} : am_run (c_Reader_readList s_Reader_fault s_Tokens_sortOf s_Reader_add s_Reader_readDatum s_Nodes_setHead s_Reader_readDotted s_Nodes_setTail) k_Reader_readList J K (n + 1) 40 L S M = ai_const 5 41 (am_run (c_Reader_readList s_Reader_fault s_Tokens_sortOf s_Reader_add s_Reader_readDatum s_Nodes_setHead s_Reader_readDotted s_Nodes_setTail) k_Reader_readList J K n) K 40 L S M := by rfl
set_option maxRecDepth 20000 in
theorem r_Reader_readList_41 {s_Reader_fault : aS} {s_Tokens_sortOf : aS} {s_Reader_add : aS} {s_Reader_readDatum : aS} {s_Nodes_setHead : aS} {s_Reader_readDotted : aS} {s_Nodes_setTail : aS} {J : aJ} {K : aR} {n : Nat} {L : aL} {S : List Value} {M : aM} : am_run (c_Reader_readList s_Reader_fault s_Tokens_sortOf s_Reader_add s_Reader_readDatum s_Nodes_setHead s_Reader_readDotted s_Nodes_setTail) k_Reader_readList J K (n + 1) 41 L S M = ai_callv2 1 s_Reader_add 44 (am_run (c_Reader_readList s_Reader_fault s_Tokens_sortOf s_Reader_add s_Reader_readDatum s_Nodes_setHead s_Reader_readDotted s_Nodes_setTail) k_Reader_readList J K n) K 41 L S M := by rfl
set_option maxRecDepth 20000 in
theorem r_Reader_readList_44 {s_Reader_fault : aS} {s_Tokens_sortOf : aS} {s_Reader_add : aS} {s_Reader_readDatum : aS} {s_Nodes_setHead : aS} {s_Reader_readDotted : aS} {s_Nodes_setTail : aS} {J : aJ} {K : aR} {n : Nat} {L : aL} {S : List Value} {M : aM} : am_run (c_Reader_readList s_Reader_fault s_Tokens_sortOf s_Reader_add s_Reader_readDatum s_Nodes_setHead s_Reader_readDotted s_Nodes_setTail) k_Reader_readList J K (n + 1) 44 L S M = ai_iret (am_run (c_Reader_readList s_Reader_fault s_Tokens_sortOf s_Reader_add s_Reader_readDatum s_Nodes_setHead s_Reader_readDotted s_Nodes_setTail) k_Reader_readList J K n) K 44 L S M := by rfl
set_option maxRecDepth 20000 in
theorem r_Reader_readList_45 {s_Reader_fault : aS} {s_Tokens_sortOf : aS} {s_Reader_add : aS} {s_Reader_readDatum : aS} {s_Nodes_setHead : aS} {s_Reader_readDotted : aS} {s_Nodes_setTail : aS} {J : aJ} {K : aR} {n : Nat} {L : aL} {S : List Value} {M : aM} : am_run (c_Reader_readList s_Reader_fault s_Tokens_sortOf s_Reader_add s_Reader_readDatum s_Nodes_setHead s_Reader_readDotted s_Nodes_setTail) k_Reader_readList J K (n + 1) 45 L S M = ai_aload 0 46 (am_run (c_Reader_readList s_Reader_fault s_Tokens_sortOf s_Reader_add s_Reader_readDatum s_Nodes_setHead s_Reader_readDotted s_Nodes_setTail) k_Reader_readList J K n) K 45 L S M := by rfl
set_option maxRecDepth 20000 in
theorem r_Reader_readList_46 {s_Reader_fault : aS} {s_Tokens_sortOf : aS} {s_Reader_add : aS} {s_Reader_readDatum : aS} {s_Nodes_setHead : aS} {s_Reader_readDotted : aS} {s_Nodes_setTail : aS} {J : aJ} {K : aR} {n : Nat} {L : aL} {S : List Value} {M : aM} : am_run (c_Reader_readList s_Reader_fault s_Tokens_sortOf s_Reader_add s_Reader_readDatum s_Nodes_setHead s_Reader_readDotted s_Nodes_setTail) k_Reader_readList J K (n + 1) 46 L S M = ai_const 4 47 (am_run (c_Reader_readList s_Reader_fault s_Tokens_sortOf s_Reader_add s_Reader_readDatum s_Nodes_setHead s_Reader_readDotted s_Nodes_setTail) k_Reader_readList J K n) K 46 L S M := by rfl
set_option maxRecDepth 20000 in
theorem r_Reader_readList_47 {s_Reader_fault : aS} {s_Tokens_sortOf : aS} {s_Reader_add : aS} {s_Reader_readDatum : aS} {s_Nodes_setHead : aS} {s_Reader_readDotted : aS} {s_Nodes_setTail : aS} {J : aJ} {K : aR} {n : Nat} {L : aL} {S : List Value} {M : aM} : am_run (c_Reader_readList s_Reader_fault s_Tokens_sortOf s_Reader_add s_Reader_readDatum s_Nodes_setHead s_Reader_readDotted s_Nodes_setTail) k_Reader_readList J K (n + 1) 47 L S M = ai_callv2 1 s_Reader_add 50 (am_run (c_Reader_readList s_Reader_fault s_Tokens_sortOf s_Reader_add s_Reader_readDatum s_Nodes_setHead s_Reader_readDotted s_Nodes_setTail) k_Reader_readList J K n) K 47 L S M := by rfl
set_option maxRecDepth 20000 in
theorem r_Reader_readList_50 {s_Reader_fault : aS} {s_Tokens_sortOf : aS} {s_Reader_add : aS} {s_Reader_readDatum : aS} {s_Nodes_setHead : aS} {s_Reader_readDotted : aS} {s_Nodes_setTail : aS} {J : aJ} {K : aR} {n : Nat} {L : aL} {S : List Value} {M : aM} : am_run (c_Reader_readList s_Reader_fault s_Tokens_sortOf s_Reader_add s_Reader_readDatum s_Nodes_setHead s_Reader_readDotted s_Nodes_setTail) k_Reader_readList J K (n + 1) 50 L S M = ai_istore 2 51 (am_run (c_Reader_readList s_Reader_fault s_Tokens_sortOf s_Reader_add s_Reader_readDatum s_Nodes_setHead s_Reader_readDotted s_Nodes_setTail) k_Reader_readList J K n) K 50 L S M := by rfl
set_option maxRecDepth 20000 in
theorem r_Reader_readList_51 {s_Reader_fault : aS} {s_Tokens_sortOf : aS} {s_Reader_add : aS} {s_Reader_readDatum : aS} {s_Nodes_setHead : aS} {s_Reader_readDotted : aS} {s_Nodes_setTail : aS} {J : aJ} {K : aR} {n : Nat} {L : aL} {S : List Value} {M : aM} : am_run (c_Reader_readList s_Reader_fault s_Tokens_sortOf s_Reader_add s_Reader_readDatum s_Nodes_setHead s_Reader_readDotted s_Nodes_setTail) k_Reader_readList J K (n + 1) 51 L S M = ai_iload 2 52 (am_run (c_Reader_readList s_Reader_fault s_Tokens_sortOf s_Reader_add s_Reader_readDatum s_Nodes_setHead s_Reader_readDotted s_Nodes_setTail) k_Reader_readList J K n) K 51 L S M := by rfl
set_option maxRecDepth 20000 in
theorem r_Reader_readList_52 {s_Reader_fault : aS} {s_Tokens_sortOf : aS} {s_Reader_add : aS} {s_Reader_readDatum : aS} {s_Nodes_setHead : aS} {s_Reader_readDotted : aS} {s_Nodes_setTail : aS} {J : aJ} {K : aR} {n : Nat} {L : aL} {S : List Value} {M : aM} : am_run (c_Reader_readList s_Reader_fault s_Tokens_sortOf s_Reader_add s_Reader_readDatum s_Nodes_setHead s_Reader_readDotted s_Nodes_setTail) k_Reader_readList J K (n + 1) 52 L S M = ai_istore 3 53 (am_run (c_Reader_readList s_Reader_fault s_Tokens_sortOf s_Reader_add s_Reader_readDatum s_Nodes_setHead s_Reader_readDotted s_Nodes_setTail) k_Reader_readList J K n) K 52 L S M := by rfl
set_option maxRecDepth 20000 in
theorem r_Reader_readList_53 {s_Reader_fault : aS} {s_Tokens_sortOf : aS} {s_Reader_add : aS} {s_Reader_readDatum : aS} {s_Nodes_setHead : aS} {s_Reader_readDotted : aS} {s_Nodes_setTail : aS} {J : aJ} {K : aR} {n : Nat} {L : aL} {S : List Value} {M : aM} : am_run (c_Reader_readList s_Reader_fault s_Tokens_sortOf s_Reader_add s_Reader_readDatum s_Nodes_setHead s_Reader_readDotted s_Nodes_setTail) k_Reader_readList J K (n + 1) 53 L S M = ai_aload 0 54 (am_run (c_Reader_readList s_Reader_fault s_Tokens_sortOf s_Reader_add s_Reader_readDatum s_Nodes_setHead s_Reader_readDotted s_Nodes_setTail) k_Reader_readList J K n) K 53 L S M := by rfl
set_option maxRecDepth 20000 in
theorem r_Reader_readList_54 {s_Reader_fault : aS} {s_Tokens_sortOf : aS} {s_Reader_add : aS} {s_Reader_readDatum : aS} {s_Nodes_setHead : aS} {s_Reader_readDotted : aS} {s_Nodes_setTail : aS} {J : aJ} {K : aR} {n : Nat} {L : aL} {S : List Value} {M : aM} : am_run (c_Reader_readList s_Reader_fault s_Tokens_sortOf s_Reader_add s_Reader_readDatum s_Nodes_setHead s_Reader_readDotted s_Nodes_setTail) k_Reader_readList J K (n + 1) 54 L S M = ai_dup 55 (am_run (c_Reader_readList s_Reader_fault s_Tokens_sortOf s_Reader_add s_Reader_readDatum s_Nodes_setHead s_Reader_readDotted s_Nodes_setTail) k_Reader_readList J K n) K 54 L S M := by rfl
set_option maxRecDepth 20000 in
theorem r_Reader_readList_55 {s_Reader_fault : aS} {s_Tokens_sortOf : aS} {s_Reader_add : aS} {s_Reader_readDatum : aS} {s_Nodes_setHead : aS} {s_Reader_readDotted : aS} {s_Nodes_setTail : aS} {J : aJ} {K : aR} {n : Nat} {L : aL} {S : List Value} {M : aM} : am_run (c_Reader_readList s_Reader_fault s_Tokens_sortOf s_Reader_add s_Reader_readDatum s_Nodes_setHead s_Reader_readDotted s_Nodes_setTail) k_Reader_readList J K (n + 1) 55 L S M = ai_getf 1 3 58 (am_run (c_Reader_readList s_Reader_fault s_Tokens_sortOf s_Reader_add s_Reader_readDatum s_Nodes_setHead s_Reader_readDotted s_Nodes_setTail) k_Reader_readList J K n) K 55 L S M := by rfl
set_option maxRecDepth 20000 in
theorem r_Reader_readList_58 {s_Reader_fault : aS} {s_Tokens_sortOf : aS} {s_Reader_add : aS} {s_Reader_readDatum : aS} {s_Nodes_setHead : aS} {s_Reader_readDotted : aS} {s_Nodes_setTail : aS} {J : aJ} {K : aR} {n : Nat} {L : aL} {S : List Value} {M : aM} : am_run (c_Reader_readList s_Reader_fault s_Tokens_sortOf s_Reader_add s_Reader_readDatum s_Nodes_setHead s_Reader_readDotted s_Nodes_setTail) k_Reader_readList J K (n + 1) 58 L S M = ai_const 1 59 (am_run (c_Reader_readList s_Reader_fault s_Tokens_sortOf s_Reader_add s_Reader_readDatum s_Nodes_setHead s_Reader_readDotted s_Nodes_setTail) k_Reader_readList J K n) K 58 L S M := by rfl
set_option maxRecDepth 20000 in
theorem r_Reader_readList_59 {s_Reader_fault : aS} {s_Tokens_sortOf : aS} {s_Reader_add : aS} {s_Reader_readDatum : aS} {s_Nodes_setHead : aS} {s_Reader_readDotted : aS} {s_Nodes_setTail : aS} {J : aJ} {K : aR} {n : Nat} {L : aL} {S : List Value} {M : aM} : am_run (c_Reader_readList s_Reader_fault s_Tokens_sortOf s_Reader_add s_Reader_readDatum s_Nodes_setHead s_Reader_readDotted s_Nodes_setTail) k_Reader_readList J K (n + 1) 59 L S M = ai_iadd 60 (am_run (c_Reader_readList s_Reader_fault s_Tokens_sortOf s_Reader_add s_Reader_readDatum s_Nodes_setHead s_Reader_readDotted s_Nodes_setTail) k_Reader_readList J K n) K 59 L S M := by rfl
set_option maxRecDepth 20000 in
theorem r_Reader_readList_60 {s_Reader_fault : aS} {s_Tokens_sortOf : aS} {s_Reader_add : aS} {s_Reader_readDatum : aS} {s_Nodes_setHead : aS} {s_Reader_readDotted : aS} {s_Nodes_setTail : aS} {J : aJ} {K : aR} {n : Nat} {L : aL} {S : List Value} {M : aM} : am_run (c_Reader_readList s_Reader_fault s_Tokens_sortOf s_Reader_add s_Reader_readDatum s_Nodes_setHead s_Reader_readDotted s_Nodes_setTail) k_Reader_readList J K (n + 1) 60 L S M = ai_putf 1 3 63 (am_run (c_Reader_readList s_Reader_fault s_Tokens_sortOf s_Reader_add s_Reader_readDatum s_Nodes_setHead s_Reader_readDotted s_Nodes_setTail) k_Reader_readList J K n) K 60 L S M := by rfl
set_option maxRecDepth 20000 in
theorem r_Reader_readList_63 {s_Reader_fault : aS} {s_Tokens_sortOf : aS} {s_Reader_add : aS} {s_Reader_readDatum : aS} {s_Nodes_setHead : aS} {s_Reader_readDotted : aS} {s_Nodes_setTail : aS} {J : aJ} {K : aR} {n : Nat} {L : aL} {S : List Value} {M : aM} : am_run (c_Reader_readList s_Reader_fault s_Tokens_sortOf s_Reader_add s_Reader_readDatum s_Nodes_setHead s_Reader_readDotted s_Nodes_setTail) k_Reader_readList J K (n + 1) 63 L S M = ai_const 0 64 (am_run (c_Reader_readList s_Reader_fault s_Tokens_sortOf s_Reader_add s_Reader_readDatum s_Nodes_setHead s_Reader_readDotted s_Nodes_setTail) k_Reader_readList J K n) K 63 L S M := by rfl
set_option maxRecDepth 20000 in
theorem r_Reader_readList_64 {s_Reader_fault : aS} {s_Tokens_sortOf : aS} {s_Reader_add : aS} {s_Reader_readDatum : aS} {s_Nodes_setHead : aS} {s_Reader_readDotted : aS} {s_Nodes_setTail : aS} {J : aJ} {K : aR} {n : Nat} {L : aL} {S : List Value} {M : aM} : am_run (c_Reader_readList s_Reader_fault s_Tokens_sortOf s_Reader_add s_Reader_readDatum s_Nodes_setHead s_Reader_readDotted s_Nodes_setTail) k_Reader_readList J K (n + 1) 64 L S M = ai_istore 4 66 (am_run (c_Reader_readList s_Reader_fault s_Tokens_sortOf s_Reader_add s_Reader_readDatum s_Nodes_setHead s_Reader_readDotted s_Nodes_setTail) k_Reader_readList J K n) K 64 L S M := by rfl
set_option maxRecDepth 20000 in
theorem r_Reader_readList_66 {s_Reader_fault : aS} {s_Tokens_sortOf : aS} {s_Reader_add : aS} {s_Reader_readDatum : aS} {s_Nodes_setHead : aS} {s_Reader_readDotted : aS} {s_Nodes_setTail : aS} {J : aJ} {K : aR} {n : Nat} {L : aL} {S : List Value} {M : aM} : am_run (c_Reader_readList s_Reader_fault s_Tokens_sortOf s_Reader_add s_Reader_readDatum s_Nodes_setHead s_Reader_readDotted s_Nodes_setTail) k_Reader_readList J K (n + 1) 66 L S M = J 66 L S M := by rfl
set_option maxRecDepth 20000 in
theorem r_Reader_readList_68 {s_Reader_fault : aS} {s_Tokens_sortOf : aS} {s_Reader_add : aS} {s_Reader_readDatum : aS} {s_Nodes_setHead : aS} {s_Reader_readDotted : aS} {s_Nodes_setTail : aS} {J : aJ} {K : aR} {n : Nat} {L : aL} {S : List Value} {M : aM} : am_run (c_Reader_readList s_Reader_fault s_Tokens_sortOf s_Reader_add s_Reader_readDatum s_Nodes_setHead s_Reader_readDotted s_Nodes_setTail) k_Reader_readList J K (n + 1) 68 L S M = ai_const 200 71 (am_run (c_Reader_readList s_Reader_fault s_Tokens_sortOf s_Reader_add s_Reader_readDatum s_Nodes_setHead s_Reader_readDotted s_Nodes_setTail) k_Reader_readList J K n) K 68 L S M := by rfl
set_option maxRecDepth 20000 in
theorem r_Reader_readList_71 {s_Reader_fault : aS} {s_Tokens_sortOf : aS} {s_Reader_add : aS} {s_Reader_readDatum : aS} {s_Nodes_setHead : aS} {s_Reader_readDotted : aS} {s_Nodes_setTail : aS} {J : aJ} {K : aR} {n : Nat} {L : aL} {S : List Value} {M : aM} : am_run (c_Reader_readList s_Reader_fault s_Tokens_sortOf s_Reader_add s_Reader_readDatum s_Nodes_setHead s_Reader_readDotted s_Nodes_setTail) k_Reader_readList J K (n + 1) 71 L S M = ai_cmpge 213 74 (am_run (c_Reader_readList s_Reader_fault s_Tokens_sortOf s_Reader_add s_Reader_readDatum s_Nodes_setHead s_Reader_readDotted s_Nodes_setTail) k_Reader_readList J K n) K 71 L S M := by rfl
set_option maxRecDepth 20000 in
theorem r_Reader_readList_74 {s_Reader_fault : aS} {s_Tokens_sortOf : aS} {s_Reader_add : aS} {s_Reader_readDatum : aS} {s_Nodes_setHead : aS} {s_Reader_readDotted : aS} {s_Nodes_setTail : aS} {J : aJ} {K : aR} {n : Nat} {L : aL} {S : List Value} {M : aM} : am_run (c_Reader_readList s_Reader_fault s_Tokens_sortOf s_Reader_add s_Reader_readDatum s_Nodes_setHead s_Reader_readDotted s_Nodes_setTail) k_Reader_readList J K (n + 1) 74 L S M = ai_iload 3 75 (am_run (c_Reader_readList s_Reader_fault s_Tokens_sortOf s_Reader_add s_Reader_readDatum s_Nodes_setHead s_Reader_readDotted s_Nodes_setTail) k_Reader_readList J K n) K 74 L S M := by rfl
set_option maxRecDepth 20000 in
theorem r_Reader_readList_75 {s_Reader_fault : aS} {s_Tokens_sortOf : aS} {s_Reader_add : aS} {s_Reader_readDatum : aS} {s_Nodes_setHead : aS} {s_Reader_readDotted : aS} {s_Nodes_setTail : aS} {J : aJ} {K : aR} {n : Nat} {L : aL} {S : List Value} {M : aM} : am_run (c_Reader_readList s_Reader_fault s_Tokens_sortOf s_Reader_add s_Reader_readDatum s_Nodes_setHead s_Reader_readDotted s_Nodes_setTail) k_Reader_readList J K (n + 1) 75 L S M = ai_const (-1) 76 (am_run (c_Reader_readList s_Reader_fault s_Tokens_sortOf s_Reader_add s_Reader_readDatum s_Nodes_setHead s_Reader_readDotted s_Nodes_setTail) k_Reader_readList J K n) K 75 L S M := by rfl
set_option maxRecDepth 20000 in
theorem r_Reader_readList_76 {s_Reader_fault : aS} {s_Tokens_sortOf : aS} {s_Reader_add : aS} {s_Reader_readDatum : aS} {s_Nodes_setHead : aS} {s_Reader_readDotted : aS} {s_Nodes_setTail : aS} {J : aJ} {K : aR} {n : Nat} {L : aL} {S : List Value} {M : aM} : am_run (c_Reader_readList s_Reader_fault s_Tokens_sortOf s_Reader_add s_Reader_readDatum s_Nodes_setHead s_Reader_readDotted s_Nodes_setTail) k_Reader_readList J K (n + 1) 76 L S M = ai_cmpeq 213 79 (am_run (c_Reader_readList s_Reader_fault s_Tokens_sortOf s_Reader_add s_Reader_readDatum s_Nodes_setHead s_Reader_readDotted s_Nodes_setTail) k_Reader_readList J K n) K 76 L S M := by rfl
set_option maxRecDepth 20000 in
theorem r_Reader_readList_79 {s_Reader_fault : aS} {s_Tokens_sortOf : aS} {s_Reader_add : aS} {s_Reader_readDatum : aS} {s_Nodes_setHead : aS} {s_Reader_readDotted : aS} {s_Nodes_setTail : aS} {J : aJ} {K : aR} {n : Nat} {L : aL} {S : List Value} {M : aM} : am_run (c_Reader_readList s_Reader_fault s_Tokens_sortOf s_Reader_add s_Reader_readDatum s_Nodes_setHead s_Reader_readDotted s_Nodes_setTail) k_Reader_readList J K (n + 1) 79 L S M = ai_aload 0 80 (am_run (c_Reader_readList s_Reader_fault s_Tokens_sortOf s_Reader_add s_Reader_readDatum s_Nodes_setHead s_Reader_readDotted s_Nodes_setTail) k_Reader_readList J K n) K 79 L S M := by rfl
set_option maxRecDepth 20000 in
theorem r_Reader_readList_80 {s_Reader_fault : aS} {s_Tokens_sortOf : aS} {s_Reader_add : aS} {s_Reader_readDatum : aS} {s_Nodes_setHead : aS} {s_Reader_readDotted : aS} {s_Nodes_setTail : aS} {J : aJ} {K : aR} {n : Nat} {L : aL} {S : List Value} {M : aM} : am_run (c_Reader_readList s_Reader_fault s_Tokens_sortOf s_Reader_add s_Reader_readDatum s_Nodes_setHead s_Reader_readDotted s_Nodes_setTail) k_Reader_readList J K (n + 1) 80 L S M = ai_iload 1 81 (am_run (c_Reader_readList s_Reader_fault s_Tokens_sortOf s_Reader_add s_Reader_readDatum s_Nodes_setHead s_Reader_readDotted s_Nodes_setTail) k_Reader_readList J K n) K 80 L S M := by rfl
set_option maxRecDepth 20000 in
theorem r_Reader_readList_81 {s_Reader_fault : aS} {s_Tokens_sortOf : aS} {s_Reader_add : aS} {s_Reader_readDatum : aS} {s_Nodes_setHead : aS} {s_Reader_readDotted : aS} {s_Nodes_setTail : aS} {J : aJ} {K : aR} {n : Nat} {L : aL} {S : List Value} {M : aM} : am_run (c_Reader_readList s_Reader_fault s_Tokens_sortOf s_Reader_add s_Reader_readDatum s_Nodes_setHead s_Reader_readDotted s_Nodes_setTail) k_Reader_readList J K (n + 1) 81 L S M = ai_const 1 82 (am_run (c_Reader_readList s_Reader_fault s_Tokens_sortOf s_Reader_add s_Reader_readDatum s_Nodes_setHead s_Reader_readDotted s_Nodes_setTail) k_Reader_readList J K n) K 81 L S M := by rfl
set_option maxRecDepth 20000 in
theorem r_Reader_readList_82 {s_Reader_fault : aS} {s_Tokens_sortOf : aS} {s_Reader_add : aS} {s_Reader_readDatum : aS} {s_Nodes_setHead : aS} {s_Reader_readDotted : aS} {s_Nodes_setTail : aS} {J : aJ} {K : aR} {n : Nat} {L : aL} {S : List Value} {M : aM} : am_run (c_Reader_readList s_Reader_fault s_Tokens_sortOf s_Reader_add s_Reader_readDatum s_Nodes_setHead s_Reader_readDotted s_Nodes_setTail) k_Reader_readList J K (n + 1) 82 L S M = ai_iadd 83 (am_run (c_Reader_readList s_Reader_fault s_Tokens_sortOf s_Reader_add s_Reader_readDatum s_Nodes_setHead s_Reader_readDotted s_Nodes_setTail) k_Reader_readList J K n) K 82 L S M := by rfl
set_option maxRecDepth 20000 in
theorem r_Reader_readList_83 {s_Reader_fault : aS} {s_Tokens_sortOf : aS} {s_Reader_add : aS} {s_Reader_readDatum : aS} {s_Nodes_setHead : aS} {s_Reader_readDotted : aS} {s_Nodes_setTail : aS} {J : aJ} {K : aR} {n : Nat} {L : aL} {S : List Value} {M : aM} : am_run (c_Reader_readList s_Reader_fault s_Tokens_sortOf s_Reader_add s_Reader_readDatum s_Nodes_setHead s_Reader_readDotted s_Nodes_setTail) k_Reader_readList J K (n + 1) 83 L S M = ai_callv2 1 s_Reader_readDatum 86 (am_run (c_Reader_readList s_Reader_fault s_Tokens_sortOf s_Reader_add s_Reader_readDatum s_Nodes_setHead s_Reader_readDotted s_Nodes_setTail) k_Reader_readList J K n) K 83 L S M := by rfl
set_option maxRecDepth 20000 in
theorem r_Reader_readList_86 {s_Reader_fault : aS} {s_Tokens_sortOf : aS} {s_Reader_add : aS} {s_Reader_readDatum : aS} {s_Nodes_setHead : aS} {s_Reader_readDotted : aS} {s_Nodes_setTail : aS} {J : aJ} {K : aR} {n : Nat} {L : aL} {S : List Value} {M : aM} : am_run (c_Reader_readList s_Reader_fault s_Tokens_sortOf s_Reader_add s_Reader_readDatum s_Nodes_setHead s_Reader_readDotted s_Nodes_setTail) k_Reader_readList J K (n + 1) 86 L S M = ai_istore 5 88 (am_run (c_Reader_readList s_Reader_fault s_Tokens_sortOf s_Reader_add s_Reader_readDatum s_Nodes_setHead s_Reader_readDotted s_Nodes_setTail) k_Reader_readList J K n) K 86 L S M := by rfl
set_option maxRecDepth 20000 in
theorem r_Reader_readList_88 {s_Reader_fault : aS} {s_Tokens_sortOf : aS} {s_Reader_add : aS} {s_Reader_readDatum : aS} {s_Nodes_setHead : aS} {s_Reader_readDotted : aS} {s_Nodes_setTail : aS} {J : aJ} {K : aR} {n : Nat} {L : aL} {S : List Value} {M : aM} : am_run (c_Reader_readList s_Reader_fault s_Tokens_sortOf s_Reader_add s_Reader_readDatum s_Nodes_setHead s_Reader_readDotted s_Nodes_setTail) k_Reader_readList J K (n + 1) 88 L S M = ai_iload 5 90 (am_run (c_Reader_readList s_Reader_fault s_Tokens_sortOf s_Reader_add s_Reader_readDatum s_Nodes_setHead s_Reader_readDotted s_Nodes_setTail) k_Reader_readList J K n) K 88 L S M := by rfl
set_option maxRecDepth 20000 in
theorem r_Reader_readList_90 {s_Reader_fault : aS} {s_Tokens_sortOf : aS} {s_Reader_add : aS} {s_Reader_readDatum : aS} {s_Nodes_setHead : aS} {s_Reader_readDotted : aS} {s_Nodes_setTail : aS} {J : aJ} {K : aR} {n : Nat} {L : aL} {S : List Value} {M : aM} : am_run (c_Reader_readList s_Reader_fault s_Tokens_sortOf s_Reader_add s_Reader_readDatum s_Nodes_setHead s_Reader_readDotted s_Nodes_setTail) k_Reader_readList J K (n + 1) 90 L S M = ai_const (-1) 91 (am_run (c_Reader_readList s_Reader_fault s_Tokens_sortOf s_Reader_add s_Reader_readDatum s_Nodes_setHead s_Reader_readDotted s_Nodes_setTail) k_Reader_readList J K n) K 90 L S M := by rfl
set_option maxRecDepth 20000 in
theorem r_Reader_readList_91 {s_Reader_fault : aS} {s_Tokens_sortOf : aS} {s_Reader_add : aS} {s_Reader_readDatum : aS} {s_Nodes_setHead : aS} {s_Reader_readDotted : aS} {s_Nodes_setTail : aS} {J : aJ} {K : aR} {n : Nat} {L : aL} {S : List Value} {M : aM} : am_run (c_Reader_readList s_Reader_fault s_Tokens_sortOf s_Reader_add s_Reader_readDatum s_Nodes_setHead s_Reader_readDotted s_Nodes_setTail) k_Reader_readList J K (n + 1) 91 L S M = ai_cmpne 96 94 (am_run (c_Reader_readList s_Reader_fault s_Tokens_sortOf s_Reader_add s_Reader_readDatum s_Nodes_setHead s_Reader_readDotted s_Nodes_setTail) k_Reader_readList J K n) K 91 L S M := by rfl
set_option maxRecDepth 20000 in
theorem r_Reader_readList_94 {s_Reader_fault : aS} {s_Tokens_sortOf : aS} {s_Reader_add : aS} {s_Reader_readDatum : aS} {s_Nodes_setHead : aS} {s_Reader_readDotted : aS} {s_Nodes_setTail : aS} {J : aJ} {K : aR} {n : Nat} {L : aL} {S : List Value} {M : aM} : am_run (c_Reader_readList s_Reader_fault s_Tokens_sortOf s_Reader_add s_Reader_readDatum s_Nodes_setHead s_Reader_readDotted s_Nodes_setTail) k_Reader_readList J K (n + 1) 94 L S M = ai_const (-1) 95 (am_run (c_Reader_readList s_Reader_fault s_Tokens_sortOf s_Reader_add s_Reader_readDatum s_Nodes_setHead s_Reader_readDotted s_Nodes_setTail) k_Reader_readList J K n) K 94 L S M := by rfl
set_option maxRecDepth 20000 in
theorem r_Reader_readList_95 {s_Reader_fault : aS} {s_Tokens_sortOf : aS} {s_Reader_add : aS} {s_Reader_readDatum : aS} {s_Nodes_setHead : aS} {s_Reader_readDotted : aS} {s_Nodes_setTail : aS} {J : aJ} {K : aR} {n : Nat} {L : aL} {S : List Value} {M : aM} : am_run (c_Reader_readList s_Reader_fault s_Tokens_sortOf s_Reader_add s_Reader_readDatum s_Nodes_setHead s_Reader_readDotted s_Nodes_setTail) k_Reader_readList J K (n + 1) 95 L S M = ai_iret (am_run (c_Reader_readList s_Reader_fault s_Tokens_sortOf s_Reader_add s_Reader_readDatum s_Nodes_setHead s_Reader_readDotted s_Nodes_setTail) k_Reader_readList J K n) K 95 L S M := by rfl
set_option maxRecDepth 20000 in
theorem r_Reader_readList_96 {s_Reader_fault : aS} {s_Tokens_sortOf : aS} {s_Reader_add : aS} {s_Reader_readDatum : aS} {s_Nodes_setHead : aS} {s_Reader_readDotted : aS} {s_Nodes_setTail : aS} {J : aJ} {K : aR} {n : Nat} {L : aL} {S : List Value} {M : aM} : am_run (c_Reader_readList s_Reader_fault s_Tokens_sortOf s_Reader_add s_Reader_readDatum s_Nodes_setHead s_Reader_readDotted s_Nodes_setTail) k_Reader_readList J K (n + 1) 96 L S M = ai_aload 0 97 (am_run (c_Reader_readList s_Reader_fault s_Tokens_sortOf s_Reader_add s_Reader_readDatum s_Nodes_setHead s_Reader_readDotted s_Nodes_setTail) k_Reader_readList J K n) K 96 L S M := by rfl
set_option maxRecDepth 20000 in
theorem r_Reader_readList_97 {s_Reader_fault : aS} {s_Tokens_sortOf : aS} {s_Reader_add : aS} {s_Reader_readDatum : aS} {s_Nodes_setHead : aS} {s_Reader_readDotted : aS} {s_Nodes_setTail : aS} {J : aJ} {K : aR} {n : Nat} {L : aL} {S : List Value} {M : aM} : am_run (c_Reader_readList s_Reader_fault s_Tokens_sortOf s_Reader_add s_Reader_readDatum s_Nodes_setHead s_Reader_readDotted s_Nodes_setTail) k_Reader_readList J K (n + 1) 97 L S M = ai_getf 1 1 100 (am_run (c_Reader_readList s_Reader_fault s_Tokens_sortOf s_Reader_add s_Reader_readDatum s_Nodes_setHead s_Reader_readDotted s_Nodes_setTail) k_Reader_readList J K n) K 97 L S M := by rfl
set_option maxRecDepth 20000 in
theorem r_Reader_readList_100 {s_Reader_fault : aS} {s_Tokens_sortOf : aS} {s_Reader_add : aS} {s_Reader_readDatum : aS} {s_Nodes_setHead : aS} {s_Reader_readDotted : aS} {s_Nodes_setTail : aS} {J : aJ} {K : aR} {n : Nat} {L : aL} {S : List Value} {M : aM} : am_run (c_Reader_readList s_Reader_fault s_Tokens_sortOf s_Reader_add s_Reader_readDatum s_Nodes_setHead s_Reader_readDotted s_Nodes_setTail) k_Reader_readList J K (n + 1) 100 L S M = ai_iload 3 101 (am_run (c_Reader_readList s_Reader_fault s_Tokens_sortOf s_Reader_add s_Reader_readDatum s_Nodes_setHead s_Reader_readDotted s_Nodes_setTail) k_Reader_readList J K n) K 100 L S M := by rfl
set_option maxRecDepth 20000 in
theorem r_Reader_readList_101 {s_Reader_fault : aS} {s_Tokens_sortOf : aS} {s_Reader_add : aS} {s_Reader_readDatum : aS} {s_Nodes_setHead : aS} {s_Reader_readDotted : aS} {s_Nodes_setTail : aS} {J : aJ} {K : aR} {n : Nat} {L : aL} {S : List Value} {M : aM} : am_run (c_Reader_readList s_Reader_fault s_Tokens_sortOf s_Reader_add s_Reader_readDatum s_Nodes_setHead s_Reader_readDotted s_Nodes_setTail) k_Reader_readList J K (n + 1) 101 L S M = ai_iload 5 103 (am_run (c_Reader_readList s_Reader_fault s_Tokens_sortOf s_Reader_add s_Reader_readDatum s_Nodes_setHead s_Reader_readDotted s_Nodes_setTail) k_Reader_readList J K n) K 101 L S M := by rfl
set_option maxRecDepth 20000 in
theorem r_Reader_readList_103 {s_Reader_fault : aS} {s_Tokens_sortOf : aS} {s_Reader_add : aS} {s_Reader_readDatum : aS} {s_Nodes_setHead : aS} {s_Reader_readDotted : aS} {s_Nodes_setTail : aS} {J : aJ} {K : aR} {n : Nat} {L : aL} {S : List Value} {M : aM} : am_run (c_Reader_readList s_Reader_fault s_Tokens_sortOf s_Reader_add s_Reader_readDatum s_Nodes_setHead s_Reader_readDotted s_Nodes_setTail) k_Reader_readList J K (n + 1) 103 L S M = ai_callv3 0 s_Nodes_setHead 106 (am_run (c_Reader_readList s_Reader_fault s_Tokens_sortOf s_Reader_add s_Reader_readDatum s_Nodes_setHead s_Reader_readDotted s_Nodes_setTail) k_Reader_readList J K n) K 103 L S M := by rfl
set_option maxRecDepth 20000 in
theorem r_Reader_readList_106 {s_Reader_fault : aS} {s_Tokens_sortOf : aS} {s_Reader_add : aS} {s_Reader_readDatum : aS} {s_Nodes_setHead : aS} {s_Reader_readDotted : aS} {s_Nodes_setTail : aS} {J : aJ} {K : aR} {n : Nat} {L : aL} {S : List Value} {M : aM} : am_run (c_Reader_readList s_Reader_fault s_Tokens_sortOf s_Reader_add s_Reader_readDatum s_Nodes_setHead s_Reader_readDotted s_Nodes_setTail) k_Reader_readList J K (n + 1) 106 L S M = ai_aload 0 107 (am_run (c_Reader_readList s_Reader_fault s_Tokens_sortOf s_Reader_add s_Reader_readDatum s_Nodes_setHead s_Reader_readDotted s_Nodes_setTail) k_Reader_readList J K n) K 106 L S M := by rfl
set_option maxRecDepth 20000 in
theorem r_Reader_readList_107 {s_Reader_fault : aS} {s_Tokens_sortOf : aS} {s_Reader_add : aS} {s_Reader_readDatum : aS} {s_Nodes_setHead : aS} {s_Reader_readDotted : aS} {s_Nodes_setTail : aS} {J : aJ} {K : aR} {n : Nat} {L : aL} {S : List Value} {M : aM} : am_run (c_Reader_readList s_Reader_fault s_Tokens_sortOf s_Reader_add s_Reader_readDatum s_Nodes_setHead s_Reader_readDotted s_Nodes_setTail) k_Reader_readList J K (n + 1) 107 L S M = ai_dup 108 (am_run (c_Reader_readList s_Reader_fault s_Tokens_sortOf s_Reader_add s_Reader_readDatum s_Nodes_setHead s_Reader_readDotted s_Nodes_setTail) k_Reader_readList J K n) K 107 L S M := by rfl
set_option maxRecDepth 20000 in
theorem r_Reader_readList_108 {s_Reader_fault : aS} {s_Tokens_sortOf : aS} {s_Reader_add : aS} {s_Reader_readDatum : aS} {s_Nodes_setHead : aS} {s_Reader_readDotted : aS} {s_Nodes_setTail : aS} {J : aJ} {K : aR} {n : Nat} {L : aL} {S : List Value} {M : aM} : am_run (c_Reader_readList s_Reader_fault s_Tokens_sortOf s_Reader_add s_Reader_readDatum s_Nodes_setHead s_Reader_readDotted s_Nodes_setTail) k_Reader_readList J K (n + 1) 108 L S M = ai_getf 1 3 111 (am_run (c_Reader_readList s_Reader_fault s_Tokens_sortOf s_Reader_add s_Reader_readDatum s_Nodes_setHead s_Reader_readDotted s_Nodes_setTail) k_Reader_readList J K n) K 108 L S M := by rfl
set_option maxRecDepth 20000 in
theorem r_Reader_readList_111 {s_Reader_fault : aS} {s_Tokens_sortOf : aS} {s_Reader_add : aS} {s_Reader_readDatum : aS} {s_Nodes_setHead : aS} {s_Reader_readDotted : aS} {s_Nodes_setTail : aS} {J : aJ} {K : aR} {n : Nat} {L : aL} {S : List Value} {M : aM} : am_run (c_Reader_readList s_Reader_fault s_Tokens_sortOf s_Reader_add s_Reader_readDatum s_Nodes_setHead s_Reader_readDotted s_Nodes_setTail) k_Reader_readList J K (n + 1) 111 L S M = ai_const 1 112 (am_run (c_Reader_readList s_Reader_fault s_Tokens_sortOf s_Reader_add s_Reader_readDatum s_Nodes_setHead s_Reader_readDotted s_Nodes_setTail) k_Reader_readList J K n) K 111 L S M := by rfl
set_option maxRecDepth 20000 in
theorem r_Reader_readList_112 {s_Reader_fault : aS} {s_Tokens_sortOf : aS} {s_Reader_add : aS} {s_Reader_readDatum : aS} {s_Nodes_setHead : aS} {s_Reader_readDotted : aS} {s_Nodes_setTail : aS} {J : aJ} {K : aR} {n : Nat} {L : aL} {S : List Value} {M : aM} : am_run (c_Reader_readList s_Reader_fault s_Tokens_sortOf s_Reader_add s_Reader_readDatum s_Nodes_setHead s_Reader_readDotted s_Nodes_setTail) k_Reader_readList J K (n + 1) 112 L S M = ai_iadd 113 (am_run (c_Reader_readList s_Reader_fault s_Tokens_sortOf s_Reader_add s_Reader_readDatum s_Nodes_setHead s_Reader_readDotted s_Nodes_setTail) k_Reader_readList J K n) K 112 L S M := by rfl
set_option maxRecDepth 20000 in
theorem r_Reader_readList_113 {s_Reader_fault : aS} {s_Tokens_sortOf : aS} {s_Reader_add : aS} {s_Reader_readDatum : aS} {s_Nodes_setHead : aS} {s_Reader_readDotted : aS} {s_Nodes_setTail : aS} {J : aJ} {K : aR} {n : Nat} {L : aL} {S : List Value} {M : aM} : am_run (c_Reader_readList s_Reader_fault s_Tokens_sortOf s_Reader_add s_Reader_readDatum s_Nodes_setHead s_Reader_readDotted s_Nodes_setTail) k_Reader_readList J K (n + 1) 113 L S M = ai_putf 1 3 116 (am_run (c_Reader_readList s_Reader_fault s_Tokens_sortOf s_Reader_add s_Reader_readDatum s_Nodes_setHead s_Reader_readDotted s_Nodes_setTail) k_Reader_readList J K n) K 113 L S M := by rfl
set_option maxRecDepth 20000 in
theorem r_Reader_readList_116 {s_Reader_fault : aS} {s_Tokens_sortOf : aS} {s_Reader_add : aS} {s_Reader_readDatum : aS} {s_Nodes_setHead : aS} {s_Reader_readDotted : aS} {s_Nodes_setTail : aS} {J : aJ} {K : aR} {n : Nat} {L : aL} {S : List Value} {M : aM} : am_run (c_Reader_readList s_Reader_fault s_Tokens_sortOf s_Reader_add s_Reader_readDatum s_Nodes_setHead s_Reader_readDotted s_Nodes_setTail) k_Reader_readList J K (n + 1) 116 L S M = ai_aload 0 117 (am_run (c_Reader_readList s_Reader_fault s_Tokens_sortOf s_Reader_add s_Reader_readDatum s_Nodes_setHead s_Reader_readDotted s_Nodes_setTail) k_Reader_readList J K n) K 116 L S M := by rfl
set_option maxRecDepth 20000 in
theorem r_Reader_readList_117 {s_Reader_fault : aS} {s_Tokens_sortOf : aS} {s_Reader_add : aS} {s_Reader_readDatum : aS} {s_Nodes_setHead : aS} {s_Reader_readDotted : aS} {s_Nodes_setTail : aS} {J : aJ} {K : aR} {n : Nat} {L : aL} {S : List Value} {M : aM} : am_run (c_Reader_readList s_Reader_fault s_Tokens_sortOf s_Reader_add s_Reader_readDatum s_Nodes_setHead s_Reader_readDotted s_Nodes_setTail) k_Reader_readList J K (n + 1) 117 L S M = ai_getf 1 2 120 (am_run (c_Reader_readList s_Reader_fault s_Tokens_sortOf s_Reader_add s_Reader_readDatum s_Nodes_setHead s_Reader_readDotted s_Nodes_setTail) k_Reader_readList J K n) K 117 L S M := by rfl
set_option maxRecDepth 20000 in
theorem r_Reader_readList_120 {s_Reader_fault : aS} {s_Tokens_sortOf : aS} {s_Reader_add : aS} {s_Reader_readDatum : aS} {s_Nodes_setHead : aS} {s_Reader_readDotted : aS} {s_Nodes_setTail : aS} {J : aJ} {K : aR} {n : Nat} {L : aL} {S : List Value} {M : aM} : am_run (c_Reader_readList s_Reader_fault s_Tokens_sortOf s_Reader_add s_Reader_readDatum s_Nodes_setHead s_Reader_readDotted s_Nodes_setTail) k_Reader_readList J K (n + 1) 120 L S M = ai_aload 0 121 (am_run (c_Reader_readList s_Reader_fault s_Tokens_sortOf s_Reader_add s_Reader_readDatum s_Nodes_setHead s_Reader_readDotted s_Nodes_setTail) k_Reader_readList J K n) K 120 L S M := by rfl
set_option maxRecDepth 20000 in
theorem r_Reader_readList_121 {s_Reader_fault : aS} {s_Tokens_sortOf : aS} {s_Reader_add : aS} {s_Reader_readDatum : aS} {s_Nodes_setHead : aS} {s_Reader_readDotted : aS} {s_Nodes_setTail : aS} {J : aJ} {K : aR} {n : Nat} {L : aL} {S : List Value} {M : aM} : am_run (c_Reader_readList s_Reader_fault s_Tokens_sortOf s_Reader_add s_Reader_readDatum s_Nodes_setHead s_Reader_readDotted s_Nodes_setTail) k_Reader_readList J K (n + 1) 121 L S M = ai_getf 1 3 124 (am_run (c_Reader_readList s_Reader_fault s_Tokens_sortOf s_Reader_add s_Reader_readDatum s_Nodes_setHead s_Reader_readDotted s_Nodes_setTail) k_Reader_readList J K n) K 121 L S M := by rfl
set_option maxRecDepth 20000 in
theorem r_Reader_readList_124 {s_Reader_fault : aS} {s_Tokens_sortOf : aS} {s_Reader_add : aS} {s_Reader_readDatum : aS} {s_Nodes_setHead : aS} {s_Reader_readDotted : aS} {s_Nodes_setTail : aS} {J : aJ} {K : aR} {n : Nat} {L : aL} {S : List Value} {M : aM} : am_run (c_Reader_readList s_Reader_fault s_Tokens_sortOf s_Reader_add s_Reader_readDatum s_Nodes_setHead s_Reader_readDotted s_Nodes_setTail) k_Reader_readList J K (n + 1) 124 L S M = ai_callv2 3 s_Tokens_sortOf 127 (am_run (c_Reader_readList s_Reader_fault s_Tokens_sortOf s_Reader_add s_Reader_readDatum s_Nodes_setHead s_Reader_readDotted s_Nodes_setTail) k_Reader_readList J K n) K 124 L S M := by rfl
set_option maxRecDepth 20000 in
theorem r_Reader_readList_127 {s_Reader_fault : aS} {s_Tokens_sortOf : aS} {s_Reader_add : aS} {s_Reader_readDatum : aS} {s_Nodes_setHead : aS} {s_Reader_readDotted : aS} {s_Nodes_setTail : aS} {J : aJ} {K : aR} {n : Nat} {L : aL} {S : List Value} {M : aM} : am_run (c_Reader_readList s_Reader_fault s_Tokens_sortOf s_Reader_add s_Reader_readDatum s_Nodes_setHead s_Reader_readDotted s_Nodes_setTail) k_Reader_readList J K (n + 1) 127 L S M = ai_istore 6 129 (am_run (c_Reader_readList s_Reader_fault s_Tokens_sortOf s_Reader_add s_Reader_readDatum s_Nodes_setHead s_Reader_readDotted s_Nodes_setTail) k_Reader_readList J K n) K 127 L S M := by rfl
set_option maxRecDepth 20000 in
theorem r_Reader_readList_129 {s_Reader_fault : aS} {s_Tokens_sortOf : aS} {s_Reader_add : aS} {s_Reader_readDatum : aS} {s_Nodes_setHead : aS} {s_Reader_readDotted : aS} {s_Nodes_setTail : aS} {J : aJ} {K : aR} {n : Nat} {L : aL} {S : List Value} {M : aM} : am_run (c_Reader_readList s_Reader_fault s_Tokens_sortOf s_Reader_add s_Reader_readDatum s_Nodes_setHead s_Reader_readDotted s_Nodes_setTail) k_Reader_readList J K (n + 1) 129 L S M = ai_iload 6 131 (am_run (c_Reader_readList s_Reader_fault s_Tokens_sortOf s_Reader_add s_Reader_readDatum s_Nodes_setHead s_Reader_readDotted s_Nodes_setTail) k_Reader_readList J K n) K 129 L S M := by rfl
set_option maxRecDepth 20000 in
theorem r_Reader_readList_131 {s_Reader_fault : aS} {s_Tokens_sortOf : aS} {s_Reader_add : aS} {s_Reader_readDatum : aS} {s_Nodes_setHead : aS} {s_Reader_readDotted : aS} {s_Nodes_setTail : aS} {J : aJ} {K : aR} {n : Nat} {L : aL} {S : List Value} {M : aM} : am_run (c_Reader_readList s_Reader_fault s_Tokens_sortOf s_Reader_add s_Reader_readDatum s_Nodes_setHead s_Reader_readDotted s_Nodes_setTail) k_Reader_readList J K (n + 1) 131 L S M = ai_const 7 133 (am_run (c_Reader_readList s_Reader_fault s_Tokens_sortOf s_Reader_add s_Reader_readDatum s_Nodes_setHead s_Reader_readDotted s_Nodes_setTail) k_Reader_readList J K n) K 131 L S M := by rfl
set_option maxRecDepth 20000 in
theorem r_Reader_readList_133 {s_Reader_fault : aS} {s_Tokens_sortOf : aS} {s_Reader_add : aS} {s_Reader_readDatum : aS} {s_Nodes_setHead : aS} {s_Reader_readDotted : aS} {s_Nodes_setTail : aS} {J : aJ} {K : aR} {n : Nat} {L : aL} {S : List Value} {M : aM} : am_run (c_Reader_readList s_Reader_fault s_Tokens_sortOf s_Reader_add s_Reader_readDatum s_Nodes_setHead s_Reader_readDotted s_Nodes_setTail) k_Reader_readList J K (n + 1) 133 L S M = ai_cmpeq 143 136 (am_run (c_Reader_readList s_Reader_fault s_Tokens_sortOf s_Reader_add s_Reader_readDatum s_Nodes_setHead s_Reader_readDotted s_Nodes_setTail) k_Reader_readList J K n) K 133 L S M := by rfl
set_option maxRecDepth 20000 in
theorem r_Reader_readList_136 {s_Reader_fault : aS} {s_Tokens_sortOf : aS} {s_Reader_add : aS} {s_Reader_readDatum : aS} {s_Nodes_setHead : aS} {s_Reader_readDotted : aS} {s_Nodes_setTail : aS} {J : aJ} {K : aR} {n : Nat} {L : aL} {S : List Value} {M : aM} : am_run (c_Reader_readList s_Reader_fault s_Tokens_sortOf s_Reader_add s_Reader_readDatum s_Nodes_setHead s_Reader_readDotted s_Nodes_setTail) k_Reader_readList J K (n + 1) 136 L S M = ai_iload 6 138 (am_run (c_Reader_readList s_Reader_fault s_Tokens_sortOf s_Reader_add s_Reader_readDatum s_Nodes_setHead s_Reader_readDotted s_Nodes_setTail) k_Reader_readList J K n) K 136 L S M := by rfl
set_option maxRecDepth 20000 in
theorem r_Reader_readList_138 {s_Reader_fault : aS} {s_Tokens_sortOf : aS} {s_Reader_add : aS} {s_Reader_readDatum : aS} {s_Nodes_setHead : aS} {s_Reader_readDotted : aS} {s_Nodes_setTail : aS} {J : aJ} {K : aR} {n : Nat} {L : aL} {S : List Value} {M : aM} : am_run (c_Reader_readList s_Reader_fault s_Tokens_sortOf s_Reader_add s_Reader_readDatum s_Nodes_setHead s_Reader_readDotted s_Nodes_setTail) k_Reader_readList J K (n + 1) 138 L S M = ai_const 9 140 (am_run (c_Reader_readList s_Reader_fault s_Tokens_sortOf s_Reader_add s_Reader_readDatum s_Nodes_setHead s_Reader_readDotted s_Nodes_setTail) k_Reader_readList J K n) K 138 L S M := by rfl
set_option maxRecDepth 20000 in
theorem r_Reader_readList_140 {s_Reader_fault : aS} {s_Tokens_sortOf : aS} {s_Reader_add : aS} {s_Reader_readDatum : aS} {s_Nodes_setHead : aS} {s_Reader_readDotted : aS} {s_Nodes_setTail : aS} {J : aJ} {K : aR} {n : Nat} {L : aL} {S : List Value} {M : aM} : am_run (c_Reader_readList s_Reader_fault s_Tokens_sortOf s_Reader_add s_Reader_readDatum s_Nodes_setHead s_Reader_readDotted s_Nodes_setTail) k_Reader_readList J K (n + 1) 140 L S M = ai_cmpne 187 143 (am_run (c_Reader_readList s_Reader_fault s_Tokens_sortOf s_Reader_add s_Reader_readDatum s_Nodes_setHead s_Reader_readDotted s_Nodes_setTail) k_Reader_readList J K n) K 140 L S M := by rfl
set_option maxRecDepth 20000 in
theorem r_Reader_readList_143 {s_Reader_fault : aS} {s_Tokens_sortOf : aS} {s_Reader_add : aS} {s_Reader_readDatum : aS} {s_Nodes_setHead : aS} {s_Reader_readDotted : aS} {s_Nodes_setTail : aS} {J : aJ} {K : aR} {n : Nat} {L : aL} {S : List Value} {M : aM} : am_run (c_Reader_readList s_Reader_fault s_Tokens_sortOf s_Reader_add s_Reader_readDatum s_Nodes_setHead s_Reader_readDotted s_Nodes_setTail) k_Reader_readList J K (n + 1) 143 L S M = ai_iload 6 145 (am_run (c_Reader_readList s_Reader_fault s_Tokens_sortOf s_Reader_add s_Reader_readDatum s_Nodes_setHead s_Reader_readDotted s_Nodes_setTail) k_Reader_readList J K n) K 143 L S M := by rfl
set_option maxRecDepth 20000 in
theorem r_Reader_readList_145 {s_Reader_fault : aS} {s_Tokens_sortOf : aS} {s_Reader_add : aS} {s_Reader_readDatum : aS} {s_Nodes_setHead : aS} {s_Reader_readDotted : aS} {s_Nodes_setTail : aS} {J : aJ} {K : aR} {n : Nat} {L : aL} {S : List Value} {M : aM} : am_run (c_Reader_readList s_Reader_fault s_Tokens_sortOf s_Reader_add s_Reader_readDatum s_Nodes_setHead s_Reader_readDotted s_Nodes_setTail) k_Reader_readList J K (n + 1) 145 L S M = ai_const 7 147 (am_run (c_Reader_readList s_Reader_fault s_Tokens_sortOf s_Reader_add s_Reader_readDatum s_Nodes_setHead s_Reader_readDotted s_Nodes_setTail) k_Reader_readList J K n) K 145 L S M := by rfl
set_option maxRecDepth 20000 in
theorem r_Reader_readList_147 {s_Reader_fault : aS} {s_Tokens_sortOf : aS} {s_Reader_add : aS} {s_Reader_readDatum : aS} {s_Nodes_setHead : aS} {s_Reader_readDotted : aS} {s_Nodes_setTail : aS} {J : aJ} {K : aR} {n : Nat} {L : aL} {S : List Value} {M : aM} : am_run (c_Reader_readList s_Reader_fault s_Tokens_sortOf s_Reader_add s_Reader_readDatum s_Nodes_setHead s_Reader_readDotted s_Nodes_setTail) k_Reader_readList J K (n + 1) 147 L S M = ai_cmpne 158 150 (am_run (c_Reader_readList s_Reader_fault s_Tokens_sortOf s_Reader_add s_Reader_readDatum s_Nodes_setHead s_Reader_readDotted s_Nodes_setTail) k_Reader_readList J K n) K 147 L S M := by rfl
set_option maxRecDepth 20000 in
theorem r_Reader_readList_150 {s_Reader_fault : aS} {s_Tokens_sortOf : aS} {s_Reader_add : aS} {s_Reader_readDatum : aS} {s_Nodes_setHead : aS} {s_Reader_readDotted : aS} {s_Nodes_setTail : aS} {J : aJ} {K : aR} {n : Nat} {L : aL} {S : List Value} {M : aM} : am_run (c_Reader_readList s_Reader_fault s_Tokens_sortOf s_Reader_add s_Reader_readDatum s_Nodes_setHead s_Reader_readDotted s_Nodes_setTail) k_Reader_readList J K (n + 1) 150 L S M = ai_aload 0 151 (am_run (c_Reader_readList s_Reader_fault s_Tokens_sortOf s_Reader_add s_Reader_readDatum s_Nodes_setHead s_Reader_readDotted s_Nodes_setTail) k_Reader_readList J K n) K 150 L S M := by rfl
set_option maxRecDepth 20000 in
theorem r_Reader_readList_151 {s_Reader_fault : aS} {s_Tokens_sortOf : aS} {s_Reader_add : aS} {s_Reader_readDatum : aS} {s_Nodes_setHead : aS} {s_Reader_readDotted : aS} {s_Nodes_setTail : aS} {J : aJ} {K : aR} {n : Nat} {L : aL} {S : List Value} {M : aM} : am_run (c_Reader_readList s_Reader_fault s_Tokens_sortOf s_Reader_add s_Reader_readDatum s_Nodes_setHead s_Reader_readDotted s_Nodes_setTail) k_Reader_readList J K (n + 1) 151 L S M = ai_const 5 152 (am_run (c_Reader_readList s_Reader_fault s_Tokens_sortOf s_Reader_add s_Reader_readDatum s_Nodes_setHead s_Reader_readDotted s_Nodes_setTail) k_Reader_readList J K n) K 151 L S M := by rfl
set_option maxRecDepth 20000 in
theorem r_Reader_readList_152 {s_Reader_fault : aS} {s_Tokens_sortOf : aS} {s_Reader_add : aS} {s_Reader_readDatum : aS} {s_Nodes_setHead : aS} {s_Reader_readDotted : aS} {s_Nodes_setTail : aS} {J : aJ} {K : aR} {n : Nat} {L : aL} {S : List Value} {M : aM} : am_run (c_Reader_readList s_Reader_fault s_Tokens_sortOf s_Reader_add s_Reader_readDatum s_Nodes_setHead s_Reader_readDotted s_Nodes_setTail) k_Reader_readList J K (n + 1) 152 L S M = ai_callv2 1 s_Reader_add 155 (am_run (c_Reader_readList s_Reader_fault s_Tokens_sortOf s_Reader_add s_Reader_readDatum s_Nodes_setHead s_Reader_readDotted s_Nodes_setTail) k_Reader_readList J K n) K 152 L S M := by rfl
set_option maxRecDepth 20000 in
theorem r_Reader_readList_155 {s_Reader_fault : aS} {s_Tokens_sortOf : aS} {s_Reader_add : aS} {s_Reader_readDatum : aS} {s_Nodes_setHead : aS} {s_Reader_readDotted : aS} {s_Nodes_setTail : aS} {J : aJ} {K : aR} {n : Nat} {L : aL} {S : List Value} {M : aM} : am_run (c_Reader_readList s_Reader_fault s_Tokens_sortOf s_Reader_add s_Reader_readDatum s_Nodes_setHead s_Reader_readDotted s_Nodes_setTail) k_Reader_readList J K (n + 1) 155 L S M = ai_goto 163 (am_run (c_Reader_readList s_Reader_fault s_Tokens_sortOf s_Reader_add s_Reader_readDatum s_Nodes_setHead s_Reader_readDotted s_Nodes_setTail) k_Reader_readList J K n) K 155 L S M := by rfl
set_option maxRecDepth 20000 in
theorem r_Reader_readList_158 {s_Reader_fault : aS} {s_Tokens_sortOf : aS} {s_Reader_add : aS} {s_Reader_readDatum : aS} {s_Nodes_setHead : aS} {s_Reader_readDotted : aS} {s_Nodes_setTail : aS} {J : aJ} {K : aR} {n : Nat} {L : aL} {S : List Value} {M : aM} : am_run (c_Reader_readList s_Reader_fault s_Tokens_sortOf s_Reader_add s_Reader_readDatum s_Nodes_setHead s_Reader_readDotted s_Nodes_setTail) k_Reader_readList J K (n + 1) 158 L S M = ai_aload 0 159 (am_run (c_Reader_readList s_Reader_fault s_Tokens_sortOf s_Reader_add s_Reader_readDatum s_Nodes_setHead s_Reader_readDotted s_Nodes_setTail) k_Reader_readList J K n) K 158 L S M := by rfl
set_option maxRecDepth 20000 in
theorem r_Reader_readList_159 {s_Reader_fault : aS} {s_Tokens_sortOf : aS} {s_Reader_add : aS} {s_Reader_readDatum : aS} {s_Nodes_setHead : aS} {s_Reader_readDotted : aS} {s_Nodes_setTail : aS} {J : aJ} {K : aR} {n : Nat} {L : aL} {S : List Value} {M : aM} : am_run (c_Reader_readList s_Reader_fault s_Tokens_sortOf s_Reader_add s_Reader_readDatum s_Nodes_setHead s_Reader_readDotted s_Nodes_setTail) k_Reader_readList J K (n + 1) 159 L S M = ai_iload 1 160 (am_run (c_Reader_readList s_Reader_fault s_Tokens_sortOf s_Reader_add s_Reader_readDatum s_Nodes_setHead s_Reader_readDotted s_Nodes_setTail) k_Reader_readList J K n) K 159 L S M := by rfl
set_option maxRecDepth 20000 in
theorem r_Reader_readList_160 {s_Reader_fault : aS} {s_Tokens_sortOf : aS} {s_Reader_add : aS} {s_Reader_readDatum : aS} {s_Nodes_setHead : aS} {s_Reader_readDotted : aS} {s_Nodes_setTail : aS} {J : aJ} {K : aR} {n : Nat} {L : aL} {S : List Value} {M : aM} : am_run (c_Reader_readList s_Reader_fault s_Tokens_sortOf s_Reader_add s_Reader_readDatum s_Nodes_setHead s_Reader_readDotted s_Nodes_setTail) k_Reader_readList J K (n + 1) 160 L S M = ai_callv2 1 s_Reader_readDotted 163 (am_run (c_Reader_readList s_Reader_fault s_Tokens_sortOf s_Reader_add s_Reader_readDatum s_Nodes_setHead s_Reader_readDotted s_Nodes_setTail) k_Reader_readList J K n) K 160 L S M := by rfl
set_option maxRecDepth 20000 in
theorem r_Reader_readList_163 {s_Reader_fault : aS} {s_Tokens_sortOf : aS} {s_Reader_add : aS} {s_Reader_readDatum : aS} {s_Nodes_setHead : aS} {s_Reader_readDotted : aS} {s_Nodes_setTail : aS} {J : aJ} {K : aR} {n : Nat} {L : aL} {S : List Value} {M : aM} : am_run (c_Reader_readList s_Reader_fault s_Tokens_sortOf s_Reader_add s_Reader_readDatum s_Nodes_setHead s_Reader_readDotted s_Nodes_setTail) k_Reader_readList J K (n + 1) 163 L S M = ai_istore 7 165 (am_run (c_Reader_readList s_Reader_fault s_Tokens_sortOf s_Reader_add s_Reader_readDatum s_Nodes_setHead s_Reader_readDotted s_Nodes_setTail) k_Reader_readList J K n) K 163 L S M := by rfl
set_option maxRecDepth 20000 in
theorem r_Reader_readList_165 {s_Reader_fault : aS} {s_Tokens_sortOf : aS} {s_Reader_add : aS} {s_Reader_readDatum : aS} {s_Nodes_setHead : aS} {s_Reader_readDotted : aS} {s_Nodes_setTail : aS} {J : aJ} {K : aR} {n : Nat} {L : aL} {S : List Value} {M : aM} : am_run (c_Reader_readList s_Reader_fault s_Tokens_sortOf s_Reader_add s_Reader_readDatum s_Nodes_setHead s_Reader_readDotted s_Nodes_setTail) k_Reader_readList J K (n + 1) 165 L S M = ai_aload 0 166 (am_run (c_Reader_readList s_Reader_fault s_Tokens_sortOf s_Reader_add s_Reader_readDatum s_Nodes_setHead s_Reader_readDotted s_Nodes_setTail) k_Reader_readList J K n) K 165 L S M := by rfl
set_option maxRecDepth 20000 in
theorem r_Reader_readList_166 {s_Reader_fault : aS} {s_Tokens_sortOf : aS} {s_Reader_add : aS} {s_Reader_readDatum : aS} {s_Nodes_setHead : aS} {s_Reader_readDotted : aS} {s_Nodes_setTail : aS} {J : aJ} {K : aR} {n : Nat} {L : aL} {S : List Value} {M : aM} : am_run (c_Reader_readList s_Reader_fault s_Tokens_sortOf s_Reader_add s_Reader_readDatum s_Nodes_setHead s_Reader_readDotted s_Nodes_setTail) k_Reader_readList J K (n + 1) 166 L S M = ai_getf 1 1 169 (am_run (c_Reader_readList s_Reader_fault s_Tokens_sortOf s_Reader_add s_Reader_readDatum s_Nodes_setHead s_Reader_readDotted s_Nodes_setTail) k_Reader_readList J K n) K 166 L S M := by rfl
set_option maxRecDepth 20000 in
theorem r_Reader_readList_169 {s_Reader_fault : aS} {s_Tokens_sortOf : aS} {s_Reader_add : aS} {s_Reader_readDatum : aS} {s_Nodes_setHead : aS} {s_Reader_readDotted : aS} {s_Nodes_setTail : aS} {J : aJ} {K : aR} {n : Nat} {L : aL} {S : List Value} {M : aM} : am_run (c_Reader_readList s_Reader_fault s_Tokens_sortOf s_Reader_add s_Reader_readDatum s_Nodes_setHead s_Reader_readDotted s_Nodes_setTail) k_Reader_readList J K (n + 1) 169 L S M = ai_iload 3 170 (am_run (c_Reader_readList s_Reader_fault s_Tokens_sortOf s_Reader_add s_Reader_readDatum s_Nodes_setHead s_Reader_readDotted s_Nodes_setTail) k_Reader_readList J K n) K 169 L S M := by rfl
set_option maxRecDepth 20000 in
theorem r_Reader_readList_170 {s_Reader_fault : aS} {s_Tokens_sortOf : aS} {s_Reader_add : aS} {s_Reader_readDatum : aS} {s_Nodes_setHead : aS} {s_Reader_readDotted : aS} {s_Nodes_setTail : aS} {J : aJ} {K : aR} {n : Nat} {L : aL} {S : List Value} {M : aM} : am_run (c_Reader_readList s_Reader_fault s_Tokens_sortOf s_Reader_add s_Reader_readDatum s_Nodes_setHead s_Reader_readDotted s_Nodes_setTail) k_Reader_readList J K (n + 1) 170 L S M = ai_iload 7 172 (am_run (c_Reader_readList s_Reader_fault s_Tokens_sortOf s_Reader_add s_Reader_readDatum s_Nodes_setHead s_Reader_readDotted s_Nodes_setTail) k_Reader_readList J K n) K 170 L S M := by rfl
set_option maxRecDepth 20000 in
theorem r_Reader_readList_172 {s_Reader_fault : aS} {s_Tokens_sortOf : aS} {s_Reader_add : aS} {s_Reader_readDatum : aS} {s_Nodes_setHead : aS} {s_Reader_readDotted : aS} {s_Nodes_setTail : aS} {J : aJ} {K : aR} {n : Nat} {L : aL} {S : List Value} {M : aM} : am_run (c_Reader_readList s_Reader_fault s_Tokens_sortOf s_Reader_add s_Reader_readDatum s_Nodes_setHead s_Reader_readDotted s_Nodes_setTail) k_Reader_readList J K (n + 1) 172 L S M = ai_callv3 0 s_Nodes_setTail 175 (am_run (c_Reader_readList s_Reader_fault s_Tokens_sortOf s_Reader_add s_Reader_readDatum s_Nodes_setHead s_Reader_readDotted s_Nodes_setTail) k_Reader_readList J K n) K 172 L S M := by rfl
set_option maxRecDepth 20000 in
theorem r_Reader_readList_175 {s_Reader_fault : aS} {s_Tokens_sortOf : aS} {s_Reader_add : aS} {s_Reader_readDatum : aS} {s_Nodes_setHead : aS} {s_Reader_readDotted : aS} {s_Nodes_setTail : aS} {J : aJ} {K : aR} {n : Nat} {L : aL} {S : List Value} {M : aM} : am_run (c_Reader_readList s_Reader_fault s_Tokens_sortOf s_Reader_add s_Reader_readDatum s_Nodes_setHead s_Reader_readDotted s_Nodes_setTail) k_Reader_readList J K (n + 1) 175 L S M = ai_iload 7 177 (am_run (c_Reader_readList s_Reader_fault s_Tokens_sortOf s_Reader_add s_Reader_readDatum s_Nodes_setHead s_Reader_readDotted s_Nodes_setTail) k_Reader_readList J K n) K 175 L S M := by rfl
set_option maxRecDepth 20000 in
theorem r_Reader_readList_177 {s_Reader_fault : aS} {s_Tokens_sortOf : aS} {s_Reader_add : aS} {s_Reader_readDatum : aS} {s_Nodes_setHead : aS} {s_Reader_readDotted : aS} {s_Nodes_setTail : aS} {J : aJ} {K : aR} {n : Nat} {L : aL} {S : List Value} {M : aM} : am_run (c_Reader_readList s_Reader_fault s_Tokens_sortOf s_Reader_add s_Reader_readDatum s_Nodes_setHead s_Reader_readDotted s_Nodes_setTail) k_Reader_readList J K (n + 1) 177 L S M = ai_const (-1) 178 (am_run (c_Reader_readList s_Reader_fault s_Tokens_sortOf s_Reader_add s_Reader_readDatum s_Nodes_setHead s_Reader_readDotted s_Nodes_setTail) k_Reader_readList J K n) K 177 L S M := by rfl
set_option maxRecDepth 20000 in
theorem r_Reader_readList_178 {s_Reader_fault : aS} {s_Tokens_sortOf : aS} {s_Reader_add : aS} {s_Reader_readDatum : aS} {s_Nodes_setHead : aS} {s_Reader_readDotted : aS} {s_Nodes_setTail : aS} {J : aJ} {K : aR} {n : Nat} {L : aL} {S : List Value} {M : aM} : am_run (c_Reader_readList s_Reader_fault s_Tokens_sortOf s_Reader_add s_Reader_readDatum s_Nodes_setHead s_Reader_readDotted s_Nodes_setTail) k_Reader_readList J K (n + 1) 178 L S M = ai_cmpne 185 181 (am_run (c_Reader_readList s_Reader_fault s_Tokens_sortOf s_Reader_add s_Reader_readDatum s_Nodes_setHead s_Reader_readDotted s_Nodes_setTail) k_Reader_readList J K n) K 178 L S M := by rfl
set_option maxRecDepth 20000 in
theorem r_Reader_readList_181 {s_Reader_fault : aS} {s_Tokens_sortOf : aS} {s_Reader_add : aS} {s_Reader_readDatum : aS} {s_Nodes_setHead : aS} {s_Reader_readDotted : aS} {s_Nodes_setTail : aS} {J : aJ} {K : aR} {n : Nat} {L : aL} {S : List Value} {M : aM} : am_run (c_Reader_readList s_Reader_fault s_Tokens_sortOf s_Reader_add s_Reader_readDatum s_Nodes_setHead s_Reader_readDotted s_Nodes_setTail) k_Reader_readList J K (n + 1) 181 L S M = ai_const (-1) 182 (am_run (c_Reader_readList s_Reader_fault s_Tokens_sortOf s_Reader_add s_Reader_readDatum s_Nodes_setHead s_Reader_readDotted s_Nodes_setTail) k_Reader_readList J K n) K 181 L S M := by rfl
set_option maxRecDepth 20000 in
theorem r_Reader_readList_182 {s_Reader_fault : aS} {s_Tokens_sortOf : aS} {s_Reader_add : aS} {s_Reader_readDatum : aS} {s_Nodes_setHead : aS} {s_Reader_readDotted : aS} {s_Nodes_setTail : aS} {J : aJ} {K : aR} {n : Nat} {L : aL} {S : List Value} {M : aM} : am_run (c_Reader_readList s_Reader_fault s_Tokens_sortOf s_Reader_add s_Reader_readDatum s_Nodes_setHead s_Reader_readDotted s_Nodes_setTail) k_Reader_readList J K (n + 1) 182 L S M = ai_goto 186 (am_run (c_Reader_readList s_Reader_fault s_Tokens_sortOf s_Reader_add s_Reader_readDatum s_Nodes_setHead s_Reader_readDotted s_Nodes_setTail) k_Reader_readList J K n) K 182 L S M := by rfl
set_option maxRecDepth 20000 in
theorem r_Reader_readList_185 {s_Reader_fault : aS} {s_Tokens_sortOf : aS} {s_Reader_add : aS} {s_Reader_readDatum : aS} {s_Nodes_setHead : aS} {s_Reader_readDotted : aS} {s_Nodes_setTail : aS} {J : aJ} {K : aR} {n : Nat} {L : aL} {S : List Value} {M : aM} : am_run (c_Reader_readList s_Reader_fault s_Tokens_sortOf s_Reader_add s_Reader_readDatum s_Nodes_setHead s_Reader_readDotted s_Nodes_setTail) k_Reader_readList J K (n + 1) 185 L S M = ai_iload 2 186 (am_run (c_Reader_readList s_Reader_fault s_Tokens_sortOf s_Reader_add s_Reader_readDatum s_Nodes_setHead s_Reader_readDotted s_Nodes_setTail) k_Reader_readList J K n) K 185 L S M := by rfl
set_option maxRecDepth 20000 in
theorem r_Reader_readList_186 {s_Reader_fault : aS} {s_Tokens_sortOf : aS} {s_Reader_add : aS} {s_Reader_readDatum : aS} {s_Nodes_setHead : aS} {s_Reader_readDotted : aS} {s_Nodes_setTail : aS} {J : aJ} {K : aR} {n : Nat} {L : aL} {S : List Value} {M : aM} : am_run (c_Reader_readList s_Reader_fault s_Tokens_sortOf s_Reader_add s_Reader_readDatum s_Nodes_setHead s_Reader_readDotted s_Nodes_setTail) k_Reader_readList J K (n + 1) 186 L S M = ai_iret (am_run (c_Reader_readList s_Reader_fault s_Tokens_sortOf s_Reader_add s_Reader_readDatum s_Nodes_setHead s_Reader_readDotted s_Nodes_setTail) k_Reader_readList J K n) K 186 L S M := by rfl
set_option maxRecDepth 20000 in
theorem r_Reader_readList_187 {s_Reader_fault : aS} {s_Tokens_sortOf : aS} {s_Reader_add : aS} {s_Reader_readDatum : aS} {s_Nodes_setHead : aS} {s_Reader_readDotted : aS} {s_Nodes_setTail : aS} {J : aJ} {K : aR} {n : Nat} {L : aL} {S : List Value} {M : aM} : am_run (c_Reader_readList s_Reader_fault s_Tokens_sortOf s_Reader_add s_Reader_readDatum s_Nodes_setHead s_Reader_readDotted s_Nodes_setTail) k_Reader_readList J K (n + 1) 187 L S M = ai_aload 0 188 (am_run (c_Reader_readList s_Reader_fault s_Tokens_sortOf s_Reader_add s_Reader_readDatum s_Nodes_setHead s_Reader_readDotted s_Nodes_setTail) k_Reader_readList J K n) K 187 L S M := by rfl
set_option maxRecDepth 20000 in
theorem r_Reader_readList_188 {s_Reader_fault : aS} {s_Tokens_sortOf : aS} {s_Reader_add : aS} {s_Reader_readDatum : aS} {s_Nodes_setHead : aS} {s_Reader_readDotted : aS} {s_Nodes_setTail : aS} {J : aJ} {K : aR} {n : Nat} {L : aL} {S : List Value} {M : aM} : am_run (c_Reader_readList s_Reader_fault s_Tokens_sortOf s_Reader_add s_Reader_readDatum s_Nodes_setHead s_Reader_readDotted s_Nodes_setTail) k_Reader_readList J K (n + 1) 188 L S M = ai_const 4 189 (am_run (c_Reader_readList s_Reader_fault s_Tokens_sortOf s_Reader_add s_Reader_readDatum s_Nodes_setHead s_Reader_readDotted s_Nodes_setTail) k_Reader_readList J K n) K 188 L S M := by rfl
set_option maxRecDepth 20000 in
theorem r_Reader_readList_189 {s_Reader_fault : aS} {s_Tokens_sortOf : aS} {s_Reader_add : aS} {s_Reader_readDatum : aS} {s_Nodes_setHead : aS} {s_Reader_readDotted : aS} {s_Nodes_setTail : aS} {J : aJ} {K : aR} {n : Nat} {L : aL} {S : List Value} {M : aM} : am_run (c_Reader_readList s_Reader_fault s_Tokens_sortOf s_Reader_add s_Reader_readDatum s_Nodes_setHead s_Reader_readDotted s_Nodes_setTail) k_Reader_readList J K (n + 1) 189 L S M = ai_callv2 1 s_Reader_add 192 (am_run (c_Reader_readList s_Reader_fault s_Tokens_sortOf s_Reader_add s_Reader_readDatum s_Nodes_setHead s_Reader_readDotted s_Nodes_setTail) k_Reader_readList J K n) K 189 L S M := by rfl
set_option maxRecDepth 20000 in
theorem r_Reader_readList_192 {s_Reader_fault : aS} {s_Tokens_sortOf : aS} {s_Reader_add : aS} {s_Reader_readDatum : aS} {s_Nodes_setHead : aS} {s_Reader_readDotted : aS} {s_Nodes_setTail : aS} {J : aJ} {K : aR} {n : Nat} {L : aL} {S : List Value} {M : aM} : am_run (c_Reader_readList s_Reader_fault s_Tokens_sortOf s_Reader_add s_Reader_readDatum s_Nodes_setHead s_Reader_readDotted s_Nodes_setTail) k_Reader_readList J K (n + 1) 192 L S M = ai_istore 7 194 (am_run (c_Reader_readList s_Reader_fault s_Tokens_sortOf s_Reader_add s_Reader_readDatum s_Nodes_setHead s_Reader_readDotted s_Nodes_setTail) k_Reader_readList J K n) K 192 L S M := by rfl
set_option maxRecDepth 20000 in
theorem r_Reader_readList_194 {s_Reader_fault : aS} {s_Tokens_sortOf : aS} {s_Reader_add : aS} {s_Reader_readDatum : aS} {s_Nodes_setHead : aS} {s_Reader_readDotted : aS} {s_Nodes_setTail : aS} {J : aJ} {K : aR} {n : Nat} {L : aL} {S : List Value} {M : aM} : am_run (c_Reader_readList s_Reader_fault s_Tokens_sortOf s_Reader_add s_Reader_readDatum s_Nodes_setHead s_Reader_readDotted s_Nodes_setTail) k_Reader_readList J K (n + 1) 194 L S M = ai_aload 0 195 (am_run (c_Reader_readList s_Reader_fault s_Tokens_sortOf s_Reader_add s_Reader_readDatum s_Nodes_setHead s_Reader_readDotted s_Nodes_setTail) k_Reader_readList J K n) K 194 L S M := by rfl
set_option maxRecDepth 20000 in
theorem r_Reader_readList_195 {s_Reader_fault : aS} {s_Tokens_sortOf : aS} {s_Reader_add : aS} {s_Reader_readDatum : aS} {s_Nodes_setHead : aS} {s_Reader_readDotted : aS} {s_Nodes_setTail : aS} {J : aJ} {K : aR} {n : Nat} {L : aL} {S : List Value} {M : aM} : am_run (c_Reader_readList s_Reader_fault s_Tokens_sortOf s_Reader_add s_Reader_readDatum s_Nodes_setHead s_Reader_readDotted s_Nodes_setTail) k_Reader_readList J K (n + 1) 195 L S M = ai_getf 1 1 198 (am_run (c_Reader_readList s_Reader_fault s_Tokens_sortOf s_Reader_add s_Reader_readDatum s_Nodes_setHead s_Reader_readDotted s_Nodes_setTail) k_Reader_readList J K n) K 195 L S M := by rfl
set_option maxRecDepth 20000 in
theorem r_Reader_readList_198 {s_Reader_fault : aS} {s_Tokens_sortOf : aS} {s_Reader_add : aS} {s_Reader_readDatum : aS} {s_Nodes_setHead : aS} {s_Reader_readDotted : aS} {s_Nodes_setTail : aS} {J : aJ} {K : aR} {n : Nat} {L : aL} {S : List Value} {M : aM} : am_run (c_Reader_readList s_Reader_fault s_Tokens_sortOf s_Reader_add s_Reader_readDatum s_Nodes_setHead s_Reader_readDotted s_Nodes_setTail) k_Reader_readList J K (n + 1) 198 L S M = ai_iload 3 199 (am_run (c_Reader_readList s_Reader_fault s_Tokens_sortOf s_Reader_add s_Reader_readDatum s_Nodes_setHead s_Reader_readDotted s_Nodes_setTail) k_Reader_readList J K n) K 198 L S M := by rfl
set_option maxRecDepth 20000 in
theorem r_Reader_readList_199 {s_Reader_fault : aS} {s_Tokens_sortOf : aS} {s_Reader_add : aS} {s_Reader_readDatum : aS} {s_Nodes_setHead : aS} {s_Reader_readDotted : aS} {s_Nodes_setTail : aS} {J : aJ} {K : aR} {n : Nat} {L : aL} {S : List Value} {M : aM} : am_run (c_Reader_readList s_Reader_fault s_Tokens_sortOf s_Reader_add s_Reader_readDatum s_Nodes_setHead s_Reader_readDotted s_Nodes_setTail) k_Reader_readList J K (n + 1) 199 L S M = ai_iload 7 201 (am_run (c_Reader_readList s_Reader_fault s_Tokens_sortOf s_Reader_add s_Reader_readDatum s_Nodes_setHead s_Reader_readDotted s_Nodes_setTail) k_Reader_readList J K n) K 199 L S M := by rfl
set_option maxRecDepth 20000 in
theorem r_Reader_readList_201 {s_Reader_fault : aS} {s_Tokens_sortOf : aS} {s_Reader_add : aS} {s_Reader_readDatum : aS} {s_Nodes_setHead : aS} {s_Reader_readDotted : aS} {s_Nodes_setTail : aS} {J : aJ} {K : aR} {n : Nat} {L : aL} {S : List Value} {M : aM} : am_run (c_Reader_readList s_Reader_fault s_Tokens_sortOf s_Reader_add s_Reader_readDatum s_Nodes_setHead s_Reader_readDotted s_Nodes_setTail) k_Reader_readList J K (n + 1) 201 L S M = ai_callv3 0 s_Nodes_setTail 204 (am_run (c_Reader_readList s_Reader_fault s_Tokens_sortOf s_Reader_add s_Reader_readDatum s_Nodes_setHead s_Reader_readDotted s_Nodes_setTail) k_Reader_readList J K n) K 201 L S M := by rfl
set_option maxRecDepth 20000 in
theorem r_Reader_readList_204 {s_Reader_fault : aS} {s_Tokens_sortOf : aS} {s_Reader_add : aS} {s_Reader_readDatum : aS} {s_Nodes_setHead : aS} {s_Reader_readDotted : aS} {s_Nodes_setTail : aS} {J : aJ} {K : aR} {n : Nat} {L : aL} {S : List Value} {M : aM} : am_run (c_Reader_readList s_Reader_fault s_Tokens_sortOf s_Reader_add s_Reader_readDatum s_Nodes_setHead s_Reader_readDotted s_Nodes_setTail) k_Reader_readList J K (n + 1) 204 L S M = ai_iload 7 206 (am_run (c_Reader_readList s_Reader_fault s_Tokens_sortOf s_Reader_add s_Reader_readDatum s_Nodes_setHead s_Reader_readDotted s_Nodes_setTail) k_Reader_readList J K n) K 204 L S M := by rfl
set_option maxRecDepth 20000 in
theorem r_Reader_readList_206 {s_Reader_fault : aS} {s_Tokens_sortOf : aS} {s_Reader_add : aS} {s_Reader_readDatum : aS} {s_Nodes_setHead : aS} {s_Reader_readDotted : aS} {s_Nodes_setTail : aS} {J : aJ} {K : aR} {n : Nat} {L : aL} {S : List Value} {M : aM} : am_run (c_Reader_readList s_Reader_fault s_Tokens_sortOf s_Reader_add s_Reader_readDatum s_Nodes_setHead s_Reader_readDotted s_Nodes_setTail) k_Reader_readList J K (n + 1) 206 L S M = ai_istore 3 207 (am_run (c_Reader_readList s_Reader_fault s_Tokens_sortOf s_Reader_add s_Reader_readDatum s_Nodes_setHead s_Reader_readDotted s_Nodes_setTail) k_Reader_readList J K n) K 206 L S M := by rfl
set_option maxRecDepth 20000 in
theorem r_Reader_readList_207 {s_Reader_fault : aS} {s_Tokens_sortOf : aS} {s_Reader_add : aS} {s_Reader_readDatum : aS} {s_Nodes_setHead : aS} {s_Reader_readDotted : aS} {s_Nodes_setTail : aS} {J : aJ} {K : aR} {n : Nat} {L : aL} {S : List Value} {M : aM} : am_run (c_Reader_readList s_Reader_fault s_Tokens_sortOf s_Reader_add s_Reader_readDatum s_Nodes_setHead s_Reader_readDotted s_Nodes_setTail) k_Reader_readList J K (n + 1) 207 L S M = ai_iinc 4 1 210 (am_run (c_Reader_readList s_Reader_fault s_Tokens_sortOf s_Reader_add s_Reader_readDatum s_Nodes_setHead s_Reader_readDotted s_Nodes_setTail) k_Reader_readList J K n) K 207 L S M := by rfl
set_option maxRecDepth 20000 in
theorem r_Reader_readList_210 {s_Reader_fault : aS} {s_Tokens_sortOf : aS} {s_Reader_add : aS} {s_Reader_readDatum : aS} {s_Nodes_setHead : aS} {s_Reader_readDotted : aS} {s_Nodes_setTail : aS} {J : aJ} {K : aR} {n : Nat} {L : aL} {S : List Value} {M : aM} : am_run (c_Reader_readList s_Reader_fault s_Tokens_sortOf s_Reader_add s_Reader_readDatum s_Nodes_setHead s_Reader_readDotted s_Nodes_setTail) k_Reader_readList J K (n + 1) 210 L S M = ai_goto 66 (am_run (c_Reader_readList s_Reader_fault s_Tokens_sortOf s_Reader_add s_Reader_readDatum s_Nodes_setHead s_Reader_readDotted s_Nodes_setTail) k_Reader_readList J K n) K 210 L S M := by rfl
set_option maxRecDepth 20000 in
theorem r_Reader_readList_213 {s_Reader_fault : aS} {s_Tokens_sortOf : aS} {s_Reader_add : aS} {s_Reader_readDatum : aS} {s_Nodes_setHead : aS} {s_Reader_readDotted : aS} {s_Nodes_setTail : aS} {J : aJ} {K : aR} {n : Nat} {L : aL} {S : List Value} {M : aM} : am_run (c_Reader_readList s_Reader_fault s_Tokens_sortOf s_Reader_add s_Reader_readDatum s_Nodes_setHead s_Reader_readDotted s_Nodes_setTail) k_Reader_readList J K (n + 1) 213 L S M = ai_const (-1) 214 (am_run (c_Reader_readList s_Reader_fault s_Tokens_sortOf s_Reader_add s_Reader_readDatum s_Nodes_setHead s_Reader_readDotted s_Nodes_setTail) k_Reader_readList J K n) K 213 L S M := by rfl
set_option maxRecDepth 20000 in
theorem r_Reader_readList_214 {s_Reader_fault : aS} {s_Tokens_sortOf : aS} {s_Reader_add : aS} {s_Reader_readDatum : aS} {s_Nodes_setHead : aS} {s_Reader_readDotted : aS} {s_Nodes_setTail : aS} {J : aJ} {K : aR} {n : Nat} {L : aL} {S : List Value} {M : aM} : am_run (c_Reader_readList s_Reader_fault s_Tokens_sortOf s_Reader_add s_Reader_readDatum s_Nodes_setHead s_Reader_readDotted s_Nodes_setTail) k_Reader_readList J K (n + 1) 214 L S M = ai_iret (am_run (c_Reader_readList s_Reader_fault s_Tokens_sortOf s_Reader_add s_Reader_readDatum s_Nodes_setHead s_Reader_readDotted s_Nodes_setTail) k_Reader_readList J K n) K 214 L S M := by rfl
def c_Reader_readDotted (s_Reader_readDatum : aS) (s_Tokens_sortOf : aS) (s_Reader_fault : aS) : List (Nat × aI) := [
  (0, ai_aload 0 1),
  (1, ai_dup 2),
  (2, ai_getf 1 3 5),
  (5, ai_const 1 6),
  (6, ai_iadd 7),
  (7, ai_putf 1 3 10),
  (10, ai_aload 0 11),
  (11, ai_iload 1 12),
  (12, ai_const 1 13),
  (13, ai_iadd 14),
  (14, ai_callv2 1 s_Reader_readDatum 17),
  (17, ai_istore 2 18),
  (18, ai_iload 2 19),
  (19, ai_const (-1) 20),
  (20, ai_cmpne 25 23),
  (23, ai_const (-1) 24),
  (24, ai_iret),
  (25, ai_aload 0 26),
  (26, ai_dup 27),
  (27, ai_getf 1 3 30),
  (30, ai_const 1 31),
  (31, ai_iadd 32),
  (32, ai_putf 1 3 35),
  (35, ai_aload 0 36),
  (36, ai_getf 1 2 39),
  (39, ai_aload 0 40),
  (40, ai_getf 1 3 43),
  (43, ai_callv2 3 s_Tokens_sortOf 46),
  (46, ai_const 7 48),
  (48, ai_cmpne 55 51),
  (51, ai_iload 2 52),
  (52, ai_goto 59),
  (55, ai_aload 0 56),
  (56, ai_callv1 1 s_Reader_fault 59),
  (59, ai_iret)]
set_option maxRecDepth 100000 in
set_option maxHeartbeats 4000000 in
theorem tb_Reader_readDotted {G : aG} {d : Nat} {s_Reader_readDatum : aS} {d_Reader_readDatum : Nat} (h_Reader_readDatum : am_Sp G Y_Reader_readDatum d_Reader_readDatum s_Reader_readDatum) (l_Reader_readDatum : d_Reader_readDatum < d) {s_Tokens_sortOf : aS} {d_Tokens_sortOf : Nat} (h_Tokens_sortOf : am_Sp G Y_Tokens_sortOf d_Tokens_sortOf s_Tokens_sortOf) (l_Tokens_sortOf : d_Tokens_sortOf < d) {s_Reader_fault : aS} {d_Reader_fault : Nat} (h_Reader_fault : am_Sp G Y_Reader_fault d_Reader_fault s_Reader_fault) (l_Reader_fault : d_Reader_fault < d) : am_tab G Y_Reader_readDotted d (c_Reader_readDotted s_Reader_readDatum s_Tokens_sortOf s_Reader_fault) := by
  intro K p e s m args below meth c C
  exact ⟨as_aload_n C (pc := 0) (q := 0) (by decide +kernel) rfl rfl,
    as_dup C (pc := 1) (by decide +kernel) rfl,
    as_getf C (pc := 2) (T := T_Reader) (N := 5) rfl in_Reader (by decide) rfl w_179 (by decide +kernel) rfl,
    as_iconst C (pc := 5) (n := 1) (by decide +kernel) (by decide +kernel) rfl,
    as_iadd C (pc := 6) (by decide +kernel) rfl,
    as_putf C (pc := 7) t_Reader (T := T_Reader) (N := 5) rfl in_Reader tok_Reader nm_Reader (by decide) rfl rfl (by decide +kernel) w_179 (by decide +kernel) rfl,
    as_aload_n C (pc := 10) (q := 0) (by decide +kernel) rfl rfl,
    as_iload_n C (pc := 11) (q := 1) (by decide +kernel) rfl rfl,
    as_iconst C (pc := 12) (n := 1) (by decide +kernel) (by decide +kernel) rfl,
    as_iadd C (pc := 13) (by decide +kernel) rfl,
    as_callv2 C (pc := 14) h_Reader_readDatum (T := T_Reader) (N := 5) rfl w_308 w_74 w_307 w_13 w_305 hy_Reader_readDatum (am_rm_of l_Reader_readDatum (by decide)) (by decide +kernel) rfl,
    as_istore_n C (pc := 17) (q := 2) (by decide +kernel) rfl (by decide) rfl,
    as_iload_n C (pc := 18) (q := 2) (by decide +kernel) rfl rfl,
    as_iconst C (pc := 19) (n := (-1)) (by decide +kernel) (by decide +kernel) rfl,
    as_cmpne C (pc := 20) (off := 5) (by decide +kernel) (by decide) rfl,
    as_iconst C (pc := 23) (n := (-1)) (by decide +kernel) (by decide +kernel) rfl,
    as_iret C (pc := 24) rfl (by decide +kernel),
    as_aload_n C (pc := 25) (q := 0) (by decide +kernel) rfl rfl,
    as_dup C (pc := 26) (by decide +kernel) rfl,
    as_getf C (pc := 27) (T := T_Reader) (N := 5) rfl in_Reader (by decide) rfl w_179 (by decide +kernel) rfl,
    as_iconst C (pc := 30) (n := 1) (by decide +kernel) (by decide +kernel) rfl,
    as_iadd C (pc := 31) (by decide +kernel) rfl,
    as_putf C (pc := 32) t_Reader (T := T_Reader) (N := 5) rfl in_Reader tok_Reader nm_Reader (by decide) rfl rfl (by decide +kernel) w_179 (by decide +kernel) rfl,
    as_aload_n C (pc := 35) (q := 0) (by decide +kernel) rfl rfl,
    as_getf C (pc := 36) (T := T_Reader) (N := 5) rfl in_Reader (by decide) rfl w_178 (by decide +kernel) rfl,
    as_aload_n C (pc := 39) (q := 0) (by decide +kernel) rfl rfl,
    as_getf C (pc := 40) (T := T_Reader) (N := 5) rfl in_Reader (by decide) rfl w_179 (by decide +kernel) rfl,
    as_callv2N C (pc := 43) h_Tokens_sortOf (T := T_Tokens) (N := 4) rfl w_304 w_75 w_303 w_12 w_301 hy_Tokens_sortOf (am_rm_of l_Tokens_sortOf (by decide)) (by decide +kernel) rfl,
    as_bipush C (pc := 46) (n := 7) (by decide +kernel) (by decide +kernel) rfl,
    as_cmpne C (pc := 48) (off := 7) (by decide +kernel) (by decide) rfl,
    as_iload_n C (pc := 51) (q := 2) (by decide +kernel) rfl rfl,
    as_goto C (pc := 52) (off := 7) (by decide +kernel) (by decide),
    as_aload_n C (pc := 55) (q := 0) (by decide +kernel) rfl rfl,
    as_callv1 C (pc := 56) h_Reader_fault (T := T_Reader) (N := 5) rfl w_333 w_74 w_332 w_19 w_330 hy_Reader_fault (am_rm_of l_Reader_fault (by decide)) (by decide +kernel) rfl,
    as_iret C (pc := 59) rfl (by decide +kernel), trivial⟩
abbrev k_Reader_readDotted : List Nat := []
theorem r_Reader_readDotted_0 {s_Reader_readDatum : aS} {s_Tokens_sortOf : aS} {s_Reader_fault : aS} {J : aJ} {K : aR} {n : Nat} {L : aL} {S : List Value} {M : aM} : am_run (c_Reader_readDotted s_Reader_readDatum s_Tokens_sortOf s_Reader_fault) k_Reader_readDotted J K (n + 1) 0 L S M = ai_aload 0 1 (am_run (c_Reader_readDotted s_Reader_readDatum s_Tokens_sortOf s_Reader_fault) k_Reader_readDotted J K n) K 0 L S M := by rfl
theorem r_Reader_readDotted_1 {s_Reader_readDatum : aS} {s_Tokens_sortOf : aS} {s_Reader_fault : aS} {J : aJ} {K : aR} {n : Nat} {L : aL} {S : List Value} {M : aM} : am_run (c_Reader_readDotted s_Reader_readDatum s_Tokens_sortOf s_Reader_fault) k_Reader_readDotted J K (n + 1) 1 L S M = ai_dup 2 (am_run (c_Reader_readDotted s_Reader_readDatum s_Tokens_sortOf s_Reader_fault) k_Reader_readDotted J K n) K 1 L S M := by rfl
theorem r_Reader_readDotted_2 {s_Reader_readDatum : aS} {s_Tokens_sortOf : aS} {s_Reader_fault : aS} {J : aJ} {K : aR} {n : Nat} {L : aL} {S : List Value} {M : aM} : am_run (c_Reader_readDotted s_Reader_readDatum s_Tokens_sortOf s_Reader_fault) k_Reader_readDotted J K (n + 1) 2 L S M = ai_getf 1 3 5 (am_run (c_Reader_readDotted s_Reader_readDatum s_Tokens_sortOf s_Reader_fault) k_Reader_readDotted J K n) K 2 L S M := by rfl
theorem r_Reader_readDotted_5 {s_Reader_readDatum : aS} {s_Tokens_sortOf : aS} {s_Reader_fault : aS} {J : aJ} {K : aR} {n : Nat} {L : aL} {S : List Value} {M : aM} : am_run (c_Reader_readDotted s_Reader_readDatum s_Tokens_sortOf s_Reader_fault) k_Reader_readDotted J K (n + 1) 5 L S M = ai_const 1 6 (am_run (c_Reader_readDotted s_Reader_readDatum s_Tokens_sortOf s_Reader_fault) k_Reader_readDotted J K n) K 5 L S M := by rfl
theorem r_Reader_readDotted_6 {s_Reader_readDatum : aS} {s_Tokens_sortOf : aS} {s_Reader_fault : aS} {J : aJ} {K : aR} {n : Nat} {L : aL} {S : List Value} {M : aM} : am_run (c_Reader_readDotted s_Reader_readDatum s_Tokens_sortOf s_Reader_fault) k_Reader_readDotted J K (n + 1) 6 L S M = ai_iadd 7 (am_run (c_Reader_readDotted s_Reader_readDatum s_Tokens_sortOf s_Reader_fault) k_Reader_readDotted J K n) K 6 L S M := by rfl
theorem r_Reader_readDotted_7 {s_Reader_readDatum : aS} {s_Tokens_sortOf : aS} {s_Reader_fault : aS} {J : aJ} {K : aR} {n : Nat} {L : aL} {S : List Value} {M : aM} : am_run (c_Reader_readDotted s_Reader_readDatum s_Tokens_sortOf s_Reader_fault) k_Reader_readDotted J K (n + 1) 7 L S M = ai_putf 1 3 10 (am_run (c_Reader_readDotted s_Reader_readDatum s_Tokens_sortOf s_Reader_fault) k_Reader_readDotted J K n) K 7 L S M := by rfl
theorem r_Reader_readDotted_10 {s_Reader_readDatum : aS} {s_Tokens_sortOf : aS} {s_Reader_fault : aS} {J : aJ} {K : aR} {n : Nat} {L : aL} {S : List Value} {M : aM} : am_run (c_Reader_readDotted s_Reader_readDatum s_Tokens_sortOf s_Reader_fault) k_Reader_readDotted J K (n + 1) 10 L S M = ai_aload 0 11 (am_run (c_Reader_readDotted s_Reader_readDatum s_Tokens_sortOf s_Reader_fault) k_Reader_readDotted J K n) K 10 L S M := by rfl
theorem r_Reader_readDotted_11 {s_Reader_readDatum : aS} {s_Tokens_sortOf : aS} {s_Reader_fault : aS} {J : aJ} {K : aR} {n : Nat} {L : aL} {S : List Value} {M : aM} : am_run (c_Reader_readDotted s_Reader_readDatum s_Tokens_sortOf s_Reader_fault) k_Reader_readDotted J K (n + 1) 11 L S M = ai_iload 1 12 (am_run (c_Reader_readDotted s_Reader_readDatum s_Tokens_sortOf s_Reader_fault) k_Reader_readDotted J K n) K 11 L S M := by rfl
theorem r_Reader_readDotted_12 {s_Reader_readDatum : aS} {s_Tokens_sortOf : aS} {s_Reader_fault : aS} {J : aJ} {K : aR} {n : Nat} {L : aL} {S : List Value} {M : aM} : am_run (c_Reader_readDotted s_Reader_readDatum s_Tokens_sortOf s_Reader_fault) k_Reader_readDotted J K (n + 1) 12 L S M = ai_const 1 13 (am_run (c_Reader_readDotted s_Reader_readDatum s_Tokens_sortOf s_Reader_fault) k_Reader_readDotted J K n) K 12 L S M := by rfl
theorem r_Reader_readDotted_13 {s_Reader_readDatum : aS} {s_Tokens_sortOf : aS} {s_Reader_fault : aS} {J : aJ} {K : aR} {n : Nat} {L : aL} {S : List Value} {M : aM} : am_run (c_Reader_readDotted s_Reader_readDatum s_Tokens_sortOf s_Reader_fault) k_Reader_readDotted J K (n + 1) 13 L S M = ai_iadd 14 (am_run (c_Reader_readDotted s_Reader_readDatum s_Tokens_sortOf s_Reader_fault) k_Reader_readDotted J K n) K 13 L S M := by rfl
theorem r_Reader_readDotted_14 {s_Reader_readDatum : aS} {s_Tokens_sortOf : aS} {s_Reader_fault : aS} {J : aJ} {K : aR} {n : Nat} {L : aL} {S : List Value} {M : aM} : am_run (c_Reader_readDotted s_Reader_readDatum s_Tokens_sortOf s_Reader_fault) k_Reader_readDotted J K (n + 1) 14 L S M = ai_callv2 1 s_Reader_readDatum 17 (am_run (c_Reader_readDotted s_Reader_readDatum s_Tokens_sortOf s_Reader_fault) k_Reader_readDotted J K n) K 14 L S M := by rfl
theorem r_Reader_readDotted_17 {s_Reader_readDatum : aS} {s_Tokens_sortOf : aS} {s_Reader_fault : aS} {J : aJ} {K : aR} {n : Nat} {L : aL} {S : List Value} {M : aM} : am_run (c_Reader_readDotted s_Reader_readDatum s_Tokens_sortOf s_Reader_fault) k_Reader_readDotted J K (n + 1) 17 L S M = ai_istore 2 18 (am_run (c_Reader_readDotted s_Reader_readDatum s_Tokens_sortOf s_Reader_fault) k_Reader_readDotted J K n) K 17 L S M := by rfl
theorem r_Reader_readDotted_18 {s_Reader_readDatum : aS} {s_Tokens_sortOf : aS} {s_Reader_fault : aS} {J : aJ} {K : aR} {n : Nat} {L : aL} {S : List Value} {M : aM} : am_run (c_Reader_readDotted s_Reader_readDatum s_Tokens_sortOf s_Reader_fault) k_Reader_readDotted J K (n + 1) 18 L S M = ai_iload 2 19 (am_run (c_Reader_readDotted s_Reader_readDatum s_Tokens_sortOf s_Reader_fault) k_Reader_readDotted J K n) K 18 L S M := by rfl
theorem r_Reader_readDotted_19 {s_Reader_readDatum : aS} {s_Tokens_sortOf : aS} {s_Reader_fault : aS} {J : aJ} {K : aR} {n : Nat} {L : aL} {S : List Value} {M : aM} : am_run (c_Reader_readDotted s_Reader_readDatum s_Tokens_sortOf s_Reader_fault) k_Reader_readDotted J K (n + 1) 19 L S M = ai_const (-1) 20 (am_run (c_Reader_readDotted s_Reader_readDatum s_Tokens_sortOf s_Reader_fault) k_Reader_readDotted J K n) K 19 L S M := by rfl
theorem r_Reader_readDotted_20 {s_Reader_readDatum : aS} {s_Tokens_sortOf : aS} {s_Reader_fault : aS} {J : aJ} {K : aR} {n : Nat} {L : aL} {S : List Value} {M : aM} : am_run (c_Reader_readDotted s_Reader_readDatum s_Tokens_sortOf s_Reader_fault) k_Reader_readDotted J K (n + 1) 20 L S M = ai_cmpne 25 23 (am_run (c_Reader_readDotted s_Reader_readDatum s_Tokens_sortOf s_Reader_fault) k_Reader_readDotted J K n) K 20 L S M := by rfl
theorem r_Reader_readDotted_23 {s_Reader_readDatum : aS} {s_Tokens_sortOf : aS} {s_Reader_fault : aS} {J : aJ} {K : aR} {n : Nat} {L : aL} {S : List Value} {M : aM} : am_run (c_Reader_readDotted s_Reader_readDatum s_Tokens_sortOf s_Reader_fault) k_Reader_readDotted J K (n + 1) 23 L S M = ai_const (-1) 24 (am_run (c_Reader_readDotted s_Reader_readDatum s_Tokens_sortOf s_Reader_fault) k_Reader_readDotted J K n) K 23 L S M := by rfl
theorem r_Reader_readDotted_24 {s_Reader_readDatum : aS} {s_Tokens_sortOf : aS} {s_Reader_fault : aS} {J : aJ} {K : aR} {n : Nat} {L : aL} {S : List Value} {M : aM} : am_run (c_Reader_readDotted s_Reader_readDatum s_Tokens_sortOf s_Reader_fault) k_Reader_readDotted J K (n + 1) 24 L S M = ai_iret (am_run (c_Reader_readDotted s_Reader_readDatum s_Tokens_sortOf s_Reader_fault) k_Reader_readDotted J K n) K 24 L S M := by rfl
theorem r_Reader_readDotted_25 {s_Reader_readDatum : aS} {s_Tokens_sortOf : aS} {s_Reader_fault : aS} {J : aJ} {K : aR} {n : Nat} {L : aL} {S : List Value} {M : aM} : am_run (c_Reader_readDotted s_Reader_readDatum s_Tokens_sortOf s_Reader_fault) k_Reader_readDotted J K (n + 1) 25 L S M = ai_aload 0 26 (am_run (c_Reader_readDotted s_Reader_readDatum s_Tokens_sortOf s_Reader_fault) k_Reader_readDotted J K n) K 25 L S M := by rfl
theorem r_Reader_readDotted_26 {s_Reader_readDatum : aS} {s_Tokens_sortOf : aS} {s_Reader_fault : aS} {J : aJ} {K : aR} {n : Nat} {L : aL} {S : List Value} {M : aM} : am_run (c_Reader_readDotted s_Reader_readDatum s_Tokens_sortOf s_Reader_fault) k_Reader_readDotted J K (n + 1) 26 L S M = ai_dup 27 (am_run (c_Reader_readDotted s_Reader_readDatum s_Tokens_sortOf s_Reader_fault) k_Reader_readDotted J K n) K 26 L S M := by rfl
theorem r_Reader_readDotted_27 {s_Reader_readDatum : aS} {s_Tokens_sortOf : aS} {s_Reader_fault : aS} {J : aJ} {K : aR} {n : Nat} {L : aL} {S : List Value} {M : aM} : am_run (c_Reader_readDotted s_Reader_readDatum s_Tokens_sortOf s_Reader_fault) k_Reader_readDotted J K (n + 1) 27 L S M = ai_getf 1 3 30 (am_run (c_Reader_readDotted s_Reader_readDatum s_Tokens_sortOf s_Reader_fault) k_Reader_readDotted J K n) K 27 L S M := by rfl
theorem r_Reader_readDotted_30 {s_Reader_readDatum : aS} {s_Tokens_sortOf : aS} {s_Reader_fault : aS} {J : aJ} {K : aR} {n : Nat} {L : aL} {S : List Value} {M : aM} : am_run (c_Reader_readDotted s_Reader_readDatum s_Tokens_sortOf s_Reader_fault) k_Reader_readDotted J K (n + 1) 30 L S M = ai_const 1 31 (am_run (c_Reader_readDotted s_Reader_readDatum s_Tokens_sortOf s_Reader_fault) k_Reader_readDotted J K n) K 30 L S M := by rfl
theorem r_Reader_readDotted_31 {s_Reader_readDatum : aS} {s_Tokens_sortOf : aS} {s_Reader_fault : aS} {J : aJ} {K : aR} {n : Nat} {L : aL} {S : List Value} {M : aM} : am_run (c_Reader_readDotted s_Reader_readDatum s_Tokens_sortOf s_Reader_fault) k_Reader_readDotted J K (n + 1) 31 L S M = ai_iadd 32 (am_run (c_Reader_readDotted s_Reader_readDatum s_Tokens_sortOf s_Reader_fault) k_Reader_readDotted J K n) K 31 L S M := by rfl
theorem r_Reader_readDotted_32 {s_Reader_readDatum : aS} {s_Tokens_sortOf : aS} {s_Reader_fault : aS} {J : aJ} {K : aR} {n : Nat} {L : aL} {S : List Value} {M : aM} : am_run (c_Reader_readDotted s_Reader_readDatum s_Tokens_sortOf s_Reader_fault) k_Reader_readDotted J K (n + 1) 32 L S M = ai_putf 1 3 35 (am_run (c_Reader_readDotted s_Reader_readDatum s_Tokens_sortOf s_Reader_fault) k_Reader_readDotted J K n) K 32 L S M := by rfl
theorem r_Reader_readDotted_35 {s_Reader_readDatum : aS} {s_Tokens_sortOf : aS} {s_Reader_fault : aS} {J : aJ} {K : aR} {n : Nat} {L : aL} {S : List Value} {M : aM} : am_run (c_Reader_readDotted s_Reader_readDatum s_Tokens_sortOf s_Reader_fault) k_Reader_readDotted J K (n + 1) 35 L S M = ai_aload 0 36 (am_run (c_Reader_readDotted s_Reader_readDatum s_Tokens_sortOf s_Reader_fault) k_Reader_readDotted J K n) K 35 L S M := by rfl
theorem r_Reader_readDotted_36 {s_Reader_readDatum : aS} {s_Tokens_sortOf : aS} {s_Reader_fault : aS} {J : aJ} {K : aR} {n : Nat} {L : aL} {S : List Value} {M : aM} : am_run (c_Reader_readDotted s_Reader_readDatum s_Tokens_sortOf s_Reader_fault) k_Reader_readDotted J K (n + 1) 36 L S M = ai_getf 1 2 39 (am_run (c_Reader_readDotted s_Reader_readDatum s_Tokens_sortOf s_Reader_fault) k_Reader_readDotted J K n) K 36 L S M := by rfl
theorem r_Reader_readDotted_39 {s_Reader_readDatum : aS} {s_Tokens_sortOf : aS} {s_Reader_fault : aS} {J : aJ} {K : aR} {n : Nat} {L : aL} {S : List Value} {M : aM} : am_run (c_Reader_readDotted s_Reader_readDatum s_Tokens_sortOf s_Reader_fault) k_Reader_readDotted J K (n + 1) 39 L S M = ai_aload 0 40 (am_run (c_Reader_readDotted s_Reader_readDatum s_Tokens_sortOf s_Reader_fault) k_Reader_readDotted J K n) K 39 L S M := by rfl
theorem r_Reader_readDotted_40 {s_Reader_readDatum : aS} {s_Tokens_sortOf : aS} {s_Reader_fault : aS} {J : aJ} {K : aR} {n : Nat} {L : aL} {S : List Value} {M : aM} : am_run (c_Reader_readDotted s_Reader_readDatum s_Tokens_sortOf s_Reader_fault) k_Reader_readDotted J K (n + 1) 40 L S M = ai_getf 1 3 43 (am_run (c_Reader_readDotted s_Reader_readDatum s_Tokens_sortOf s_Reader_fault) k_Reader_readDotted J K n) K 40 L S M := by rfl
theorem r_Reader_readDotted_43 {s_Reader_readDatum : aS} {s_Tokens_sortOf : aS} {s_Reader_fault : aS} {J : aJ} {K : aR} {n : Nat} {L : aL} {S : List Value} {M : aM} : am_run (c_Reader_readDotted s_Reader_readDatum s_Tokens_sortOf s_Reader_fault) k_Reader_readDotted J K (n + 1) 43 L S M = ai_callv2 3 s_Tokens_sortOf 46 (am_run (c_Reader_readDotted s_Reader_readDatum s_Tokens_sortOf s_Reader_fault) k_Reader_readDotted J K n) K 43 L S M := by rfl
theorem r_Reader_readDotted_46 {s_Reader_readDatum : aS} {s_Tokens_sortOf : aS} {s_Reader_fault : aS} {J : aJ} {K : aR} {n : Nat} {L : aL} {S : List Value} {M : aM} : am_run (c_Reader_readDotted s_Reader_readDatum s_Tokens_sortOf s_Reader_fault) k_Reader_readDotted J K (n + 1) 46 L S M = ai_const 7 48 (am_run (c_Reader_readDotted s_Reader_readDatum s_Tokens_sortOf s_Reader_fault) k_Reader_readDotted J K n) K 46 L S M := by rfl
theorem r_Reader_readDotted_48 {s_Reader_readDatum : aS} {s_Tokens_sortOf : aS} {s_Reader_fault : aS} {J : aJ} {K : aR} {n : Nat} {L : aL} {S : List Value} {M : aM} : am_run (c_Reader_readDotted s_Reader_readDatum s_Tokens_sortOf s_Reader_fault) k_Reader_readDotted J K (n + 1) 48 L S M = ai_cmpne 55 51 (am_run (c_Reader_readDotted s_Reader_readDatum s_Tokens_sortOf s_Reader_fault) k_Reader_readDotted J K n) K 48 L S M := by rfl
theorem r_Reader_readDotted_51 {s_Reader_readDatum : aS} {s_Tokens_sortOf : aS} {s_Reader_fault : aS} {J : aJ} {K : aR} {n : Nat} {L : aL} {S : List Value} {M : aM} : am_run (c_Reader_readDotted s_Reader_readDatum s_Tokens_sortOf s_Reader_fault) k_Reader_readDotted J K (n + 1) 51 L S M = ai_iload 2 52 (am_run (c_Reader_readDotted s_Reader_readDatum s_Tokens_sortOf s_Reader_fault) k_Reader_readDotted J K n) K 51 L S M := by rfl
theorem r_Reader_readDotted_52 {s_Reader_readDatum : aS} {s_Tokens_sortOf : aS} {s_Reader_fault : aS} {J : aJ} {K : aR} {n : Nat} {L : aL} {S : List Value} {M : aM} : am_run (c_Reader_readDotted s_Reader_readDatum s_Tokens_sortOf s_Reader_fault) k_Reader_readDotted J K (n + 1) 52 L S M = ai_goto 59 (am_run (c_Reader_readDotted s_Reader_readDatum s_Tokens_sortOf s_Reader_fault) k_Reader_readDotted J K n) K 52 L S M := by rfl
theorem r_Reader_readDotted_55 {s_Reader_readDatum : aS} {s_Tokens_sortOf : aS} {s_Reader_fault : aS} {J : aJ} {K : aR} {n : Nat} {L : aL} {S : List Value} {M : aM} : am_run (c_Reader_readDotted s_Reader_readDatum s_Tokens_sortOf s_Reader_fault) k_Reader_readDotted J K (n + 1) 55 L S M = ai_aload 0 56 (am_run (c_Reader_readDotted s_Reader_readDatum s_Tokens_sortOf s_Reader_fault) k_Reader_readDotted J K n) K 55 L S M := by rfl
theorem r_Reader_readDotted_56 {s_Reader_readDatum : aS} {s_Tokens_sortOf : aS} {s_Reader_fault : aS} {J : aJ} {K : aR} {n : Nat} {L : aL} {S : List Value} {M : aM} : am_run (c_Reader_readDotted s_Reader_readDatum s_Tokens_sortOf s_Reader_fault) k_Reader_readDotted J K (n + 1) 56 L S M = ai_callv1 1 s_Reader_fault 59 (am_run (c_Reader_readDotted s_Reader_readDatum s_Tokens_sortOf s_Reader_fault) k_Reader_readDotted J K n) K 56 L S M := by rfl
theorem r_Reader_readDotted_59 {s_Reader_readDatum : aS} {s_Tokens_sortOf : aS} {s_Reader_fault : aS} {J : aJ} {K : aR} {n : Nat} {L : aL} {S : List Value} {M : aM} : am_run (c_Reader_readDotted s_Reader_readDatum s_Tokens_sortOf s_Reader_fault) k_Reader_readDotted J K (n + 1) 59 L S M = ai_iret (am_run (c_Reader_readDotted s_Reader_readDatum s_Tokens_sortOf s_Reader_fault) k_Reader_readDotted J K n) K 59 L S M := by rfl
def c_Reader_add (s_Nodes_add : aS) (s_Reader_fault : aS) : List (Nat × aI) := [
  (0, ai_aload 0 1),
  (1, ai_getf 1 1 4),
  (4, ai_iload 1 5),
  (5, ai_callv2 0 s_Nodes_add 8),
  (8, ai_istore 2 9),
  (9, ai_iload 2 10),
  (10, ai_const (-1) 11),
  (11, ai_cmpne 21 14),
  (14, ai_aload 0 15),
  (15, ai_callv1 1 s_Reader_fault 18),
  (18, ai_goto 22),
  (21, ai_iload 2 22),
  (22, ai_iret)]
set_option maxRecDepth 100000 in
set_option maxHeartbeats 4000000 in
theorem tb_Reader_add {G : aG} {d : Nat} {s_Nodes_add : aS} {d_Nodes_add : Nat} (h_Nodes_add : am_Sp G Y_Nodes_add d_Nodes_add s_Nodes_add) (l_Nodes_add : d_Nodes_add < d) {s_Reader_fault : aS} {d_Reader_fault : Nat} (h_Reader_fault : am_Sp G Y_Reader_fault d_Reader_fault s_Reader_fault) (l_Reader_fault : d_Reader_fault < d) : am_tab G Y_Reader_add d (c_Reader_add s_Nodes_add s_Reader_fault) := by
  intro K p e s m args below meth c C
  exact ⟨as_aload_n C (pc := 0) (q := 0) (by decide +kernel) rfl rfl,
    as_getf C (pc := 1) (T := T_Reader) (N := 5) rfl in_Reader (by decide) rfl w_177 (by decide +kernel) rfl,
    as_iload_n C (pc := 4) (q := 1) (by decide +kernel) rfl rfl,
    as_callv2N C (pc := 5) h_Nodes_add (T := T_Nodes) (N := 10) rfl w_329 w_72 w_328 w_18 w_326 hy_Nodes_add (am_rm_of l_Nodes_add (by decide)) (by decide +kernel) rfl,
    as_istore_n C (pc := 8) (q := 2) (by decide +kernel) rfl (by decide) rfl,
    as_iload_n C (pc := 9) (q := 2) (by decide +kernel) rfl rfl,
    as_iconst C (pc := 10) (n := (-1)) (by decide +kernel) (by decide +kernel) rfl,
    as_cmpne C (pc := 11) (off := 10) (by decide +kernel) (by decide) rfl,
    as_aload_n C (pc := 14) (q := 0) (by decide +kernel) rfl rfl,
    as_callv1 C (pc := 15) h_Reader_fault (T := T_Reader) (N := 5) rfl w_333 w_74 w_332 w_19 w_330 hy_Reader_fault (am_rm_of l_Reader_fault (by decide)) (by decide +kernel) rfl,
    as_goto C (pc := 18) (off := 4) (by decide +kernel) (by decide),
    as_iload_n C (pc := 21) (q := 2) (by decide +kernel) rfl rfl,
    as_iret C (pc := 22) rfl (by decide +kernel), trivial⟩
abbrev k_Reader_add : List Nat := []
theorem r_Reader_add_0 {s_Nodes_add : aS} {s_Reader_fault : aS} {J : aJ} {K : aR} {n : Nat} {L : aL} {S : List Value} {M : aM} : am_run (c_Reader_add s_Nodes_add s_Reader_fault) k_Reader_add J K (n + 1) 0 L S M = ai_aload 0 1 (am_run (c_Reader_add s_Nodes_add s_Reader_fault) k_Reader_add J K n) K 0 L S M := by rfl
theorem r_Reader_add_1 {s_Nodes_add : aS} {s_Reader_fault : aS} {J : aJ} {K : aR} {n : Nat} {L : aL} {S : List Value} {M : aM} : am_run (c_Reader_add s_Nodes_add s_Reader_fault) k_Reader_add J K (n + 1) 1 L S M = ai_getf 1 1 4 (am_run (c_Reader_add s_Nodes_add s_Reader_fault) k_Reader_add J K n) K 1 L S M := by rfl
theorem r_Reader_add_4 {s_Nodes_add : aS} {s_Reader_fault : aS} {J : aJ} {K : aR} {n : Nat} {L : aL} {S : List Value} {M : aM} : am_run (c_Reader_add s_Nodes_add s_Reader_fault) k_Reader_add J K (n + 1) 4 L S M = ai_iload 1 5 (am_run (c_Reader_add s_Nodes_add s_Reader_fault) k_Reader_add J K n) K 4 L S M := by rfl
theorem r_Reader_add_5 {s_Nodes_add : aS} {s_Reader_fault : aS} {J : aJ} {K : aR} {n : Nat} {L : aL} {S : List Value} {M : aM} : am_run (c_Reader_add s_Nodes_add s_Reader_fault) k_Reader_add J K (n + 1) 5 L S M = ai_callv2 0 s_Nodes_add 8 (am_run (c_Reader_add s_Nodes_add s_Reader_fault) k_Reader_add J K n) K 5 L S M := by rfl
theorem r_Reader_add_8 {s_Nodes_add : aS} {s_Reader_fault : aS} {J : aJ} {K : aR} {n : Nat} {L : aL} {S : List Value} {M : aM} : am_run (c_Reader_add s_Nodes_add s_Reader_fault) k_Reader_add J K (n + 1) 8 L S M = ai_istore 2 9 (am_run (c_Reader_add s_Nodes_add s_Reader_fault) k_Reader_add J K n) K 8 L S M := by rfl
theorem r_Reader_add_9 {s_Nodes_add : aS} {s_Reader_fault : aS} {J : aJ} {K : aR} {n : Nat} {L : aL} {S : List Value} {M : aM} : am_run (c_Reader_add s_Nodes_add s_Reader_fault) k_Reader_add J K (n + 1) 9 L S M = ai_iload 2 10 (am_run (c_Reader_add s_Nodes_add s_Reader_fault) k_Reader_add J K n) K 9 L S M := by rfl
theorem r_Reader_add_10 {s_Nodes_add : aS} {s_Reader_fault : aS} {J : aJ} {K : aR} {n : Nat} {L : aL} {S : List Value} {M : aM} : am_run (c_Reader_add s_Nodes_add s_Reader_fault) k_Reader_add J K (n + 1) 10 L S M = ai_const (-1) 11 (am_run (c_Reader_add s_Nodes_add s_Reader_fault) k_Reader_add J K n) K 10 L S M := by rfl
theorem r_Reader_add_11 {s_Nodes_add : aS} {s_Reader_fault : aS} {J : aJ} {K : aR} {n : Nat} {L : aL} {S : List Value} {M : aM} : am_run (c_Reader_add s_Nodes_add s_Reader_fault) k_Reader_add J K (n + 1) 11 L S M = ai_cmpne 21 14 (am_run (c_Reader_add s_Nodes_add s_Reader_fault) k_Reader_add J K n) K 11 L S M := by rfl
theorem r_Reader_add_14 {s_Nodes_add : aS} {s_Reader_fault : aS} {J : aJ} {K : aR} {n : Nat} {L : aL} {S : List Value} {M : aM} : am_run (c_Reader_add s_Nodes_add s_Reader_fault) k_Reader_add J K (n + 1) 14 L S M = ai_aload 0 15 (am_run (c_Reader_add s_Nodes_add s_Reader_fault) k_Reader_add J K n) K 14 L S M := by rfl
theorem r_Reader_add_15 {s_Nodes_add : aS} {s_Reader_fault : aS} {J : aJ} {K : aR} {n : Nat} {L : aL} {S : List Value} {M : aM} : am_run (c_Reader_add s_Nodes_add s_Reader_fault) k_Reader_add J K (n + 1) 15 L S M = ai_callv1 1 s_Reader_fault 18 (am_run (c_Reader_add s_Nodes_add s_Reader_fault) k_Reader_add J K n) K 15 L S M := by rfl
theorem r_Reader_add_18 {s_Nodes_add : aS} {s_Reader_fault : aS} {J : aJ} {K : aR} {n : Nat} {L : aL} {S : List Value} {M : aM} : am_run (c_Reader_add s_Nodes_add s_Reader_fault) k_Reader_add J K (n + 1) 18 L S M = ai_goto 22 (am_run (c_Reader_add s_Nodes_add s_Reader_fault) k_Reader_add J K n) K 18 L S M := by rfl
theorem r_Reader_add_21 {s_Nodes_add : aS} {s_Reader_fault : aS} {J : aJ} {K : aR} {n : Nat} {L : aL} {S : List Value} {M : aM} : am_run (c_Reader_add s_Nodes_add s_Reader_fault) k_Reader_add J K (n + 1) 21 L S M = ai_iload 2 22 (am_run (c_Reader_add s_Nodes_add s_Reader_fault) k_Reader_add J K n) K 21 L S M := by rfl
theorem r_Reader_add_22 {s_Nodes_add : aS} {s_Reader_fault : aS} {J : aJ} {K : aR} {n : Nat} {L : aL} {S : List Value} {M : aM} : am_run (c_Reader_add s_Nodes_add s_Reader_fault) k_Reader_add J K (n + 1) 22 L S M = ai_iret (am_run (c_Reader_add s_Nodes_add s_Reader_fault) k_Reader_add J K n) K 22 L S M := by rfl
def c_Reader_fault (s_Tokens_startOf : aS) : List (Nat × aI) := [
  (0, ai_aload 0 1),
  (1, ai_aload 0 2),
  (2, ai_getf 1 2 5),
  (5, ai_aload 0 6),
  (6, ai_getf 1 3 9),
  (9, ai_callv2 3 s_Tokens_startOf 12),
  (12, ai_putf 1 4 15),
  (15, ai_const (-1) 16),
  (16, ai_iret)]
set_option maxRecDepth 100000 in
set_option maxHeartbeats 4000000 in
theorem tb_Reader_fault {G : aG} {d : Nat} {s_Tokens_startOf : aS} {d_Tokens_startOf : Nat} (h_Tokens_startOf : am_Sp G Y_Tokens_startOf d_Tokens_startOf s_Tokens_startOf) (l_Tokens_startOf : d_Tokens_startOf < d) : am_tab G Y_Reader_fault d (c_Reader_fault s_Tokens_startOf) := by
  intro K p e s m args below meth c C
  exact ⟨as_aload_n C (pc := 0) (q := 0) (by decide +kernel) rfl rfl,
    as_aload_n C (pc := 1) (q := 0) (by decide +kernel) rfl rfl,
    as_getf C (pc := 2) (T := T_Reader) (N := 5) rfl in_Reader (by decide) rfl w_178 (by decide +kernel) rfl,
    as_aload_n C (pc := 5) (q := 0) (by decide +kernel) rfl rfl,
    as_getf C (pc := 6) (T := T_Reader) (N := 5) rfl in_Reader (by decide) rfl w_179 (by decide +kernel) rfl,
    as_callv2N C (pc := 9) h_Tokens_startOf (T := T_Tokens) (N := 4) rfl w_320 w_75 w_319 w_16 w_317 hy_Tokens_startOf (am_rm_of l_Tokens_startOf (by decide)) (by decide +kernel) rfl,
    as_putf C (pc := 12) t_Reader (T := T_Reader) (N := 5) rfl in_Reader tok_Reader nm_Reader (by decide) rfl rfl (by decide +kernel) w_180 (by decide +kernel) rfl,
    as_iconst C (pc := 15) (n := (-1)) (by decide +kernel) (by decide +kernel) rfl,
    as_iret C (pc := 16) rfl (by decide +kernel), trivial⟩
abbrev k_Reader_fault : List Nat := []
theorem r_Reader_fault_0 {s_Tokens_startOf : aS} {J : aJ} {K : aR} {n : Nat} {L : aL} {S : List Value} {M : aM} : am_run (c_Reader_fault s_Tokens_startOf) k_Reader_fault J K (n + 1) 0 L S M = ai_aload 0 1 (am_run (c_Reader_fault s_Tokens_startOf) k_Reader_fault J K n) K 0 L S M := by rfl
theorem r_Reader_fault_1 {s_Tokens_startOf : aS} {J : aJ} {K : aR} {n : Nat} {L : aL} {S : List Value} {M : aM} : am_run (c_Reader_fault s_Tokens_startOf) k_Reader_fault J K (n + 1) 1 L S M = ai_aload 0 2 (am_run (c_Reader_fault s_Tokens_startOf) k_Reader_fault J K n) K 1 L S M := by rfl
theorem r_Reader_fault_2 {s_Tokens_startOf : aS} {J : aJ} {K : aR} {n : Nat} {L : aL} {S : List Value} {M : aM} : am_run (c_Reader_fault s_Tokens_startOf) k_Reader_fault J K (n + 1) 2 L S M = ai_getf 1 2 5 (am_run (c_Reader_fault s_Tokens_startOf) k_Reader_fault J K n) K 2 L S M := by rfl
theorem r_Reader_fault_5 {s_Tokens_startOf : aS} {J : aJ} {K : aR} {n : Nat} {L : aL} {S : List Value} {M : aM} : am_run (c_Reader_fault s_Tokens_startOf) k_Reader_fault J K (n + 1) 5 L S M = ai_aload 0 6 (am_run (c_Reader_fault s_Tokens_startOf) k_Reader_fault J K n) K 5 L S M := by rfl
theorem r_Reader_fault_6 {s_Tokens_startOf : aS} {J : aJ} {K : aR} {n : Nat} {L : aL} {S : List Value} {M : aM} : am_run (c_Reader_fault s_Tokens_startOf) k_Reader_fault J K (n + 1) 6 L S M = ai_getf 1 3 9 (am_run (c_Reader_fault s_Tokens_startOf) k_Reader_fault J K n) K 6 L S M := by rfl
theorem r_Reader_fault_9 {s_Tokens_startOf : aS} {J : aJ} {K : aR} {n : Nat} {L : aL} {S : List Value} {M : aM} : am_run (c_Reader_fault s_Tokens_startOf) k_Reader_fault J K (n + 1) 9 L S M = ai_callv2 3 s_Tokens_startOf 12 (am_run (c_Reader_fault s_Tokens_startOf) k_Reader_fault J K n) K 9 L S M := by rfl
theorem r_Reader_fault_12 {s_Tokens_startOf : aS} {J : aJ} {K : aR} {n : Nat} {L : aL} {S : List Value} {M : aM} : am_run (c_Reader_fault s_Tokens_startOf) k_Reader_fault J K (n + 1) 12 L S M = ai_putf 1 4 15 (am_run (c_Reader_fault s_Tokens_startOf) k_Reader_fault J K n) K 12 L S M := by rfl
theorem r_Reader_fault_15 {s_Tokens_startOf : aS} {J : aJ} {K : aR} {n : Nat} {L : aL} {S : List Value} {M : aM} : am_run (c_Reader_fault s_Tokens_startOf) k_Reader_fault J K (n + 1) 15 L S M = ai_const (-1) 16 (am_run (c_Reader_fault s_Tokens_startOf) k_Reader_fault J K n) K 15 L S M := by rfl
theorem r_Reader_fault_16 {s_Tokens_startOf : aS} {J : aJ} {K : aR} {n : Nat} {L : aL} {S : List Value} {M : aM} : am_run (c_Reader_fault s_Tokens_startOf) k_Reader_fault J K (n + 1) 16 L S M = ai_iret (am_run (c_Reader_fault s_Tokens_startOf) k_Reader_fault J K n) K 16 L S M := by rfl
end
