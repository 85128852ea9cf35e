def c_Waiting_append : List (Nat × aI) := [
  (0, ai_aload 0 1),
  (1, ai_getf 4 2 4),
  (4, ai_const 500 7),
  (7, ai_cmplt 11 10),
  (10, ai_vret),
  (11, ai_aload 0 12),
  (12, ai_getf 4 1 15),
  (15, ai_aload 0 16),
  (16, ai_getf 4 2 19),
  (19, ai_iadd 20),
  (20, ai_const 500 23),
  (23, ai_cmpge 38 26),
  (26, ai_aload 0 27),
  (27, ai_getf 4 1 30),
  (30, ai_aload 0 31),
  (31, ai_getf 4 2 34),
  (34, ai_iadd 35),
  (35, ai_goto 51),
  (38, ai_aload 0 39),
  (39, ai_getf 4 1 42),
  (42, ai_aload 0 43),
  (43, ai_getf 4 2 46),
  (46, ai_iadd 47),
  (47, ai_const 500 50),
  (50, ai_isub 51),
  (51, ai_istore 2 52),
  (52, ai_iload 2 53),
  (53, ai_iflt 80 56),
  (56, ai_iload 2 57),
  (57, ai_const 500 60),
  (60, ai_cmpge 80 63),
  (63, ai_aload 0 64),
  (64, ai_getf 4 0 67),
  (67, ai_iload 2 68),
  (68, ai_iload 1 69),
  (69, ai_iast 70),
  (70, ai_aload 0 71),
  (71, ai_dup 72),
  (72, ai_getf 4 2 75),
  (75, ai_const 1 76),
  (76, ai_iadd 77),
  (77, ai_putf 4 2 80),
  (80, ai_vret)]
set_option maxRecDepth 100000 in
set_option maxHeartbeats 4000000 in
theorem tb_Waiting_append {G : aG} {d : Nat} : am_tab G Y_Waiting_append d (c_Waiting_append) := by
  intro K p e s m args below meth c C
  exact ⟨as_aload_n C (pc := 0) (q := 0) (by decide +kernel) rfl rfl,
    as_getf C (pc := 1) (T := T_Waiting) (N := 3) rfl in_Waiting (by decide) rfl w_201 (by decide +kernel) rfl,
    as_sipush C (pc := 4) (n := 500) (by decide +kernel) (by decide +kernel) rfl,
    as_cmplt C (pc := 7) (off := 4) (by decide +kernel) (by decide) rfl,
    as_vret C (pc := 10) rfl (by decide +kernel),
    as_aload_n C (pc := 11) (q := 0) (by decide +kernel) rfl rfl,
    as_getf C (pc := 12) (T := T_Waiting) (N := 3) rfl in_Waiting (by decide) rfl w_200 (by decide +kernel) rfl,
    as_aload_n C (pc := 15) (q := 0) (by decide +kernel) rfl rfl,
    as_getf C (pc := 16) (T := T_Waiting) (N := 3) rfl in_Waiting (by decide) rfl w_201 (by decide +kernel) rfl,
    as_iadd C (pc := 19) (by decide +kernel) rfl,
    as_sipush C (pc := 20) (n := 500) (by decide +kernel) (by decide +kernel) rfl,
    as_cmpge C (pc := 23) (off := 15) (by decide +kernel) (by decide) rfl,
    as_aload_n C (pc := 26) (q := 0) (by decide +kernel) rfl rfl,
    as_getf C (pc := 27) (T := T_Waiting) (N := 3) rfl in_Waiting (by decide) rfl w_200 (by decide +kernel) rfl,
    as_aload_n C (pc := 30) (q := 0) (by decide +kernel) rfl rfl,
    as_getf C (pc := 31) (T := T_Waiting) (N := 3) rfl in_Waiting (by decide) rfl w_201 (by decide +kernel) rfl,
    as_iadd C (pc := 34) (by decide +kernel) rfl,
    as_goto C (pc := 35) (off := 16) (by decide +kernel) (by decide),
    as_aload_n C (pc := 38) (q := 0) (by decide +kernel) rfl rfl,
    as_getf C (pc := 39) (T := T_Waiting) (N := 3) rfl in_Waiting (by decide) rfl w_200 (by decide +kernel) rfl,
    as_aload_n C (pc := 42) (q := 0) (by decide +kernel) rfl rfl,
    as_getf C (pc := 43) (T := T_Waiting) (N := 3) rfl in_Waiting (by decide) rfl w_201 (by decide +kernel) rfl,
    as_iadd C (pc := 46) (by decide +kernel) rfl,
    as_sipush C (pc := 47) (n := 500) (by decide +kernel) (by decide +kernel) rfl,
    as_isub C (pc := 50) (by decide +kernel) rfl,
    as_istore_n C (pc := 51) (q := 2) (by decide +kernel) rfl (by decide) rfl,
    as_iload_n C (pc := 52) (q := 2) (by decide +kernel) rfl rfl,
    as_iflt C (pc := 53) (off := 27) (by decide +kernel) (by decide) rfl,
    as_iload_n C (pc := 56) (q := 2) (by decide +kernel) rfl rfl,
    as_sipush C (pc := 57) (n := 500) (by decide +kernel) (by decide +kernel) rfl,
    as_cmpge C (pc := 60) (off := 20) (by decide +kernel) (by decide) rfl,
    as_aload_n C (pc := 63) (q := 0) (by decide +kernel) rfl rfl,
    as_getf C (pc := 64) (T := T_Waiting) (N := 3) rfl in_Waiting (by decide) rfl w_199 (by decide +kernel) rfl,
    as_iload_n C (pc := 67) (q := 2) (by decide +kernel) rfl rfl,
    as_iload_n C (pc := 68) (q := 1) (by decide +kernel) rfl rfl,
    as_iast C (pc := 69) (by decide +kernel) rfl,
    as_aload_n C (pc := 70) (q := 0) (by decide +kernel) rfl rfl,
    as_dup C (pc := 71) (by decide +kernel) rfl,
    as_getf C (pc := 72) (T := T_Waiting) (N := 3) rfl in_Waiting (by decide) rfl w_201 (by decide +kernel) rfl,
    as_iconst C (pc := 75) (n := 1) (by decide +kernel) (by decide +kernel) rfl,
    as_iadd C (pc := 76) (by decide +kernel) rfl,
    as_putf C (pc := 77) t_Waiting (T := T_Waiting) (N := 3) rfl in_Waiting tok_Waiting nm_Waiting (by decide) rfl rfl (by decide +kernel) w_201 (by decide +kernel) rfl,
    as_vret C (pc := 80) rfl (by decide +kernel), trivial⟩
abbrev k_Waiting_append : List Nat := []
theorem r_Waiting_append_0 {J : aJ} {K : aR} {n : Nat} {L : aL} {S : List Value} {M : aM} : am_run (c_Waiting_append) k_Waiting_append J K (n + 1) 0 L S M = ai_aload 0 1 (am_run (c_Waiting_append) k_Waiting_append J K n) K 0 L S M := by rfl
theorem r_Waiting_append_1 {J : aJ} {K : aR} {n : Nat} {L : aL} {S : List Value} {M : aM} : am_run (c_Waiting_append) k_Waiting_append J K (n + 1) 1 L S M = ai_getf 4 2 4 (am_run (c_Waiting_append) k_Waiting_append J K n) K 1 L S M := by rfl
theorem r_Waiting_append_4 {J : aJ} {K : aR} {n : Nat} {L : aL} {S : List Value} {M : aM} : am_run (c_Waiting_append) k_Waiting_append J K (n + 1) 4 L S M = ai_const 500 7 (am_run (c_Waiting_append) k_Waiting_append J K n) K 4 L S M := by rfl
theorem r_Waiting_append_7 {J : aJ} {K : aR} {n : Nat} {L : aL} {S : List Value} {M : aM} : am_run (c_Waiting_append) k_Waiting_append J K (n + 1) 7 L S M = ai_cmplt 11 10 (am_run (c_Waiting_append) k_Waiting_append J K n) K 7 L S M := by rfl
theorem r_Waiting_append_10 {J : aJ} {K : aR} {n : Nat} {L : aL} {S : List Value} {M : aM} : am_run (c_Waiting_append) k_Waiting_append J K (n + 1) 10 L S M = ai_vret (am_run (c_Waiting_append) k_Waiting_append J K n) K 10 L S M := by rfl
theorem r_Waiting_append_11 {J : aJ} {K : aR} {n : Nat} {L : aL} {S : List Value} {M : aM} : am_run (c_Waiting_append) k_Waiting_append J K (n + 1) 11 L S M = ai_aload 0 12 (am_run (c_Waiting_append) k_Waiting_append J K n) K 11 L S M := by rfl
theorem r_Waiting_append_12 {J : aJ} {K : aR} {n : Nat} {L : aL} {S : List Value} {M : aM} : am_run (c_Waiting_append) k_Waiting_append J K (n + 1) 12 L S M = ai_getf 4 1 15 (am_run (c_Waiting_append) k_Waiting_append J K n) K 12 L S M := by rfl
theorem r_Waiting_append_15 {J : aJ} {K : aR} {n : Nat} {L : aL} {S : List Value} {M : aM} : am_run (c_Waiting_append) k_Waiting_append J K (n + 1) 15 L S M = ai_aload 0 16 (am_run (c_Waiting_append) k_Waiting_append J K n) K 15 L S M := by rfl
theorem r_Waiting_append_16 {J : aJ} {K : aR} {n : Nat} {L : aL} {S : List Value} {M : aM} : am_run (c_Waiting_append) k_Waiting_append J K (n + 1) 16 L S M = ai_getf 4 2 19 (am_run (c_Waiting_append) k_Waiting_append J K n) K 16 L S M := by rfl
theorem r_Waiting_append_19 {J : aJ} {K : aR} {n : Nat} {L : aL} {S : List Value} {M : aM} : am_run (c_Waiting_append) k_Waiting_append J K (n + 1) 19 L S M = ai_iadd 20 (am_run (c_Waiting_append) k_Waiting_append J K n) K 19 L S M := by rfl
theorem r_Waiting_append_20 {J : aJ} {K : aR} {n : Nat} {L : aL} {S : List Value} {M : aM} : am_run (c_Waiting_append) k_Waiting_append J K (n + 1) 20 L S M = ai_const 500 23 (am_run (c_Waiting_append) k_Waiting_append J K n) K 20 L S M := by rfl
theorem r_Waiting_append_23 {J : aJ} {K : aR} {n : Nat} {L : aL} {S : List Value} {M : aM} : am_run (c_Waiting_append) k_Waiting_append J K (n + 1) 23 L S M = ai_cmpge 38 26 (am_run (c_Waiting_append) k_Waiting_append J K n) K 23 L S M := by rfl
theorem r_Waiting_append_26 {J : aJ} {K : aR} {n : Nat} {L : aL} {S : List Value} {M : aM} : am_run (c_Waiting_append) k_Waiting_append J K (n + 1) 26 L S M = ai_aload 0 27 (am_run (c_Waiting_append) k_Waiting_append J K n) K 26 L S M := by rfl
theorem r_Waiting_append_27 {J : aJ} {K : aR} {n : Nat} {L : aL} {S : List Value} {M : aM} : am_run (c_Waiting_append) k_Waiting_append J K (n + 1) 27 L S M = ai_getf 4 1 30 (am_run (c_Waiting_append) k_Waiting_append J K n) K 27 L S M := by rfl
theorem r_Waiting_append_30 {J : aJ} {K : aR} {n : Nat} {L : aL} {S : List Value} {M : aM} : am_run (c_Waiting_append) k_Waiting_append J K (n + 1) 30 L S M = ai_aload 0 31 (am_run (c_Waiting_append) k_Waiting_append J K n) K 30 L S M := by rfl
theorem r_Waiting_append_31 {J : aJ} {K : aR} {n : Nat} {L : aL} {S : List Value} {M : aM} : am_run (c_Waiting_append) k_Waiting_append J K (n + 1) 31 L S M = ai_getf 4 2 34 (am_run (c_Waiting_append) k_Waiting_append J K n) K 31 L S M := by rfl
theorem r_Waiting_append_34 {J : aJ} {K : aR} {n : Nat} {L : aL} {S : List Value} {M : aM} : am_run (c_Waiting_append) k_Waiting_append J K (n + 1) 34 L S M = ai_iadd 35 (am_run (c_Waiting_append) k_Waiting_append J K n) K 34 L S M := by rfl
theorem r_Waiting_append_35 {J : aJ} {K : aR} {n : Nat} {L : aL} {S : List Value} {M : aM} : am_run (c_Waiting_append) k_Waiting_append J K (n + 1) 35 L S M = ai_goto 51 (am_run (c_Waiting_append) k_Waiting_append J K n) K 35 L S M := by rfl
theorem r_Waiting_append_38 {J : aJ} {K : aR} {n : Nat} {L : aL} {S : List Value} {M : aM} : am_run (c_Waiting_append) k_Waiting_append J K (n + 1) 38 L S M = ai_aload 0 39 (am_run (c_Waiting_append) k_Waiting_append J K n) K 38 L S M := by rfl
theorem r_Waiting_append_39 {J : aJ} {K : aR} {n : Nat} {L : aL} {S : List Value} {M : aM} : am_run (c_Waiting_append) k_Waiting_append J K (n + 1) 39 L S M = ai_getf 4 1 42 (am_run (c_Waiting_append) k_Waiting_append J K n) K 39 L S M := by rfl
theorem r_Waiting_append_42 {J : aJ} {K : aR} {n : Nat} {L : aL} {S : List Value} {M : aM} : am_run (c_Waiting_append) k_Waiting_append J K (n + 1) 42 L S M = ai_aload 0 43 (am_run (c_Waiting_append) k_Waiting_append J K n) K 42 L S M := by rfl
theorem r_Waiting_append_43 {J : aJ} {K : aR} {n : Nat} {L : aL} {S : List Value} {M : aM} : am_run (c_Waiting_append) k_Waiting_append J K (n + 1) 43 L S M = ai_getf 4 2 46 (am_run (c_Waiting_append) k_Waiting_append J K n) K 43 L S M := by rfl
theorem r_Waiting_append_46 {J : aJ} {K : aR} {n : Nat} {L : aL} {S : List Value} {M : aM} : am_run (c_Waiting_append) k_Waiting_append J K (n + 1) 46 L S M = ai_iadd 47 (am_run (c_Waiting_append) k_Waiting_append J K n) K 46 L S M := by rfl
theorem r_Waiting_append_47 {J : aJ} {K : aR} {n : Nat} {L : aL} {S : List Value} {M : aM} : am_run (c_Waiting_append) k_Waiting_append J K (n + 1) 47 L S M = ai_const 500 50 (am_run (c_Waiting_append) k_Waiting_append J K n) K 47 L S M := by rfl
theorem r_Waiting_append_50 {J : aJ} {K : aR} {n : Nat} {L : aL} {S : List Value} {M : aM} : am_run (c_Waiting_append) k_Waiting_append J K (n + 1) 50 L S M = ai_isub 51 (am_run (c_Waiting_append) k_Waiting_append J K n) K 50 L S M := by rfl
theorem r_Waiting_append_51 {J : aJ} {K : aR} {n : Nat} {L : aL} {S : List Value} {M : aM} : am_run (c_Waiting_append) k_Waiting_append J K (n + 1) 51 L S M = ai_istore 2 52 (am_run (c_Waiting_append) k_Waiting_append J K n) K 51 L S M := by rfl
theorem r_Waiting_append_52 {J : aJ} {K : aR} {n : Nat} {L : aL} {S : List Value} {M : aM} : am_run (c_Waiting_append) k_Waiting_append J K (n + 1) 52 L S M = ai_iload 2 53 (am_run (c_Waiting_append) k_Waiting_append J K n) K 52 L S M := by rfl
theorem r_Waiting_append_53 {J : aJ} {K : aR} {n : Nat} {L : aL} {S : List Value} {M : aM} : am_run (c_Waiting_append) k_Waiting_append J K (n + 1) 53 L S M = ai_iflt 80 56 (am_run (c_Waiting_append) k_Waiting_append J K n) K 53 L S M := by rfl
theorem r_Waiting_append_56 {J : aJ} {K : aR} {n : Nat} {L : aL} {S : List Value} {M : aM} : am_run (c_Waiting_append) k_Waiting_append J K (n + 1) 56 L S M = ai_iload 2 57 (am_run (c_Waiting_append) k_Waiting_append J K n) K 56 L S M := by rfl
theorem r_Waiting_append_57 {J : aJ} {K : aR} {n : Nat} {L : aL} {S : List Value} {M : aM} : am_run (c_Waiting_append) k_Waiting_append J K (n + 1) 57 L S M = ai_const 500 60 (am_run (c_Waiting_append) k_Waiting_append J K n) K 57 L S M := by rfl
theorem r_Waiting_append_60 {J : aJ} {K : aR} {n : Nat} {L : aL} {S : List Value} {M : aM} : am_run (c_Waiting_append) k_Waiting_append J K (n + 1) 60 L S M = ai_cmpge 80 63 (am_run (c_Waiting_append) k_Waiting_append J K n) K 60 L S M := by rfl
theorem r_Waiting_append_63 {J : aJ} {K : aR} {n : Nat} {L : aL} {S : List Value} {M : aM} : am_run (c_Waiting_append) k_Waiting_append J K (n + 1) 63 L S M = ai_aload 0 64 (am_run (c_Waiting_append) k_Waiting_append J K n) K 63 L S M := by rfl
theorem r_Waiting_append_64 {J : aJ} {K : aR} {n : Nat} {L : aL} {S : List Value} {M : aM} : am_run (c_Waiting_append) k_Waiting_append J K (n + 1) 64 L S M = ai_getf 4 0 67 (am_run (c_Waiting_append) k_Waiting_append J K n) K 64 L S M := by rfl
theorem r_Waiting_append_67 {J : aJ} {K : aR} {n : Nat} {L : aL} {S : List Value} {M : aM} : am_run (c_Waiting_append) k_Waiting_append J K (n + 1) 67 L S M = ai_iload 2 68 (am_run (c_Waiting_append) k_Waiting_append J K n) K 67 L S M := by rfl
theorem r_Waiting_append_68 {J : aJ} {K : aR} {n : Nat} {L : aL} {S : List Value} {M : aM} : am_run (c_Waiting_append) k_Waiting_append J K (n + 1) 68 L S M = ai_iload 1 69 (am_run (c_Waiting_append) k_Waiting_append J K n) K 68 L S M := by rfl
theorem r_Waiting_append_69 {J : aJ} {K : aR} {n : Nat} {L : aL} {S : List Value} {M : aM} : am_run (c_Waiting_append) k_Waiting_append J K (n + 1) 69 L S M = ai_iast 70 (am_run (c_Waiting_append) k_Waiting_append J K n) K 69 L S M := by rfl
theorem r_Waiting_append_70 {J : aJ} {K : aR} {n : Nat} {L : aL} {S : List Value} {M : aM} : am_run (c_Waiting_append) k_Waiting_append J K (n + 1) 70 L S M = ai_aload 0 71 (am_run (c_Waiting_append) k_Waiting_append J K n) K 70 L S M := by rfl
theorem r_Waiting_append_71 {J : aJ} {K : aR} {n : Nat} {L : aL} {S : List Value} {M : aM} : am_run (c_Waiting_append) k_Waiting_append J K (n + 1) 71 L S M = ai_dup 72 (am_run (c_Waiting_append) k_Waiting_append J K n) K 71 L S M := by rfl
theorem r_Waiting_append_72 {J : aJ} {K : aR} {n : Nat} {L : aL} {S : List Value} {M : aM} : am_run (c_Waiting_append) k_Waiting_append J K (n + 1) 72 L S M = ai_getf 4 2 75 (am_run (c_Waiting_append) k_Waiting_append J K n) K 72 L S M := by rfl
theorem r_Waiting_append_75 {J : aJ} {K : aR} {n : Nat} {L : aL} {S : List Value} {M : aM} : am_run (c_Waiting_append) k_Waiting_append J K (n + 1) 75 L S M = ai_const 1 76 (am_run (c_Waiting_append) k_Waiting_append J K n) K 75 L S M := by rfl
theorem r_Waiting_append_76 {J : aJ} {K : aR} {n : Nat} {L : aL} {S : List Value} {M : aM} : am_run (c_Waiting_append) k_Waiting_append J K (n + 1) 76 L S M = ai_iadd 77 (am_run (c_Waiting_append) k_Waiting_append J K n) K 76 L S M := by rfl
theorem r_Waiting_append_77 {J : aJ} {K : aR} {n : Nat} {L : aL} {S : List Value} {M : aM} : am_run (c_Waiting_append) k_Waiting_append J K (n + 1) 77 L S M = ai_putf 4 2 80 (am_run (c_Waiting_append) k_Waiting_append J K n) K 77 L S M := by rfl
theorem r_Waiting_append_80 {J : aJ} {K : aR} {n : Nat} {L : aL} {S : List Value} {M : aM} : am_run (c_Waiting_append) k_Waiting_append J K (n + 1) 80 L S M = ai_vret (am_run (c_Waiting_append) k_Waiting_append J K n) K 80 L S M := by rfl
def c_Waiting_take : List (Nat × aI) := [
  (0, ai_aload 0 1),
  (1, ai_getf 4 2 4),
  (4, ai_ifle 24 7),
  (7, ai_aload 0 8),
  (8, ai_getf 4 1 11),
  (11, ai_iflt 24 14),
  (14, ai_aload 0 15),
  (15, ai_getf 4 1 18),
  (18, ai_const 500 21),
  (21, ai_cmplt 26 24),
  (24, ai_const 0 25),
  (25, ai_iret),
  (26, ai_aload 0 27),
  (27, ai_getf 4 0 30),
  (30, ai_aload 0 31),
  (31, ai_getf 4 1 34),
  (34, ai_iald 35),
  (35, ai_istore 1 36),
  (36, ai_aload 0 37),
  (37, ai_aload 0 38),
  (38, ai_getf 4 1 41),
  (41, ai_const 1 42),
  (42, ai_iadd 43),
  (43, ai_const 500 46),
  (46, ai_cmpge 58 49),
  (49, ai_aload 0 50),
  (50, ai_getf 4 1 53),
  (53, ai_const 1 54),
  (54, ai_iadd 55),
  (55, ai_goto 59),
  (58, ai_const 0 59),
  (59, ai_putf 4 1 62),
  (62, ai_aload 0 63),
  (63, ai_dup 64),
  (64, ai_getf 4 2 67),
  (67, ai_const 1 68),
  (68, ai_isub 69),
  (69, ai_putf 4 2 72),
  (72, ai_iload 1 73),
  (73, ai_iret)]
set_option maxRecDepth 100000 in
set_option maxHeartbeats 4000000 in
theorem tb_Waiting_take {G : aG} {d : Nat} : am_tab G Y_Waiting_take d (c_Waiting_take) := by
  intro K p e s m args below meth c C
  exact ⟨as_aload_n C (pc := 0) (q := 0) (by decide +kernel) rfl rfl,
    as_getf C (pc := 1) (T := T_Waiting) (N := 3) rfl in_Waiting (by decide) rfl w_201 (by decide +kernel) rfl,
    as_ifle C (pc := 4) (off := 20) (by decide +kernel) (by decide) rfl,
    as_aload_n C (pc := 7) (q := 0) (by decide +kernel) rfl rfl,
    as_getf C (pc := 8) (T := T_Waiting) (N := 3) rfl in_Waiting (by decide) rfl w_200 (by decide +kernel) rfl,
    as_iflt C (pc := 11) (off := 13) (by decide +kernel) (by decide) rfl,
    as_aload_n C (pc := 14) (q := 0) (by decide +kernel) rfl rfl,
    as_getf C (pc := 15) (T := T_Waiting) (N := 3) rfl in_Waiting (by decide) rfl w_200 (by decide +kernel) rfl,
    as_sipush C (pc := 18) (n := 500) (by decide +kernel) (by decide +kernel) rfl,
    as_cmplt C (pc := 21) (off := 5) (by decide +kernel) (by decide) rfl,
    as_iconst C (pc := 24) (n := 0) (by decide +kernel) (by decide +kernel) rfl,
    as_iret C (pc := 25) rfl (by decide +kernel),
    as_aload_n C (pc := 26) (q := 0) (by decide +kernel) rfl rfl,
    as_getf C (pc := 27) (T := T_Waiting) (N := 3) rfl in_Waiting (by decide) rfl w_199 (by decide +kernel) rfl,
    as_aload_n C (pc := 30) (q := 0) (by decide +kernel) rfl rfl,
    as_getf C (pc := 31) (T := T_Waiting) (N := 3) rfl in_Waiting (by decide) rfl w_200 (by decide +kernel) rfl,
    as_iald C (pc := 34) (by decide +kernel) rfl,
    as_istore_n C (pc := 35) (q := 1) (by decide +kernel) rfl (by decide) rfl,
    as_aload_n C (pc := 36) (q := 0) (by decide +kernel) rfl rfl,
    as_aload_n C (pc := 37) (q := 0) (by decide +kernel) rfl rfl,
    as_getf C (pc := 38) (T := T_Waiting) (N := 3) rfl in_Waiting (by decide) rfl w_200 (by decide +kernel) rfl,
    as_iconst C (pc := 41) (n := 1) (by decide +kernel) (by decide +kernel) rfl,
    as_iadd C (pc := 42) (by decide +kernel) rfl,
    as_sipush C (pc := 43) (n := 500) (by decide +kernel) (by decide +kernel) rfl,
    as_cmpge C (pc := 46) (off := 12) (by decide +kernel) (by decide) rfl,
    as_aload_n C (pc := 49) (q := 0) (by decide +kernel) rfl rfl,
    as_getf C (pc := 50) (T := T_Waiting) (N := 3) rfl in_Waiting (by decide) rfl w_200 (by decide +kernel) rfl,
    as_iconst C (pc := 53) (n := 1) (by decide +kernel) (by decide +kernel) rfl,
    as_iadd C (pc := 54) (by decide +kernel) rfl,
    as_goto C (pc := 55) (off := 4) (by decide +kernel) (by decide),
    as_iconst C (pc := 58) (n := 0) (by decide +kernel) (by decide +kernel) rfl,
    as_putf C (pc := 59) t_Waiting (T := T_Waiting) (N := 3) rfl in_Waiting tok_Waiting nm_Waiting (by decide) rfl rfl (by decide +kernel) w_200 (by decide +kernel) rfl,
    as_aload_n C (pc := 62) (q := 0) (by decide +kernel) rfl rfl,
    as_dup C (pc := 63) (by decide +kernel) rfl,
    as_getf C (pc := 64) (T := T_Waiting) (N := 3) rfl in_Waiting (by decide) rfl w_201 (by decide +kernel) rfl,
    as_iconst C (pc := 67) (n := 1) (by decide +kernel) (by decide +kernel) rfl,
    as_isub C (pc := 68) (by decide +kernel) rfl,
    as_putf C (pc := 69) t_Waiting (T := T_Waiting) (N := 3) rfl in_Waiting tok_Waiting nm_Waiting (by decide) rfl rfl (by decide +kernel) w_201 (by decide +kernel) rfl,
    as_iload_n C (pc := 72) (q := 1) (by decide +kernel) rfl rfl,
    as_iret C (pc := 73) rfl (by decide +kernel), trivial⟩
abbrev k_Waiting_take : List Nat := []
theorem r_Waiting_take_0 {J : aJ} {K : aR} {n : Nat} {L : aL} {S : List Value} {M : aM} : am_run (c_Waiting_take) k_Waiting_take J K (n + 1) 0 L S M = ai_aload 0 1 (am_run (c_Waiting_take) k_Waiting_take J K n) K 0 L S M := by rfl
theorem r_Waiting_take_1 {J : aJ} {K : aR} {n : Nat} {L : aL} {S : List Value} {M : aM} : am_run (c_Waiting_take) k_Waiting_take J K (n + 1) 1 L S M = ai_getf 4 2 4 (am_run (c_Waiting_take) k_Waiting_take J K n) K 1 L S M := by rfl
theorem r_Waiting_take_4 {J : aJ} {K : aR} {n : Nat} {L : aL} {S : List Value} {M : aM} : am_run (c_Waiting_take) k_Waiting_take J K (n + 1) 4 L S M = ai_ifle 24 7 (am_run (c_Waiting_take) k_Waiting_take J K n) K 4 L S M := by rfl
theorem r_Waiting_take_7 {J : aJ} {K : aR} {n : Nat} {L : aL} {S : List Value} {M : aM} : am_run (c_Waiting_take) k_Waiting_take J K (n + 1) 7 L S M = ai_aload 0 8 (am_run (c_Waiting_take) k_Waiting_take J K n) K 7 L S M := by rfl
theorem r_Waiting_take_8 {J : aJ} {K : aR} {n : Nat} {L : aL} {S : List Value} {M : aM} : am_run (c_Waiting_take) k_Waiting_take J K (n + 1) 8 L S M = ai_getf 4 1 11 (am_run (c_Waiting_take) k_Waiting_take J K n) K 8 L S M := by rfl
theorem r_Waiting_take_11 {J : aJ} {K : aR} {n : Nat} {L : aL} {S : List Value} {M : aM} : am_run (c_Waiting_take) k_Waiting_take J K (n + 1) 11 L S M = ai_iflt 24 14 (am_run (c_Waiting_take) k_Waiting_take J K n) K 11 L S M := by rfl
theorem r_Waiting_take_14 {J : aJ} {K : aR} {n : Nat} {L : aL} {S : List Value} {M : aM} : am_run (c_Waiting_take) k_Waiting_take J K (n + 1) 14 L S M = ai_aload 0 15 (am_run (c_Waiting_take) k_Waiting_take J K n) K 14 L S M := by rfl
theorem r_Waiting_take_15 {J : aJ} {K : aR} {n : Nat} {L : aL} {S : List Value} {M : aM} : am_run (c_Waiting_take) k_Waiting_take J K (n + 1) 15 L S M = ai_getf 4 1 18 (am_run (c_Waiting_take) k_Waiting_take J K n) K 15 L S M := by rfl
theorem r_Waiting_take_18 {J : aJ} {K : aR} {n : Nat} {L : aL} {S : List Value} {M : aM} : am_run (c_Waiting_take) k_Waiting_take J K (n + 1) 18 L S M = ai_const 500 21 (am_run (c_Waiting_take) k_Waiting_take J K n) K 18 L S M := by rfl
theorem r_Waiting_take_21 {J : aJ} {K : aR} {n : Nat} {L : aL} {S : List Value} {M : aM} : am_run (c_Waiting_take) k_Waiting_take J K (n + 1) 21 L S M = ai_cmplt 26 24 (am_run (c_Waiting_take) k_Waiting_take J K n) K 21 L S M := by rfl
theorem r_Waiting_take_24 {J : aJ} {K : aR} {n : Nat} {L : aL} {S : List Value} {M : aM} : am_run (c_Waiting_take) k_Waiting_take J K (n + 1) 24 L S M = ai_const 0 25 (am_run (c_Waiting_take) k_Waiting_take J K n) K 24 L S M := by rfl
theorem r_Waiting_take_25 {J : aJ} {K : aR} {n : Nat} {L : aL} {S : List Value} {M : aM} : am_run (c_Waiting_take) k_Waiting_take J K (n + 1) 25 L S M = ai_iret (am_run (c_Waiting_take) k_Waiting_take J K n) K 25 L S M := by rfl
theorem r_Waiting_take_26 {J : aJ} {K : aR} {n : Nat} {L : aL} {S : List Value} {M : aM} : am_run (c_Waiting_take) k_Waiting_take J K (n + 1) 26 L S M = ai_aload 0 27 (am_run (c_Waiting_take) k_Waiting_take J K n) K 26 L S M := by rfl
theorem r_Waiting_take_27 {J : aJ} {K : aR} {n : Nat} {L : aL} {S : List Value} {M : aM} : am_run (c_Waiting_take) k_Waiting_take J K (n + 1) 27 L S M = ai_getf 4 0 30 (am_run (c_Waiting_take) k_Waiting_take J K n) K 27 L S M := by rfl
theorem r_Waiting_take_30 {J : aJ} {K : aR} {n : Nat} {L : aL} {S : List Value} {M : aM} : am_run (c_Waiting_take) k_Waiting_take J K (n + 1) 30 L S M = ai_aload 0 31 (am_run (c_Waiting_take) k_Waiting_take J K n) K 30 L S M := by rfl
theorem r_Waiting_take_31 {J : aJ} {K : aR} {n : Nat} {L : aL} {S : List Value} {M : aM} : am_run (c_Waiting_take) k_Waiting_take J K (n + 1) 31 L S M = ai_getf 4 1 34 (am_run (c_Waiting_take) k_Waiting_take J K n) K 31 L S M := by rfl
theorem r_Waiting_take_34 {J : aJ} {K : aR} {n : Nat} {L : aL} {S : List Value} {M : aM} : am_run (c_Waiting_take) k_Waiting_take J K (n + 1) 34 L S M = ai_iald 35 (am_run (c_Waiting_take) k_Waiting_take J K n) K 34 L S M := by rfl
theorem r_Waiting_take_35 {J : aJ} {K : aR} {n : Nat} {L : aL} {S : List Value} {M : aM} : am_run (c_Waiting_take) k_Waiting_take J K (n + 1) 35 L S M = ai_istore 1 36 (am_run (c_Waiting_take) k_Waiting_take J K n) K 35 L S M := by rfl
theorem r_Waiting_take_36 {J : aJ} {K : aR} {n : Nat} {L : aL} {S : List Value} {M : aM} : am_run (c_Waiting_take) k_Waiting_take J K (n + 1) 36 L S M = ai_aload 0 37 (am_run (c_Waiting_take) k_Waiting_take J K n) K 36 L S M := by rfl
theorem r_Waiting_take_37 {J : aJ} {K : aR} {n : Nat} {L : aL} {S : List Value} {M : aM} : am_run (c_Waiting_take) k_Waiting_take J K (n + 1) 37 L S M = ai_aload 0 38 (am_run (c_Waiting_take) k_Waiting_take J K n) K 37 L S M := by rfl
theorem r_Waiting_take_38 {J : aJ} {K : aR} {n : Nat} {L : aL} {S : List Value} {M : aM} : am_run (c_Waiting_take) k_Waiting_take J K (n + 1) 38 L S M = ai_getf 4 1 41 (am_run (c_Waiting_take) k_Waiting_take J K n) K 38 L S M := by rfl
theorem r_Waiting_take_41 {J : aJ} {K : aR} {n : Nat} {L : aL} {S : List Value} {M : aM} : am_run (c_Waiting_take) k_Waiting_take J K (n + 1) 41 L S M = ai_const 1 42 (am_run (c_Waiting_take) k_Waiting_take J K n) K 41 L S M := by rfl
theorem r_Waiting_take_42 {J : aJ} {K : aR} {n : Nat} {L : aL} {S : List Value} {M : aM} : am_run (c_Waiting_take) k_Waiting_take J K (n + 1) 42 L S M = ai_iadd 43 (am_run (c_Waiting_take) k_Waiting_take J K n) K 42 L S M := by rfl
theorem r_Waiting_take_43 {J : aJ} {K : aR} {n : Nat} {L : aL} {S : List Value} {M : aM} : am_run (c_Waiting_take) k_Waiting_take J K (n + 1) 43 L S M = ai_const 500 46 (am_run (c_Waiting_take) k_Waiting_take J K n) K 43 L S M := by rfl
theorem r_Waiting_take_46 {J : aJ} {K : aR} {n : Nat} {L : aL} {S : List Value} {M : aM} : am_run (c_Waiting_take) k_Waiting_take J K (n + 1) 46 L S M = ai_cmpge 58 49 (am_run (c_Waiting_take) k_Waiting_take J K n) K 46 L S M := by rfl
theorem r_Waiting_take_49 {J : aJ} {K : aR} {n : Nat} {L : aL} {S : List Value} {M : aM} : am_run (c_Waiting_take) k_Waiting_take J K (n + 1) 49 L S M = ai_aload 0 50 (am_run (c_Waiting_take) k_Waiting_take J K n) K 49 L S M := by rfl
theorem r_Waiting_take_50 {J : aJ} {K : aR} {n : Nat} {L : aL} {S : List Value} {M : aM} : am_run (c_Waiting_take) k_Waiting_take J K (n + 1) 50 L S M = ai_getf 4 1 53 (am_run (c_Waiting_take) k_Waiting_take J K n) K 50 L S M := by rfl
theorem r_Waiting_take_53 {J : aJ} {K : aR} {n : Nat} {L : aL} {S : List Value} {M : aM} : am_run (c_Waiting_take) k_Waiting_take J K (n + 1) 53 L S M = ai_const 1 54 (am_run (c_Waiting_take) k_Waiting_take J K n) K 53 L S M := by rfl
theorem r_Waiting_take_54 {J : aJ} {K : aR} {n : Nat} {L : aL} {S : List Value} {M : aM} : am_run (c_Waiting_take) k_Waiting_take J K (n + 1) 54 L S M = ai_iadd 55 (am_run (c_Waiting_take) k_Waiting_take J K n) K 54 L S M := by rfl
theorem r_Waiting_take_55 {J : aJ} {K : aR} {n : Nat} {L : aL} {S : List Value} {M : aM} : am_run (c_Waiting_take) k_Waiting_take J K (n + 1) 55 L S M = ai_goto 59 (am_run (c_Waiting_take) k_Waiting_take J K n) K 55 L S M := by rfl
theorem r_Waiting_take_58 {J : aJ} {K : aR} {n : Nat} {L : aL} {S : List Value} {M : aM} : am_run (c_Waiting_take) k_Waiting_take J K (n + 1) 58 L S M = ai_const 0 59 (am_run (c_Waiting_take) k_Waiting_take J K n) K 58 L S M := by rfl
theorem r_Waiting_take_59 {J : aJ} {K : aR} {n : Nat} {L : aL} {S : List Value} {M : aM} : am_run (c_Waiting_take) k_Waiting_take J K (n + 1) 59 L S M = ai_putf 4 1 62 (am_run (c_Waiting_take) k_Waiting_take J K n) K 59 L S M := by rfl
theorem r_Waiting_take_62 {J : aJ} {K : aR} {n : Nat} {L : aL} {S : List Value} {M : aM} : am_run (c_Waiting_take) k_Waiting_take J K (n + 1) 62 L S M = ai_aload 0 63 (am_run (c_Waiting_take) k_Waiting_take J K n) K 62 L S M := by rfl
theorem r_Waiting_take_63 {J : aJ} {K : aR} {n : Nat} {L : aL} {S : List Value} {M : aM} : am_run (c_Waiting_take) k_Waiting_take J K (n + 1) 63 L S M = ai_dup 64 (am_run (c_Waiting_take) k_Waiting_take J K n) K 63 L S M := by rfl
theorem r_Waiting_take_64 {J : aJ} {K : aR} {n : Nat} {L : aL} {S : List Value} {M : aM} : am_run (c_Waiting_take) k_Waiting_take J K (n + 1) 64 L S M = ai_getf 4 2 67 (am_run (c_Waiting_take) k_Waiting_take J K n) K 64 L S M := by rfl
theorem r_Waiting_take_67 {J : aJ} {K : aR} {n : Nat} {L : aL} {S : List Value} {M : aM} : am_run (c_Waiting_take) k_Waiting_take J K (n + 1) 67 L S M = ai_const 1 68 (am_run (c_Waiting_take) k_Waiting_take J K n) K 67 L S M := by rfl
theorem r_Waiting_take_68 {J : aJ} {K : aR} {n : Nat} {L : aL} {S : List Value} {M : aM} : am_run (c_Waiting_take) k_Waiting_take J K (n + 1) 68 L S M = ai_isub 69 (am_run (c_Waiting_take) k_Waiting_take J K n) K 68 L S M := by rfl
theorem r_Waiting_take_69 {J : aJ} {K : aR} {n : Nat} {L : aL} {S : List Value} {M : aM} : am_run (c_Waiting_take) k_Waiting_take J K (n + 1) 69 L S M = ai_putf 4 2 72 (am_run (c_Waiting_take) k_Waiting_take J K n) K 69 L S M := by rfl
theorem r_Waiting_take_72 {J : aJ} {K : aR} {n : Nat} {L : aL} {S : List Value} {M : aM} : am_run (c_Waiting_take) k_Waiting_take J K (n + 1) 72 L S M = ai_iload 1 73 (am_run (c_Waiting_take) k_Waiting_take J K n) K 72 L S M := by rfl
theorem r_Waiting_take_73 {J : aJ} {K : aR} {n : Nat} {L : aL} {S : List Value} {M : aM} : am_run (c_Waiting_take) k_Waiting_take J K (n + 1) 73 L S M = ai_iret (am_run (c_Waiting_take) k_Waiting_take J K n) K 73 L S M := by rfl
