def c_Model_put : List (Nat × aI) := [
  (0, ai_iload 3 1),
  (1, ai_const 1 2),
  (2, ai_cmplt 23 5),
  (5, ai_iload 3 6),
  (6, ai_const 8 8),
  (8, ai_cmpgt 23 11),
  (11, ai_aload 0 12),
  (12, ai_getf 7 1 15),
  (15, ai_iload 3 16),
  (16, ai_iadd 17),
  (17, ai_const 400 20),
  (20, ai_cmple 25 23),
  (23, ai_const 0 24),
  (24, ai_zret),
  (25, ai_iload 3 26),
  (26, ai_const 1 27),
  (27, ai_isub 28),
  (28, ai_istore 4 30),
  (30, ai_iload 4 32),
  (32, ai_iflt 72 35),
  (35, ai_aload 0 36),
  (36, ai_getf 7 0 39),
  (39, ai_aload 0 40),
  (40, ai_getf 7 1 43),
  (43, ai_lload 1 44),
  (44, ai_const 8 46),
  (46, ai_iload 4 48),
  (48, ai_imul 49),
  (49, ai_lshr 50),
  (50, ai_l2i 51),
  (51, ai_const 255 54),
  (54, ai_iand 55),
  (55, ai_iast 56),
  (56, ai_aload 0 57),
  (57, ai_aload 0 58),
  (58, ai_getf 7 1 61),
  (61, ai_const 1 62),
  (62, ai_iadd 63),
  (63, ai_putf 7 1 66),
  (66, ai_iinc 4 (-1) 69),
  (69, ai_goto 30),
  (72, ai_const 1 73),
  (73, ai_zret)]
set_option maxRecDepth 100000 in
set_option maxHeartbeats 4000000 in
theorem tb_Model_put {G : aG} {d : Nat} : am_tab G Y_Model_put d (c_Model_put) := by
  intro K p e s m args below meth c C
  exact ⟨as_iload_n C (pc := 0) (q := 3) (by decide +kernel) rfl rfl,
    as_iconst C (pc := 1) (n := 1) (by decide +kernel) (by decide +kernel) rfl,
    as_cmplt C (pc := 2) (off := 21) (by decide +kernel) (by decide) rfl,
    as_iload_n C (pc := 5) (q := 3) (by decide +kernel) rfl rfl,
    as_bipush C (pc := 6) (n := 8) (by decide +kernel) (by decide +kernel) rfl,
    as_cmpgt C (pc := 8) (off := 15) (by decide +kernel) (by decide) rfl,
    as_aload_n C (pc := 11) (q := 0) (by decide +kernel) rfl rfl,
    as_getf C (pc := 12) (T := T_Model) (N := 21) rfl in_Model (by decide) rfl w_518 (by decide +kernel) rfl,
    as_iload_n C (pc := 15) (q := 3) (by decide +kernel) rfl rfl,
    as_iadd C (pc := 16) (by decide +kernel) rfl,
    as_sipush C (pc := 17) (n := 400) (by decide +kernel) (by decide +kernel) rfl,
    as_cmple C (pc := 20) (off := 5) (by decide +kernel) (by decide) rfl,
    as_iconst C (pc := 23) (n := 0) (by decide +kernel) (by decide +kernel) rfl,
    as_zret C (pc := 24) rfl (by decide +kernel),
    as_iload_n C (pc := 25) (q := 3) (by decide +kernel) rfl rfl,
    as_iconst C (pc := 26) (n := 1) (by decide +kernel) (by decide +kernel) rfl,
    as_isub C (pc := 27) (by decide +kernel) rfl,
    as_istore C (pc := 28) (k := 4) (by decide +kernel) (by decide) rfl,
    as_iload C (pc := 30) (k := 4) (by decide +kernel) rfl,
    as_iflt C (pc := 32) (off := 40) (by decide +kernel) (by decide) rfl,
    as_aload_n C (pc := 35) (q := 0) (by decide +kernel) rfl rfl,
    as_getf C (pc := 36) (T := T_Model) (N := 21) rfl in_Model (by decide) rfl w_517 (by decide +kernel) rfl,
    as_aload_n C (pc := 39) (q := 0) (by decide +kernel) rfl rfl,
    as_getf C (pc := 40) (T := T_Model) (N := 21) rfl in_Model (by decide) rfl w_518 (by decide +kernel) rfl,
    as_lload_n C (pc := 43) (q := 1) (by decide +kernel) rfl rfl,
    as_bipush C (pc := 44) (n := 8) (by decide +kernel) (by decide +kernel) rfl,
    as_iload C (pc := 46) (k := 4) (by decide +kernel) rfl,
    as_imul C (pc := 48) (by decide +kernel) rfl,
    as_lshr C (pc := 49) (by decide +kernel) rfl,
    as_l2i C (pc := 50) (by decide +kernel) rfl,
    as_sipush C (pc := 51) (n := 255) (by decide +kernel) (by decide +kernel) rfl,
    as_iand C (pc := 54) (by decide +kernel) rfl,
    as_iast C (pc := 55) (by decide +kernel) rfl,
    as_aload_n C (pc := 56) (q := 0) (by decide +kernel) rfl rfl,
    as_aload_n C (pc := 57) (q := 0) (by decide +kernel) rfl rfl,
    as_getf C (pc := 58) (T := T_Model) (N := 21) rfl in_Model (by decide) rfl w_518 (by decide +kernel) rfl,
    as_iconst C (pc := 61) (n := 1) (by decide +kernel) (by decide +kernel) rfl,
    as_iadd C (pc := 62) (by decide +kernel) rfl,
    as_putf C (pc := 63) t_Model (T := T_Model) (N := 21) rfl in_Model tok_Model nm_Model (by decide) rfl rfl (by decide +kernel) w_518 (by decide +kernel) rfl,
    as_iinc C (pc := 66) (k := 4) (n := (-1)) (by decide +kernel) (by decide +kernel) (by decide) rfl,
    as_goto C (pc := 69) (off := (-39)) (by decide +kernel) (by decide),
    as_iconst C (pc := 72) (n := 1) (by decide +kernel) (by decide +kernel) rfl,
    as_zret C (pc := 73) rfl (by decide +kernel), trivial⟩
abbrev k_Model_put : List Nat := [30]
theorem q_Model_put_30 : am_at (c_Model_put) 30 = ai_iload 4 32 := by rfl
theorem r_Model_put_0 {J : aJ} {K : aR} {n : Nat} {L : aL} {S : List Value} {M : aM} : am_run (c_Model_put) k_Model_put J K (n + 1) 0 L S M = ai_iload 3 1 (am_run (c_Model_put) k_Model_put J K n) K 0 L S M := by rfl
theorem r_Model_put_1 {J : aJ} {K : aR} {n : Nat} {L : aL} {S : List Value} {M : aM} : am_run (c_Model_put) k_Model_put J K (n + 1) 1 L S M = ai_const 1 2 (am_run (c_Model_put) k_Model_put J K n) K 1 L S M := by rfl
theorem r_Model_put_2 {J : aJ} {K : aR} {n : Nat} {L : aL} {S : List Value} {M : aM} : am_run (c_Model_put) k_Model_put J K (n + 1) 2 L S M = ai_cmplt 23 5 (am_run (c_Model_put) k_Model_put J K n) K 2 L S M := by rfl
theorem r_Model_put_5 {J : aJ} {K : aR} {n : Nat} {L : aL} {S : List Value} {M : aM} : am_run (c_Model_put) k_Model_put J K (n + 1) 5 L S M = ai_iload 3 6 (am_run (c_Model_put) k_Model_put J K n) K 5 L S M := by rfl
theorem r_Model_put_6 {J : aJ} {K : aR} {n : Nat} {L : aL} {S : List Value} {M : aM} : am_run (c_Model_put) k_Model_put J K (n + 1) 6 L S M = ai_const 8 8 (am_run (c_Model_put) k_Model_put J K n) K 6 L S M := by rfl
theorem r_Model_put_8 {J : aJ} {K : aR} {n : Nat} {L : aL} {S : List Value} {M : aM} : am_run (c_Model_put) k_Model_put J K (n + 1) 8 L S M = ai_cmpgt 23 11 (am_run (c_Model_put) k_Model_put J K n) K 8 L S M := by rfl
theorem r_Model_put_11 {J : aJ} {K : aR} {n : Nat} {L : aL} {S : List Value} {M : aM} : am_run (c_Model_put) k_Model_put J K (n + 1) 11 L S M = ai_aload 0 12 (am_run (c_Model_put) k_Model_put J K n) K 11 L S M := by rfl
theorem r_Model_put_12 {J : aJ} {K : aR} {n : Nat} {L : aL} {S : List Value} {M : aM} : am_run (c_Model_put) k_Model_put J K (n + 1) 12 L S M = ai_getf 7 1 15 (am_run (c_Model_put) k_Model_put J K n) K 12 L S M := by rfl
theorem r_Model_put_15 {J : aJ} {K : aR} {n : Nat} {L : aL} {S : List Value} {M : aM} : am_run (c_Model_put) k_Model_put J K (n + 1) 15 L S M = ai_iload 3 16 (am_run (c_Model_put) k_Model_put J K n) K 15 L S M := by rfl
theorem r_Model_put_16 {J : aJ} {K : aR} {n : Nat} {L : aL} {S : List Value} {M : aM} : am_run (c_Model_put) k_Model_put J K (n + 1) 16 L S M = ai_iadd 17 (am_run (c_Model_put) k_Model_put J K n) K 16 L S M := by rfl
theorem r_Model_put_17 {J : aJ} {K : aR} {n : Nat} {L : aL} {S : List Value} {M : aM} : am_run (c_Model_put) k_Model_put J K (n + 1) 17 L S M = ai_const 400 20 (am_run (c_Model_put) k_Model_put J K n) K 17 L S M := by rfl
theorem r_Model_put_20 {J : aJ} {K : aR} {n : Nat} {L : aL} {S : List Value} {M : aM} : am_run (c_Model_put) k_Model_put J K (n + 1) 20 L S M = ai_cmple 25 23 (am_run (c_Model_put) k_Model_put J K n) K 20 L S M := by rfl
theorem r_Model_put_23 {J : aJ} {K : aR} {n : Nat} {L : aL} {S : List Value} {M : aM} : am_run (c_Model_put) k_Model_put J K (n + 1) 23 L S M = ai_const 0 24 (am_run (c_Model_put) k_Model_put J K n) K 23 L S M := by rfl
theorem r_Model_put_24 {J : aJ} {K : aR} {n : Nat} {L : aL} {S : List Value} {M : aM} : am_run (c_Model_put) k_Model_put J K (n + 1) 24 L S M = ai_zret (am_run (c_Model_put) k_Model_put J K n) K 24 L S M := by rfl
theorem r_Model_put_25 {J : aJ} {K : aR} {n : Nat} {L : aL} {S : List Value} {M : aM} : am_run (c_Model_put) k_Model_put J K (n + 1) 25 L S M = ai_iload 3 26 (am_run (c_Model_put) k_Model_put J K n) K 25 L S M := by rfl
theorem r_Model_put_26 {J : aJ} {K : aR} {n : Nat} {L : aL} {S : List Value} {M : aM} : am_run (c_Model_put) k_Model_put J K (n + 1) 26 L S M = ai_const 1 27 (am_run (c_Model_put) k_Model_put J K n) K 26 L S M := by rfl
theorem r_Model_put_27 {J : aJ} {K : aR} {n : Nat} {L : aL} {S : List Value} {M : aM} : am_run (c_Model_put) k_Model_put J K (n + 1) 27 L S M = ai_isub 28 (am_run (c_Model_put) k_Model_put J K n) K 27 L S M := by rfl
theorem r_Model_put_28 {J : aJ} {K : aR} {n : Nat} {L : aL} {S : List Value} {M : aM} : am_run (c_Model_put) k_Model_put J K (n + 1) 28 L S M = ai_istore 4 30 (am_run (c_Model_put) k_Model_put J K n) K 28 L S M := by rfl
theorem r_Model_put_30 {J : aJ} {K : aR} {n : Nat} {L : aL} {S : List Value} {M : aM} : am_run (c_Model_put) k_Model_put J K (n + 1) 30 L S M = J 30 L S M := by rfl
theorem r_Model_put_32 {J : aJ} {K : aR} {n : Nat} {L : aL} {S : List Value} {M : aM} : am_run (c_Model_put) k_Model_put J K (n + 1) 32 L S M = ai_iflt 72 35 (am_run (c_Model_put) k_Model_put J K n) K 32 L S M := by rfl
theorem r_Model_put_35 {J : aJ} {K : aR} {n : Nat} {L : aL} {S : List Value} {M : aM} : am_run (c_Model_put) k_Model_put J K (n + 1) 35 L S M = ai_aload 0 36 (am_run (c_Model_put) k_Model_put J K n) K 35 L S M := by rfl
theorem r_Model_put_36 {J : aJ} {K : aR} {n : Nat} {L : aL} {S : List Value} {M : aM} : am_run (c_Model_put) k_Model_put J K (n + 1) 36 L S M = ai_getf 7 0 39 (am_run (c_Model_put) k_Model_put J K n) K 36 L S M := by rfl
theorem r_Model_put_39 {J : aJ} {K : aR} {n : Nat} {L : aL} {S : List Value} {M : aM} : am_run (c_Model_put) k_Model_put J K (n + 1) 39 L S M = ai_aload 0 40 (am_run (c_Model_put) k_Model_put J K n) K 39 L S M := by rfl
theorem r_Model_put_40 {J : aJ} {K : aR} {n : Nat} {L : aL} {S : List Value} {M : aM} : am_run (c_Model_put) k_Model_put J K (n + 1) 40 L S M = ai_getf 7 1 43 (am_run (c_Model_put) k_Model_put J K n) K 40 L S M := by rfl
theorem r_Model_put_43 {J : aJ} {K : aR} {n : Nat} {L : aL} {S : List Value} {M : aM} : am_run (c_Model_put) k_Model_put J K (n + 1) 43 L S M = ai_lload 1 44 (am_run (c_Model_put) k_Model_put J K n) K 43 L S M := by rfl
theorem r_Model_put_44 {J : aJ} {K : aR} {n : Nat} {L : aL} {S : List Value} {M : aM} : am_run (c_Model_put) k_Model_put J K (n + 1) 44 L S M = ai_const 8 46 (am_run (c_Model_put) k_Model_put J K n) K 44 L S M := by rfl
theorem r_Model_put_46 {J : aJ} {K : aR} {n : Nat} {L : aL} {S : List Value} {M : aM} : am_run (c_Model_put) k_Model_put J K (n + 1) 46 L S M = ai_iload 4 48 (am_run (c_Model_put) k_Model_put J K n) K 46 L S M := by rfl
theorem r_Model_put_48 {J : aJ} {K : aR} {n : Nat} {L : aL} {S : List Value} {M : aM} : am_run (c_Model_put) k_Model_put J K (n + 1) 48 L S M = ai_imul 49 (am_run (c_Model_put) k_Model_put J K n) K 48 L S M := by rfl
theorem r_Model_put_49 {J : aJ} {K : aR} {n : Nat} {L : aL} {S : List Value} {M : aM} : am_run (c_Model_put) k_Model_put J K (n + 1) 49 L S M = ai_lshr 50 (am_run (c_Model_put) k_Model_put J K n) K 49 L S M := by rfl
theorem r_Model_put_50 {J : aJ} {K : aR} {n : Nat} {L : aL} {S : List Value} {M : aM} : am_run (c_Model_put) k_Model_put J K (n + 1) 50 L S M = ai_l2i 51 (am_run (c_Model_put) k_Model_put J K n) K 50 L S M := by rfl
theorem r_Model_put_51 {J : aJ} {K : aR} {n : Nat} {L : aL} {S : List Value} {M : aM} : am_run (c_Model_put) k_Model_put J K (n + 1) 51 L S M = ai_const 255 54 (am_run (c_Model_put) k_Model_put J K n) K 51 L S M := by rfl
theorem r_Model_put_54 {J : aJ} {K : aR} {n : Nat} {L : aL} {S : List Value} {M : aM} : am_run (c_Model_put) k_Model_put J K (n + 1) 54 L S M = ai_iand 55 (am_run (c_Model_put) k_Model_put J K n) K 54 L S M := by rfl
theorem r_Model_put_55 {J : aJ} {K : aR} {n : Nat} {L : aL} {S : List Value} {M : aM} : am_run (c_Model_put) k_Model_put J K (n + 1) 55 L S M = ai_iast 56 (am_run (c_Model_put) k_Model_put J K n) K 55 L S M := by rfl
theorem r_Model_put_56 {J : aJ} {K : aR} {n : Nat} {L : aL} {S : List Value} {M : aM} : am_run (c_Model_put) k_Model_put J K (n + 1) 56 L S M = ai_aload 0 57 (am_run (c_Model_put) k_Model_put J K n) K 56 L S M := by rfl
theorem r_Model_put_57 {J : aJ} {K : aR} {n : Nat} {L : aL} {S : List Value} {M : aM} : am_run (c_Model_put) k_Model_put J K (n + 1) 57 L S M = ai_aload 0 58 (am_run (c_Model_put) k_Model_put J K n) K 57 L S M := by rfl
theorem r_Model_put_58 {J : aJ} {K : aR} {n : Nat} {L : aL} {S : List Value} {M : aM} : am_run (c_Model_put) k_Model_put J K (n + 1) 58 L S M = ai_getf 7 1 61 (am_run (c_Model_put) k_Model_put J K n) K 58 L S M := by rfl
theorem r_Model_put_61 {J : aJ} {K : aR} {n : Nat} {L : aL} {S : List Value} {M : aM} : am_run (c_Model_put) k_Model_put J K (n + 1) 61 L S M = ai_const 1 62 (am_run (c_Model_put) k_Model_put J K n) K 61 L S M := by rfl
theorem r_Model_put_62 {J : aJ} {K : aR} {n : Nat} {L : aL} {S : List Value} {M : aM} : am_run (c_Model_put) k_Model_put J K (n + 1) 62 L S M = ai_iadd 63 (am_run (c_Model_put) k_Model_put J K n) K 62 L S M := by rfl
theorem r_Model_put_63 {J : aJ} {K : aR} {n : Nat} {L : aL} {S : List Value} {M : aM} : am_run (c_Model_put) k_Model_put J K (n + 1) 63 L S M = ai_putf 7 1 66 (am_run (c_Model_put) k_Model_put J K n) K 63 L S M := by rfl
theorem r_Model_put_66 {J : aJ} {K : aR} {n : Nat} {L : aL} {S : List Value} {M : aM} : am_run (c_Model_put) k_Model_put J K (n + 1) 66 L S M = ai_iinc 4 (-1) 69 (am_run (c_Model_put) k_Model_put J K n) K 66 L S M := by rfl
theorem r_Model_put_69 {J : aJ} {K : aR} {n : Nat} {L : aL} {S : List Value} {M : aM} : am_run (c_Model_put) k_Model_put J K (n + 1) 69 L S M = ai_goto 30 (am_run (c_Model_put) k_Model_put J K n) K 69 L S M := by rfl
theorem r_Model_put_72 {J : aJ} {K : aR} {n : Nat} {L : aL} {S : List Value} {M : aM} : am_run (c_Model_put) k_Model_put J K (n + 1) 72 L S M = ai_const 1 73 (am_run (c_Model_put) k_Model_put J K n) K 72 L S M := by rfl
theorem r_Model_put_73 {J : aJ} {K : aR} {n : Nat} {L : aL} {S : List Value} {M : aM} : am_run (c_Model_put) k_Model_put J K (n + 1) 73 L S M = ai_zret (am_run (c_Model_put) k_Model_put J K n) K 73 L S M := by rfl
def c_Model_peek : List (Nat × aI) := [
  (0, ai_aload 0 1),
  (1, ai_getf 7 2 4),
  (4, ai_iload 1 5),
  (5, ai_iadd 6),
  (6, ai_iflt 36 9),
  (9, ai_aload 0 10),
  (10, ai_getf 7 2 13),
  (13, ai_iload 1 14),
  (14, ai_iadd 15),
  (15, ai_aload 0 16),
  (16, ai_getf 7 1 19),
  (19, ai_cmpge 36 22),
  (22, ai_aload 0 23),
  (23, ai_getf 7 0 26),
  (26, ai_aload 0 27),
  (27, ai_getf 7 2 30),
  (30, ai_iload 1 31),
  (31, ai_iadd 32),
  (32, ai_iald 33),
  (33, ai_goto 37),
  (36, ai_const (-1) 37),
  (37, ai_iret)]
set_option maxRecDepth 100000 in
set_option maxHeartbeats 4000000 in
theorem tb_Model_peek {G : aG} {d : Nat} : am_tab G Y_Model_peek d (c_Model_peek) := by
  intro K p e s m args below meth c C
  exact ⟨as_aload_n C (pc := 0) (q := 0) (by decide +kernel) rfl rfl,
    as_getf C (pc := 1) (T := T_Model) (N := 21) rfl in_Model (by decide) rfl w_519 (by decide +kernel) rfl,
    as_iload_n C (pc := 4) (q := 1) (by decide +kernel) rfl rfl,
    as_iadd C (pc := 5) (by decide +kernel) rfl,
    as_iflt C (pc := 6) (off := 30) (by decide +kernel) (by decide) rfl,
    as_aload_n C (pc := 9) (q := 0) (by decide +kernel) rfl rfl,
    as_getf C (pc := 10) (T := T_Model) (N := 21) rfl in_Model (by decide) rfl w_519 (by decide +kernel) rfl,
    as_iload_n C (pc := 13) (q := 1) (by decide +kernel) rfl rfl,
    as_iadd C (pc := 14) (by decide +kernel) rfl,
    as_aload_n C (pc := 15) (q := 0) (by decide +kernel) rfl rfl,
    as_getf C (pc := 16) (T := T_Model) (N := 21) rfl in_Model (by decide) rfl w_518 (by decide +kernel) rfl,
    as_cmpge C (pc := 19) (off := 17) (by decide +kernel) (by decide) rfl,
    as_aload_n C (pc := 22) (q := 0) (by decide +kernel) rfl rfl,
    as_getf C (pc := 23) (T := T_Model) (N := 21) rfl in_Model (by decide) rfl w_517 (by decide +kernel) rfl,
    as_aload_n C (pc := 26) (q := 0) (by decide +kernel) rfl rfl,
    as_getf C (pc := 27) (T := T_Model) (N := 21) rfl in_Model (by decide) rfl w_519 (by decide +kernel) rfl,
    as_iload_n C (pc := 30) (q := 1) (by decide +kernel) rfl rfl,
    as_iadd C (pc := 31) (by decide +kernel) rfl,
    as_iald C (pc := 32) (by decide +kernel) rfl,
    as_goto C (pc := 33) (off := 4) (by decide +kernel) (by decide),
    as_iconst C (pc := 36) (n := (-1)) (by decide +kernel) (by decide +kernel) rfl,
    as_iret C (pc := 37) rfl (by decide +kernel), trivial⟩
abbrev k_Model_peek : List Nat := []
theorem r_Model_peek_0 {J : aJ} {K : aR} {n : Nat} {L : aL} {S : List Value} {M : aM} : am_run (c_Model_peek) k_Model_peek J K (n + 1) 0 L S M = ai_aload 0 1 (am_run (c_Model_peek) k_Model_peek J K n) K 0 L S M := by rfl
theorem r_Model_peek_1 {J : aJ} {K : aR} {n : Nat} {L : aL} {S : List Value} {M : aM} : am_run (c_Model_peek) k_Model_peek J K (n + 1) 1 L S M = ai_getf 7 2 4 (am_run (c_Model_peek) k_Model_peek J K n) K 1 L S M := by rfl
theorem r_Model_peek_4 {J : aJ} {K : aR} {n : Nat} {L : aL} {S : List Value} {M : aM} : am_run (c_Model_peek) k_Model_peek J K (n + 1) 4 L S M = ai_iload 1 5 (am_run (c_Model_peek) k_Model_peek J K n) K 4 L S M := by rfl
theorem r_Model_peek_5 {J : aJ} {K : aR} {n : Nat} {L : aL} {S : List Value} {M : aM} : am_run (c_Model_peek) k_Model_peek J K (n + 1) 5 L S M = ai_iadd 6 (am_run (c_Model_peek) k_Model_peek J K n) K 5 L S M := by rfl
theorem r_Model_peek_6 {J : aJ} {K : aR} {n : Nat} {L : aL} {S : List Value} {M : aM} : am_run (c_Model_peek) k_Model_peek J K (n + 1) 6 L S M = ai_iflt 36 9 (am_run (c_Model_peek) k_Model_peek J K n) K 6 L S M := by rfl
theorem r_Model_peek_9 {J : aJ} {K : aR} {n : Nat} {L : aL} {S : List Value} {M : aM} : am_run (c_Model_peek) k_Model_peek J K (n + 1) 9 L S M = ai_aload 0 10 (am_run (c_Model_peek) k_Model_peek J K n) K 9 L S M := by rfl
theorem r_Model_peek_10 {J : aJ} {K : aR} {n : Nat} {L : aL} {S : List Value} {M : aM} : am_run (c_Model_peek) k_Model_peek J K (n + 1) 10 L S M = ai_getf 7 2 13 (am_run (c_Model_peek) k_Model_peek J K n) K 10 L S M := by rfl
theorem r_Model_peek_13 {J : aJ} {K : aR} {n : Nat} {L : aL} {S : List Value} {M : aM} : am_run (c_Model_peek) k_Model_peek J K (n + 1) 13 L S M = ai_iload 1 14 (am_run (c_Model_peek) k_Model_peek J K n) K 13 L S M := by rfl
theorem r_Model_peek_14 {J : aJ} {K : aR} {n : Nat} {L : aL} {S : List Value} {M : aM} : am_run (c_Model_peek) k_Model_peek J K (n + 1) 14 L S M = ai_iadd 15 (am_run (c_Model_peek) k_Model_peek J K n) K 14 L S M := by rfl
theorem r_Model_peek_15 {J : aJ} {K : aR} {n : Nat} {L : aL} {S : List Value} {M : aM} : am_run (c_Model_peek) k_Model_peek J K (n + 1) 15 L S M = ai_aload 0 16 (am_run (c_Model_peek) k_Model_peek J K n) K 15 L S M := by rfl
theorem r_Model_peek_16 {J : aJ} {K : aR} {n : Nat} {L : aL} {S : List Value} {M : aM} : am_run (c_Model_peek) k_Model_peek J K (n + 1) 16 L S M = ai_getf 7 1 19 (am_run (c_Model_peek) k_Model_peek J K n) K 16 L S M := by rfl
theorem r_Model_peek_19 {J : aJ} {K : aR} {n : Nat} {L : aL} {S : List Value} {M : aM} : am_run (c_Model_peek) k_Model_peek J K (n + 1) 19 L S M = ai_cmpge 36 22 (am_run (c_Model_peek) k_Model_peek J K n) K 19 L S M := by rfl
theorem r_Model_peek_22 {J : aJ} {K : aR} {n : Nat} {L : aL} {S : List Value} {M : aM} : am_run (c_Model_peek) k_Model_peek J K (n + 1) 22 L S M = ai_aload 0 23 (am_run (c_Model_peek) k_Model_peek J K n) K 22 L S M := by rfl
theorem r_Model_peek_23 {J : aJ} {K : aR} {n : Nat} {L : aL} {S : List Value} {M : aM} : am_run (c_Model_peek) k_Model_peek J K (n + 1) 23 L S M = ai_getf 7 0 26 (am_run (c_Model_peek) k_Model_peek J K n) K 23 L S M := by rfl
theorem r_Model_peek_26 {J : aJ} {K : aR} {n : Nat} {L : aL} {S : List Value} {M : aM} : am_run (c_Model_peek) k_Model_peek J K (n + 1) 26 L S M = ai_aload 0 27 (am_run (c_Model_peek) k_Model_peek J K n) K 26 L S M := by rfl
theorem r_Model_peek_27 {J : aJ} {K : aR} {n : Nat} {L : aL} {S : List Value} {M : aM} : am_run (c_Model_peek) k_Model_peek J K (n + 1) 27 L S M = ai_getf 7 2 30 (am_run (c_Model_peek) k_Model_peek J K n) K 27 L S M := by rfl
theorem r_Model_peek_30 {J : aJ} {K : aR} {n : Nat} {L : aL} {S : List Value} {M : aM} : am_run (c_Model_peek) k_Model_peek J K (n + 1) 30 L S M = ai_iload 1 31 (am_run (c_Model_peek) k_Model_peek J K n) K 30 L S M := by rfl
theorem r_Model_peek_31 {J : aJ} {K : aR} {n : Nat} {L : aL} {S : List Value} {M : aM} : am_run (c_Model_peek) k_Model_peek J K (n + 1) 31 L S M = ai_iadd 32 (am_run (c_Model_peek) k_Model_peek J K n) K 31 L S M := by rfl
theorem r_Model_peek_32 {J : aJ} {K : aR} {n : Nat} {L : aL} {S : List Value} {M : aM} : am_run (c_Model_peek) k_Model_peek J K (n + 1) 32 L S M = ai_iald 33 (am_run (c_Model_peek) k_Model_peek J K n) K 32 L S M := by rfl
theorem r_Model_peek_33 {J : aJ} {K : aR} {n : Nat} {L : aL} {S : List Value} {M : aM} : am_run (c_Model_peek) k_Model_peek J K (n + 1) 33 L S M = ai_goto 37 (am_run (c_Model_peek) k_Model_peek J K n) K 33 L S M := by rfl
theorem r_Model_peek_36 {J : aJ} {K : aR} {n : Nat} {L : aL} {S : List Value} {M : aM} : am_run (c_Model_peek) k_Model_peek J K (n + 1) 36 L S M = ai_const (-1) 37 (am_run (c_Model_peek) k_Model_peek J K n) K 36 L S M := by rfl
theorem r_Model_peek_37 {J : aJ} {K : aR} {n : Nat} {L : aL} {S : List Value} {M : aM} : am_run (c_Model_peek) k_Model_peek J K (n + 1) 37 L S M = ai_iret (am_run (c_Model_peek) k_Model_peek J K n) K 37 L S M := by rfl
def c_Model_isDigit : List (Nat × aI) := [
  (0, ai_iload 0 1),
  (1, ai_const 48 3),
  (3, ai_cmplt 16 6),
  (6, ai_iload 0 7),
  (7, ai_const 57 9),
  (9, ai_cmpgt 16 12),
  (12, ai_const 1 13),
  (13, ai_goto 17),
  (16, ai_const 0 17),
  (17, ai_zret)]
set_option maxRecDepth 100000 in
set_option maxHeartbeats 4000000 in
theorem tb_Model_isDigit {G : aG} {d : Nat} : am_tab G Y_Model_isDigit d (c_Model_isDigit) := by
  intro K p e s m args below meth c C
  exact ⟨as_iload_n C (pc := 0) (q := 0) (by decide +kernel) rfl rfl,
    as_bipush C (pc := 1) (n := 48) (by decide +kernel) (by decide +kernel) rfl,
    as_cmplt C (pc := 3) (off := 13) (by decide +kernel) (by decide) rfl,
    as_iload_n C (pc := 6) (q := 0) (by decide +kernel) rfl rfl,
    as_bipush C (pc := 7) (n := 57) (by decide +kernel) (by decide +kernel) rfl,
    as_cmpgt C (pc := 9) (off := 7) (by decide +kernel) (by decide) rfl,
    as_iconst C (pc := 12) (n := 1) (by decide +kernel) (by decide +kernel) rfl,
    as_goto C (pc := 13) (off := 4) (by decide +kernel) (by decide),
    as_iconst C (pc := 16) (n := 0) (by decide +kernel) (by decide +kernel) rfl,
    as_zret C (pc := 17) rfl (by decide +kernel), trivial⟩
abbrev k_Model_isDigit : List Nat := []
theorem r_Model_isDigit_0 {J : aJ} {K : aR} {n : Nat} {L : aL} {S : List Value} {M : aM} : am_run (c_Model_isDigit) k_Model_isDigit J K (n + 1) 0 L S M = ai_iload 0 1 (am_run (c_Model_isDigit) k_Model_isDigit J K n) K 0 L S M := by rfl
theorem r_Model_isDigit_1 {J : aJ} {K : aR} {n : Nat} {L : aL} {S : List Value} {M : aM} : am_run (c_Model_isDigit) k_Model_isDigit J K (n + 1) 1 L S M = ai_const 48 3 (am_run (c_Model_isDigit) k_Model_isDigit J K n) K 1 L S M := by rfl
theorem r_Model_isDigit_3 {J : aJ} {K : aR} {n : Nat} {L : aL} {S : List Value} {M : aM} : am_run (c_Model_isDigit) k_Model_isDigit J K (n + 1) 3 L S M = ai_cmplt 16 6 (am_run (c_Model_isDigit) k_Model_isDigit J K n) K 3 L S M := by rfl
theorem r_Model_isDigit_6 {J : aJ} {K : aR} {n : Nat} {L : aL} {S : List Value} {M : aM} : am_run (c_Model_isDigit) k_Model_isDigit J K (n + 1) 6 L S M = ai_iload 0 7 (am_run (c_Model_isDigit) k_Model_isDigit J K n) K 6 L S M := by rfl
theorem r_Model_isDigit_7 {J : aJ} {K : aR} {n : Nat} {L : aL} {S : List Value} {M : aM} : am_run (c_Model_isDigit) k_Model_isDigit J K (n + 1) 7 L S M = ai_const 57 9 (am_run (c_Model_isDigit) k_Model_isDigit J K n) K 7 L S M := by rfl
theorem r_Model_isDigit_9 {J : aJ} {K : aR} {n : Nat} {L : aL} {S : List Value} {M : aM} : am_run (c_Model_isDigit) k_Model_isDigit J K (n + 1) 9 L S M = ai_cmpgt 16 12 (am_run (c_Model_isDigit) k_Model_isDigit J K n) K 9 L S M := by rfl
theorem r_Model_isDigit_12 {J : aJ} {K : aR} {n : Nat} {L : aL} {S : List Value} {M : aM} : am_run (c_Model_isDigit) k_Model_isDigit J K (n + 1) 12 L S M = ai_const 1 13 (am_run (c_Model_isDigit) k_Model_isDigit J K n) K 12 L S M := by rfl
theorem r_Model_isDigit_13 {J : aJ} {K : aR} {n : Nat} {L : aL} {S : List Value} {M : aM} : am_run (c_Model_isDigit) k_Model_isDigit J K (n + 1) 13 L S M = ai_goto 17 (am_run (c_Model_isDigit) k_Model_isDigit J K n) K 13 L S M := by rfl
theorem r_Model_isDigit_16 {J : aJ} {K : aR} {n : Nat} {L : aL} {S : List Value} {M : aM} : am_run (c_Model_isDigit) k_Model_isDigit J K (n + 1) 16 L S M = ai_const 0 17 (am_run (c_Model_isDigit) k_Model_isDigit J K n) K 16 L S M := by rfl
theorem r_Model_isDigit_17 {J : aJ} {K : aR} {n : Nat} {L : aL} {S : List Value} {M : aM} : am_run (c_Model_isDigit) k_Model_isDigit J K (n + 1) 17 L S M = ai_zret (am_run (c_Model_isDigit) k_Model_isDigit J K n) K 17 L S M := by rfl
def c_Model_isBegin : List (Nat × aI) := [
  (0, ai_iload 0 1),
  (1, ai_const 97 3),
  (3, ai_cmplt 12 6),
  (6, ai_iload 0 7),
  (7, ai_const 122 9),
  (9, ai_cmple 60 12),
  (12, ai_iload 0 13),
  (13, ai_const 43 15),
  (15, ai_cmpeq 60 18),
  (18, ai_iload 0 19),
  (19, ai_const 42 21),
  (21, ai_cmpeq 60 24),
  (24, ai_iload 0 25),
  (25, ai_const 47 27),
  (27, ai_cmpeq 60 30),
  (30, ai_iload 0 31),
  (31, ai_const 61 33),
  (33, ai_cmpeq 60 36),
  (36, ai_iload 0 37),
  (37, ai_const 60 39),
  (39, ai_cmpeq 60 42),
  (42, ai_iload 0 43),
  (43, ai_const 62 45),
  (45, ai_cmpeq 60 48),
  (48, ai_iload 0 49),
  (49, ai_const 33 51),
  (51, ai_cmpeq 60 54),
  (54, ai_iload 0 55),
  (55, ai_const 63 57),
  (57, ai_cmpne 64 60),
  (60, ai_const 1 61),
  (61, ai_goto 65),
  (64, ai_const 0 65),
  (65, ai_zret)]
set_option maxRecDepth 100000 in
set_option maxHeartbeats 4000000 in
theorem tb_Model_isBegin {G : aG} {d : Nat} : am_tab G Y_Model_isBegin d (c_Model_isBegin) := by
  intro K p e s m args below meth c C
  exact ⟨as_iload_n C (pc := 0) (q := 0) (by decide +kernel) rfl rfl,
    as_bipush C (pc := 1) (n := 97) (by decide +kernel) (by decide +kernel) rfl,
    as_cmplt C (pc := 3) (off := 9) (by decide +kernel) (by decide) rfl,
    as_iload_n C (pc := 6) (q := 0) (by decide +kernel) rfl rfl,
    as_bipush C (pc := 7) (n := 122) (by decide +kernel) (by decide +kernel) rfl,
    as_cmple C (pc := 9) (off := 51) (by decide +kernel) (by decide) rfl,
    as_iload_n C (pc := 12) (q := 0) (by decide +kernel) rfl rfl,
    as_bipush C (pc := 13) (n := 43) (by decide +kernel) (by decide +kernel) rfl,
    as_cmpeq C (pc := 15) (off := 45) (by decide +kernel) (by decide) rfl,
    as_iload_n C (pc := 18) (q := 0) (by decide +kernel) rfl rfl,
    as_bipush C (pc := 19) (n := 42) (by decide +kernel) (by decide +kernel) rfl,
    as_cmpeq C (pc := 21) (off := 39) (by decide +kernel) (by decide) rfl,
    as_iload_n C (pc := 24) (q := 0) (by decide +kernel) rfl rfl,
    as_bipush C (pc := 25) (n := 47) (by decide +kernel) (by decide +kernel) rfl,
    as_cmpeq C (pc := 27) (off := 33) (by decide +kernel) (by decide) rfl,
    as_iload_n C (pc := 30) (q := 0) (by decide +kernel) rfl rfl,
    as_bipush C (pc := 31) (n := 61) (by decide +kernel) (by decide +kernel) rfl,
    as_cmpeq C (pc := 33) (off := 27) (by decide +kernel) (by decide) rfl,
    as_iload_n C (pc := 36) (q := 0) (by decide +kernel) rfl rfl,
    as_bipush C (pc := 37) (n := 60) (by decide +kernel) (by decide +kernel) rfl,
    as_cmpeq C (pc := 39) (off := 21) (by decide +kernel) (by decide) rfl,
    as_iload_n C (pc := 42) (q := 0) (by decide +kernel) rfl rfl,
    as_bipush C (pc := 43) (n := 62) (by decide +kernel) (by decide +kernel) rfl,
    as_cmpeq C (pc := 45) (off := 15) (by decide +kernel) (by decide) rfl,
    as_iload_n C (pc := 48) (q := 0) (by decide +kernel) rfl rfl,
    as_bipush C (pc := 49) (n := 33) (by decide +kernel) (by decide +kernel) rfl,
    as_cmpeq C (pc := 51) (off := 9) (by decide +kernel) (by decide) rfl,
    as_iload_n C (pc := 54) (q := 0) (by decide +kernel) rfl rfl,
    as_bipush C (pc := 55) (n := 63) (by decide +kernel) (by decide +kernel) rfl,
    as_cmpne C (pc := 57) (off := 7) (by decide +kernel) (by decide) rfl,
    as_iconst C (pc := 60) (n := 1) (by decide +kernel) (by decide +kernel) rfl,
    as_goto C (pc := 61) (off := 4) (by decide +kernel) (by decide),
    as_iconst C (pc := 64) (n := 0) (by decide +kernel) (by decide +kernel) rfl,
    as_zret C (pc := 65) rfl (by decide +kernel), trivial⟩
abbrev k_Model_isBegin : List Nat := []
theorem r_Model_isBegin_0 {J : aJ} {K : aR} {n : Nat} {L : aL} {S : List Value} {M : aM} : am_run (c_Model_isBegin) k_Model_isBegin J K (n + 1) 0 L S M = ai_iload 0 1 (am_run (c_Model_isBegin) k_Model_isBegin J K n) K 0 L S M := by rfl
theorem r_Model_isBegin_1 {J : aJ} {K : aR} {n : Nat} {L : aL} {S : List Value} {M : aM} : am_run (c_Model_isBegin) k_Model_isBegin J K (n + 1) 1 L S M = ai_const 97 3 (am_run (c_Model_isBegin) k_Model_isBegin J K n) K 1 L S M := by rfl
theorem r_Model_isBegin_3 {J : aJ} {K : aR} {n : Nat} {L : aL} {S : List Value} {M : aM} : am_run (c_Model_isBegin) k_Model_isBegin J K (n + 1) 3 L S M = ai_cmplt 12 6 (am_run (c_Model_isBegin) k_Model_isBegin J K n) K 3 L S M := by rfl
theorem r_Model_isBegin_6 {J : aJ} {K : aR} {n : Nat} {L : aL} {S : List Value} {M : aM} : am_run (c_Model_isBegin) k_Model_isBegin J K (n + 1) 6 L S M = ai_iload 0 7 (am_run (c_Model_isBegin) k_Model_isBegin J K n) K 6 L S M := by rfl
theorem r_Model_isBegin_7 {J : aJ} {K : aR} {n : Nat} {L : aL} {S : List Value} {M : aM} : am_run (c_Model_isBegin) k_Model_isBegin J K (n + 1) 7 L S M = ai_const 122 9 (am_run (c_Model_isBegin) k_Model_isBegin J K n) K 7 L S M := by rfl
theorem r_Model_isBegin_9 {J : aJ} {K : aR} {n : Nat} {L : aL} {S : List Value} {M : aM} : am_run (c_Model_isBegin) k_Model_isBegin J K (n + 1) 9 L S M = ai_cmple 60 12 (am_run (c_Model_isBegin) k_Model_isBegin J K n) K 9 L S M := by rfl
theorem r_Model_isBegin_12 {J : aJ} {K : aR} {n : Nat} {L : aL} {S : List Value} {M : aM} : am_run (c_Model_isBegin) k_Model_isBegin J K (n + 1) 12 L S M = ai_iload 0 13 (am_run (c_Model_isBegin) k_Model_isBegin J K n) K 12 L S M := by rfl
theorem r_Model_isBegin_13 {J : aJ} {K : aR} {n : Nat} {L : aL} {S : List Value} {M : aM} : am_run (c_Model_isBegin) k_Model_isBegin J K (n + 1) 13 L S M = ai_const 43 15 (am_run (c_Model_isBegin) k_Model_isBegin J K n) K 13 L S M := by rfl
theorem r_Model_isBegin_15 {J : aJ} {K : aR} {n : Nat} {L : aL} {S : List Value} {M : aM} : am_run (c_Model_isBegin) k_Model_isBegin J K (n + 1) 15 L S M = ai_cmpeq 60 18 (am_run (c_Model_isBegin) k_Model_isBegin J K n) K 15 L S M := by rfl
theorem r_Model_isBegin_18 {J : aJ} {K : aR} {n : Nat} {L : aL} {S : List Value} {M : aM} : am_run (c_Model_isBegin) k_Model_isBegin J K (n + 1) 18 L S M = ai_iload 0 19 (am_run (c_Model_isBegin) k_Model_isBegin J K n) K 18 L S M := by rfl
theorem r_Model_isBegin_19 {J : aJ} {K : aR} {n : Nat} {L : aL} {S : List Value} {M : aM} : am_run (c_Model_isBegin) k_Model_isBegin J K (n + 1) 19 L S M = ai_const 42 21 (am_run (c_Model_isBegin) k_Model_isBegin J K n) K 19 L S M := by rfl
theorem r_Model_isBegin_21 {J : aJ} {K : aR} {n : Nat} {L : aL} {S : List Value} {M : aM} : am_run (c_Model_isBegin) k_Model_isBegin J K (n + 1) 21 L S M = ai_cmpeq 60 24 (am_run (c_Model_isBegin) k_Model_isBegin J K n) K 21 L S M := by rfl
theorem r_Model_isBegin_24 {J : aJ} {K : aR} {n : Nat} {L : aL} {S : List Value} {M : aM} : am_run (c_Model_isBegin) k_Model_isBegin J K (n + 1) 24 L S M = ai_iload 0 25 (am_run (c_Model_isBegin) k_Model_isBegin J K n) K 24 L S M := by rfl
theorem r_Model_isBegin_25 {J : aJ} {K : aR} {n : Nat} {L : aL} {S : List Value} {M : aM} : am_run (c_Model_isBegin) k_Model_isBegin J K (n + 1) 25 L S M = ai_const 47 27 (am_run (c_Model_isBegin) k_Model_isBegin J K n) K 25 L S M := by rfl
theorem r_Model_isBegin_27 {J : aJ} {K : aR} {n : Nat} {L : aL} {S : List Value} {M : aM} : am_run (c_Model_isBegin) k_Model_isBegin J K (n + 1) 27 L S M = ai_cmpeq 60 30 (am_run (c_Model_isBegin) k_Model_isBegin J K n) K 27 L S M := by rfl
theorem r_Model_isBegin_30 {J : aJ} {K : aR} {n : Nat} {L : aL} {S : List Value} {M : aM} : am_run (c_Model_isBegin) k_Model_isBegin J K (n + 1) 30 L S M = ai_iload 0 31 (am_run (c_Model_isBegin) k_Model_isBegin J K n) K 30 L S M := by rfl
theorem r_Model_isBegin_31 {J : aJ} {K : aR} {n : Nat} {L : aL} {S : List Value} {M : aM} : am_run (c_Model_isBegin) k_Model_isBegin J K (n + 1) 31 L S M = ai_const 61 33 (am_run (c_Model_isBegin) k_Model_isBegin J K n) K 31 L S M := by rfl
theorem r_Model_isBegin_33 {J : aJ} {K : aR} {n : Nat} {L : aL} {S : List Value} {M : aM} : am_run (c_Model_isBegin) k_Model_isBegin J K (n + 1) 33 L S M = ai_cmpeq 60 36 (am_run (c_Model_isBegin) k_Model_isBegin J K n) K 33 L S M := by rfl
theorem r_Model_isBegin_36 {J : aJ} {K : aR} {n : Nat} {L : aL} {S : List Value} {M : aM} : am_run (c_Model_isBegin) k_Model_isBegin J K (n + 1) 36 L S M = ai_iload 0 37 (am_run (c_Model_isBegin) k_Model_isBegin J K n) K 36 L S M := by rfl
theorem r_Model_isBegin_37 {J : aJ} {K : aR} {n : Nat} {L : aL} {S : List Value} {M : aM} : am_run (c_Model_isBegin) k_Model_isBegin J K (n + 1) 37 L S M = ai_const 60 39 (am_run (c_Model_isBegin) k_Model_isBegin J K n) K 37 L S M := by rfl
theorem r_Model_isBegin_39 {J : aJ} {K : aR} {n : Nat} {L : aL} {S : List Value} {M : aM} : am_run (c_Model_isBegin) k_Model_isBegin J K (n + 1) 39 L S M = ai_cmpeq 60 42 (am_run (c_Model_isBegin) k_Model_isBegin J K n) K 39 L S M := by rfl
theorem r_Model_isBegin_42 {J : aJ} {K : aR} {n : Nat} {L : aL} {S : List Value} {M : aM} : am_run (c_Model_isBegin) k_Model_isBegin J K (n + 1) 42 L S M = ai_iload 0 43 (am_run (c_Model_isBegin) k_Model_isBegin J K n) K 42 L S M := by rfl
theorem r_Model_isBegin_43 {J : aJ} {K : aR} {n : Nat} {L : aL} {S : List Value} {M : aM} : am_run (c_Model_isBegin) k_Model_isBegin J K (n + 1) 43 L S M = ai_const 62 45 (am_run (c_Model_isBegin) k_Model_isBegin J K n) K 43 L S M := by rfl
theorem r_Model_isBegin_45 {J : aJ} {K : aR} {n : Nat} {L : aL} {S : List Value} {M : aM} : am_run (c_Model_isBegin) k_Model_isBegin J K (n + 1) 45 L S M = ai_cmpeq 60 48 (am_run (c_Model_isBegin) k_Model_isBegin J K n) K 45 L S M := by rfl
theorem r_Model_isBegin_48 {J : aJ} {K : aR} {n : Nat} {L : aL} {S : List Value} {M : aM} : am_run (c_Model_isBegin) k_Model_isBegin J K (n + 1) 48 L S M = ai_iload 0 49 (am_run (c_Model_isBegin) k_Model_isBegin J K n) K 48 L S M := by rfl
theorem r_Model_isBegin_49 {J : aJ} {K : aR} {n : Nat} {L : aL} {S : List Value} {M : aM} : am_run (c_Model_isBegin) k_Model_isBegin J K (n + 1) 49 L S M = ai_const 33 51 (am_run (c_Model_isBegin) k_Model_isBegin J K n) K 49 L S M := by rfl
theorem r_Model_isBegin_51 {J : aJ} {K : aR} {n : Nat} {L : aL} {S : List Value} {M : aM} : am_run (c_Model_isBegin) k_Model_isBegin J K (n + 1) 51 L S M = ai_cmpeq 60 54 (am_run (c_Model_isBegin) k_Model_isBegin J K n) K 51 L S M := by rfl
theorem r_Model_isBegin_54 {J : aJ} {K : aR} {n : Nat} {L : aL} {S : List Value} {M : aM} : am_run (c_Model_isBegin) k_Model_isBegin J K (n + 1) 54 L S M = ai_iload 0 55 (am_run (c_Model_isBegin) k_Model_isBegin J K n) K 54 L S M := by rfl
theorem r_Model_isBegin_55 {J : aJ} {K : aR} {n : Nat} {L : aL} {S : List Value} {M : aM} : am_run (c_Model_isBegin) k_Model_isBegin J K (n + 1) 55 L S M = ai_const 63 57 (am_run (c_Model_isBegin) k_Model_isBegin J K n) K 55 L S M := by rfl
theorem r_Model_isBegin_57 {J : aJ} {K : aR} {n : Nat} {L : aL} {S : List Value} {M : aM} : am_run (c_Model_isBegin) k_Model_isBegin J K (n + 1) 57 L S M = ai_cmpne 64 60 (am_run (c_Model_isBegin) k_Model_isBegin J K n) K 57 L S M := by rfl
theorem r_Model_isBegin_60 {J : aJ} {K : aR} {n : Nat} {L : aL} {S : List Value} {M : aM} : am_run (c_Model_isBegin) k_Model_isBegin J K (n + 1) 60 L S M = ai_const 1 61 (am_run (c_Model_isBegin) k_Model_isBegin J K n) K 60 L S M := by rfl
theorem r_Model_isBegin_61 {J : aJ} {K : aR} {n : Nat} {L : aL} {S : List Value} {M : aM} : am_run (c_Model_isBegin) k_Model_isBegin J K (n + 1) 61 L S M = ai_goto 65 (am_run (c_Model_isBegin) k_Model_isBegin J K n) K 61 L S M := by rfl
theorem r_Model_isBegin_64 {J : aJ} {K : aR} {n : Nat} {L : aL} {S : List Value} {M : aM} : am_run (c_Model_isBegin) k_Model_isBegin J K (n + 1) 64 L S M = ai_const 0 65 (am_run (c_Model_isBegin) k_Model_isBegin J K n) K 64 L S M := by rfl
theorem r_Model_isBegin_65 {J : aJ} {K : aR} {n : Nat} {L : aL} {S : List Value} {M : aM} : am_run (c_Model_isBegin) k_Model_isBegin J K (n + 1) 65 L S M = ai_zret (am_run (c_Model_isBegin) k_Model_isBegin J K n) K 65 L S M := by rfl
def c_Model_isByte (s_Model_isBegin : aS) (s_Model_isDigit : aS) : List (Nat × aI) := [
  (0, ai_iload 0 1),
  (1, ai_calls1 s_Model_isBegin 4),
  (4, ai_ifne 20 7),
  (7, ai_iload 0 8),
  (8, ai_calls1 s_Model_isDigit 11),
  (11, ai_ifne 20 14),
  (14, ai_iload 0 15),
  (15, ai_const 45 17),
  (17, ai_cmpne 24 20),
  (20, ai_const 1 21),
  (21, ai_goto 25),
  (24, ai_const 0 25),
  (25, ai_zret)]
set_option maxRecDepth 100000 in
set_option maxHeartbeats 4000000 in
theorem tb_Model_isByte {G : aG} {d : Nat} {s_Model_isBegin : aS} {d_Model_isBegin : Nat} (h_Model_isBegin : am_Sp G Y_Model_isBegin d_Model_isBegin s_Model_isBegin) (l_Model_isBegin : d_Model_isBegin < d) {s_Model_isDigit : aS} {d_Model_isDigit : Nat} (h_Model_isDigit : am_Sp G Y_Model_isDigit d_Model_isDigit s_Model_isDigit) (l_Model_isDigit : d_Model_isDigit < d) : am_tab G Y_Model_isByte d (c_Model_isByte s_Model_isBegin s_Model_isDigit) := by
  intro K p e s m args below meth c C
  exact ⟨as_iload_n C (pc := 0) (q := 0) (by decide +kernel) rfl rfl,
    as_calls1 C (pc := 1) h_Model_isBegin w_606 w_78 w_605 w_604 hy_Model_isBegin (am_rm_of l_Model_isBegin (by decide)) (by decide +kernel) rfl,
    as_ifne C (pc := 4) (off := 16) (by decide +kernel) (by decide) rfl,
    as_iload_n C (pc := 7) (q := 0) (by decide +kernel) rfl rfl,
    as_calls1 C (pc := 8) h_Model_isDigit w_609 w_78 w_608 w_607 hy_Model_isDigit (am_rm_of l_Model_isDigit (by decide)) (by decide +kernel) rfl,
    as_ifne C (pc := 11) (off := 9) (by decide +kernel) (by decide) rfl,
    as_iload_n C (pc := 14) (q := 0) (by decide +kernel) rfl rfl,
    as_bipush C (pc := 15) (n := 45) (by decide +kernel) (by decide +kernel) rfl,
    as_cmpne C (pc := 17) (off := 7) (by decide +kernel) (by decide) rfl,
    as_iconst C (pc := 20) (n := 1) (by decide +kernel) (by decide +kernel) rfl,
    as_goto C (pc := 21) (off := 4) (by decide +kernel) (by decide),
    as_iconst C (pc := 24) (n := 0) (by decide +kernel) (by decide +kernel) rfl,
    as_zret C (pc := 25) rfl (by decide +kernel), trivial⟩
abbrev k_Model_isByte : List Nat := []
theorem r_Model_isByte_0 {s_Model_isBegin : aS} {s_Model_isDigit : aS} {J : aJ} {K : aR} {n : Nat} {L : aL} {S : List Value} {M : aM} : am_run (c_Model_isByte s_Model_isBegin s_Model_isDigit) k_Model_isByte J K (n + 1) 0 L S M = ai_iload 0 1 (am_run (c_Model_isByte s_Model_isBegin s_Model_isDigit) k_Model_isByte J K n) K 0 L S M := by rfl
theorem r_Model_isByte_1 {s_Model_isBegin : aS} {s_Model_isDigit : aS} {J : aJ} {K : aR} {n : Nat} {L : aL} {S : List Value} {M : aM} : am_run (c_Model_isByte s_Model_isBegin s_Model_isDigit) k_Model_isByte J K (n + 1) 1 L S M = ai_calls1 s_Model_isBegin 4 (am_run (c_Model_isByte s_Model_isBegin s_Model_isDigit) k_Model_isByte J K n) K 1 L S M := by rfl
theorem r_Model_isByte_4 {s_Model_isBegin : aS} {s_Model_isDigit : aS} {J : aJ} {K : aR} {n : Nat} {L : aL} {S : List Value} {M : aM} : am_run (c_Model_isByte s_Model_isBegin s_Model_isDigit) k_Model_isByte J K (n + 1) 4 L S M = ai_ifne 20 7 (am_run (c_Model_isByte s_Model_isBegin s_Model_isDigit) k_Model_isByte J K n) K 4 L S M := by rfl
theorem r_Model_isByte_7 {s_Model_isBegin : aS} {s_Model_isDigit : aS} {J : aJ} {K : aR} {n : Nat} {L : aL} {S : List Value} {M : aM} : am_run (c_Model_isByte s_Model_isBegin s_Model_isDigit) k_Model_isByte J K (n + 1) 7 L S M = ai_iload 0 8 (am_run (c_Model_isByte s_Model_isBegin s_Model_isDigit) k_Model_isByte J K n) K 7 L S M := by rfl
theorem r_Model_isByte_8 {s_Model_isBegin : aS} {s_Model_isDigit : aS} {J : aJ} {K : aR} {n : Nat} {L : aL} {S : List Value} {M : aM} : am_run (c_Model_isByte s_Model_isBegin s_Model_isDigit) k_Model_isByte J K (n + 1) 8 L S M = ai_calls1 s_Model_isDigit 11 (am_run (c_Model_isByte s_Model_isBegin s_Model_isDigit) k_Model_isByte J K n) K 8 L S M := by rfl
theorem r_Model_isByte_11 {s_Model_isBegin : aS} {s_Model_isDigit : aS} {J : aJ} {K : aR} {n : Nat} {L : aL} {S : List Value} {M : aM} : am_run (c_Model_isByte s_Model_isBegin s_Model_isDigit) k_Model_isByte J K (n + 1) 11 L S M = ai_ifne 20 14 (am_run (c_Model_isByte s_Model_isBegin s_Model_isDigit) k_Model_isByte J K n) K 11 L S M := by rfl
theorem r_Model_isByte_14 {s_Model_isBegin : aS} {s_Model_isDigit : aS} {J : aJ} {K : aR} {n : Nat} {L : aL} {S : List Value} {M : aM} : am_run (c_Model_isByte s_Model_isBegin s_Model_isDigit) k_Model_isByte J K (n + 1) 14 L S M = ai_iload 0 15 (am_run (c_Model_isByte s_Model_isBegin s_Model_isDigit) k_Model_isByte J K n) K 14 L S M := by rfl
theorem r_Model_isByte_15 {s_Model_isBegin : aS} {s_Model_isDigit : aS} {J : aJ} {K : aR} {n : Nat} {L : aL} {S : List Value} {M : aM} : am_run (c_Model_isByte s_Model_isBegin s_Model_isDigit) k_Model_isByte J K (n + 1) 15 L S M = ai_const 45 17 (am_run (c_Model_isByte s_Model_isBegin s_Model_isDigit) k_Model_isByte J K n) K 15 L S M := by rfl
theorem r_Model_isByte_17 {s_Model_isBegin : aS} {s_Model_isDigit : aS} {J : aJ} {K : aR} {n : Nat} {L : aL} {S : List Value} {M : aM} : am_run (c_Model_isByte s_Model_isBegin s_Model_isDigit) k_Model_isByte J K (n + 1) 17 L S M = ai_cmpne 24 20 (am_run (c_Model_isByte s_Model_isBegin s_Model_isDigit) k_Model_isByte J K n) K 17 L S M := by rfl
theorem r_Model_isByte_20 {s_Model_isBegin : aS} {s_Model_isDigit : aS} {J : aJ} {K : aR} {n : Nat} {L : aL} {S : List Value} {M : aM} : am_run (c_Model_isByte s_Model_isBegin s_Model_isDigit) k_Model_isByte J K (n + 1) 20 L S M = ai_const 1 21 (am_run (c_Model_isByte s_Model_isBegin s_Model_isDigit) k_Model_isByte J K n) K 20 L S M := by rfl
theorem r_Model_isByte_21 {s_Model_isBegin : aS} {s_Model_isDigit : aS} {J : aJ} {K : aR} {n : Nat} {L : aL} {S : List Value} {M : aM} : am_run (c_Model_isByte s_Model_isBegin s_Model_isDigit) k_Model_isByte J K (n + 1) 21 L S M = ai_goto 25 (am_run (c_Model_isByte s_Model_isBegin s_Model_isDigit) k_Model_isByte J K n) K 21 L S M := by rfl
theorem r_Model_isByte_24 {s_Model_isBegin : aS} {s_Model_isDigit : aS} {J : aJ} {K : aR} {n : Nat} {L : aL} {S : List Value} {M : aM} : am_run (c_Model_isByte s_Model_isBegin s_Model_isDigit) k_Model_isByte J K (n + 1) 24 L S M = ai_const 0 25 (am_run (c_Model_isByte s_Model_isBegin s_Model_isDigit) k_Model_isByte J K n) K 24 L S M := by rfl
theorem r_Model_isByte_25 {s_Model_isBegin : aS} {s_Model_isDigit : aS} {J : aJ} {K : aR} {n : Nat} {L : aL} {S : List Value} {M : aM} : am_run (c_Model_isByte s_Model_isBegin s_Model_isDigit) k_Model_isByte J K (n + 1) 25 L S M = ai_zret (am_run (c_Model_isByte s_Model_isBegin s_Model_isDigit) k_Model_isByte J K n) K 25 L S M := by rfl
def c_Model_skip (s_Model_peek : aS) : List (Nat × aI) := [
  (0, ai_const 1 1),
  (1, ai_istore 1 2),
  (2, ai_iload 1 3),
  (3, ai_ifeq 98 6),
  (6, ai_aload 0 7),
  (7, ai_const 0 8),
  (8, ai_callv2 7 s_Model_peek 11),
  (11, ai_istore 2 12),
  (12, ai_iload 2 13),
  (13, ai_const 32 15),
  (15, ai_cmpeq 30 18),
  (18, ai_iload 2 19),
  (19, ai_const 10 21),
  (21, ai_cmpeq 30 24),
  (24, ai_iload 2 25),
  (25, ai_const 59 27),
  (27, ai_cmpne 34 30),
  (30, ai_const 1 31),
  (31, ai_goto 35),
  (34, ai_const 0 35),
  (35, ai_istore 1 36),
  (36, ai_iload 2 37),
  (37, ai_const 59 39),
  (39, ai_cmpne 73 42),
  (42, ai_aload 0 43),
  (43, ai_const 0 44),
  (44, ai_callv2 7 s_Model_peek 47),
  (47, ai_iflt 73 50),
  (50, ai_aload 0 51),
  (51, ai_const 0 52),
  (52, ai_callv2 7 s_Model_peek 55),
  (55, ai_const 10 57),
  (57, ai_cmpeq 73 60),
  (60, ai_aload 0 61),
  (61, ai_aload 0 62),
  (62, ai_getf 7 2 65),
  (65, ai_const 1 66),
  (66, ai_iadd 67),
  (67, ai_putf 7 2 70),
  (70, ai_goto 36),
  (73, ai_iload 2 74),
  (74, ai_const 32 76),
  (76, ai_cmpeq 85 79),
  (79, ai_iload 2 80),
  (80, ai_const 10 82),
  (82, ai_cmpne 95 85),
  (85, ai_aload 0 86),
  (86, ai_aload 0 87),
  (87, ai_getf 7 2 90),
  (90, ai_const 1 91),
  (91, ai_iadd 92),
  (92, ai_putf 7 2 95),
  (95, ai_goto 2),
  (98, ai_vret)]
set_option maxRecDepth 100000 in
set_option maxHeartbeats 4000000 in
theorem tb_Model_skip {G : aG} {d : Nat} {s_Model_peek : aS} {d_Model_peek : Nat} (h_Model_peek : am_Sp G Y_Model_peek d_Model_peek s_Model_peek) (l_Model_peek : d_Model_peek < d) : am_tab G Y_Model_skip d (c_Model_skip s_Model_peek) := by
  intro K p e s m args below meth c C
  exact ⟨as_iconst C (pc := 0) (n := 1) (by decide +kernel) (by decide +kernel) rfl,
    as_istore_n C (pc := 1) (q := 1) (by decide +kernel) rfl (by decide) rfl,
    as_iload_n C (pc := 2) (q := 1) (by decide +kernel) rfl rfl,
    as_ifeq C (pc := 3) (off := 95) (by decide +kernel) (by decide) rfl,
    as_aload_n C (pc := 6) (q := 0) (by decide +kernel) rfl rfl,
    as_iconst C (pc := 7) (n := 0) (by decide +kernel) (by decide +kernel) rfl,
    as_callv2 C (pc := 8) h_Model_peek (T := T_Model) (N := 21) rfl w_600 w_78 w_599 w_52 w_597 hy_Model_peek (am_rm_of l_Model_peek (by decide)) (by decide +kernel) rfl,
    as_istore_n C (pc := 11) (q := 2) (by decide +kernel) rfl (by decide) rfl,
    as_iload_n C (pc := 12) (q := 2) (by decide +kernel) rfl rfl,
    as_bipush C (pc := 13) (n := 32) (by decide +kernel) (by decide +kernel) rfl,
    as_cmpeq C (pc := 15) (off := 15) (by decide +kernel) (by decide) rfl,
    as_iload_n C (pc := 18) (q := 2) (by decide +kernel) rfl rfl,
    as_bipush C (pc := 19) (n := 10) (by decide +kernel) (by decide +kernel) rfl,
    as_cmpeq C (pc := 21) (off := 9) (by decide +kernel) (by decide) rfl,
    as_iload_n C (pc := 24) (q := 2) (by decide +kernel) rfl rfl,
    as_bipush C (pc := 25) (n := 59) (by decide +kernel) (by decide +kernel) rfl,
    as_cmpne C (pc := 27) (off := 7) (by decide +kernel) (by decide) rfl,
    as_iconst C (pc := 30) (n := 1) (by decide +kernel) (by decide +kernel) rfl,
    as_goto C (pc := 31) (off := 4) (by decide +kernel) (by decide),
    as_iconst C (pc := 34) (n := 0) (by decide +kernel) (by decide +kernel) rfl,
    as_istore_n C (pc := 35) (q := 1) (by decide +kernel) rfl (by decide) rfl,
    as_iload_n C (pc := 36) (q := 2) (by decide +kernel) rfl rfl,
    as_bipush C (pc := 37) (n := 59) (by decide +kernel) (by decide +kernel) rfl,
    as_cmpne C (pc := 39) (off := 34) (by decide +kernel) (by decide) rfl,
    as_aload_n C (pc := 42) (q := 0) (by decide +kernel) rfl rfl,
    as_iconst C (pc := 43) (n := 0) (by decide +kernel) (by decide +kernel) rfl,
    as_callv2 C (pc := 44) h_Model_peek (T := T_Model) (N := 21) rfl w_600 w_78 w_599 w_52 w_597 hy_Model_peek (am_rm_of l_Model_peek (by decide)) (by decide +kernel) rfl,
    as_iflt C (pc := 47) (off := 26) (by decide +kernel) (by decide) rfl,
    as_aload_n C (pc := 50) (q := 0) (by decide +kernel) rfl rfl,
    as_iconst C (pc := 51) (n := 0) (by decide +kernel) (by decide +kernel) rfl,
    as_callv2 C (pc := 52) h_Model_peek (T := T_Model) (N := 21) rfl w_600 w_78 w_599 w_52 w_597 hy_Model_peek (am_rm_of l_Model_peek (by decide)) (by decide +kernel) rfl,
    as_bipush C (pc := 55) (n := 10) (by decide +kernel) (by decide +kernel) rfl,
    as_cmpeq C (pc := 57) (off := 16) (by decide +kernel) (by decide) rfl,
    as_aload_n C (pc := 60) (q := 0) (by decide +kernel) rfl rfl,
    as_aload_n C (pc := 61) (q := 0) (by decide +kernel) rfl rfl,
    as_getf C (pc := 62) (T := T_Model) (N := 21) rfl in_Model (by decide) rfl w_519 (by decide +kernel) rfl,
    as_iconst C (pc := 65) (n := 1) (by decide +kernel) (by decide +kernel) rfl,
    as_iadd C (pc := 66) (by decide +kernel) rfl,
    as_putf C (pc := 67) t_Model (T := T_Model) (N := 21) rfl in_Model tok_Model nm_Model (by decide) rfl rfl (by decide +kernel) w_519 (by decide +kernel) rfl,
    as_goto C (pc := 70) (off := (-34)) (by decide +kernel) (by decide),
    as_iload_n C (pc := 73) (q := 2) (by decide +kernel) rfl rfl,
    as_bipush C (pc := 74) (n := 32) (by decide +kernel) (by decide +kernel) rfl,
    as_cmpeq C (pc := 76) (off := 9) (by decide +kernel) (by decide) rfl,
    as_iload_n C (pc := 79) (q := 2) (by decide +kernel) rfl rfl,
    as_bipush C (pc := 80) (n := 10) (by decide +kernel) (by decide +kernel) rfl,
    as_cmpne C (pc := 82) (off := 13) (by decide +kernel) (by decide) rfl,
    as_aload_n C (pc := 85) (q := 0) (by decide +kernel) rfl rfl,
    as_aload_n C (pc := 86) (q := 0) (by decide +kernel) rfl rfl,
    as_getf C (pc := 87) (T := T_Model) (N := 21) rfl in_Model (by decide) rfl w_519 (by decide +kernel) rfl,
    as_iconst C (pc := 90) (n := 1) (by decide +kernel) (by decide +kernel) rfl,
    as_iadd C (pc := 91) (by decide +kernel) rfl,
    as_putf C (pc := 92) t_Model (T := T_Model) (N := 21) rfl in_Model tok_Model nm_Model (by decide) rfl rfl (by decide +kernel) w_519 (by decide +kernel) rfl,
    as_goto C (pc := 95) (off := (-93)) (by decide +kernel) (by decide),
    as_vret C (pc := 98) rfl (by decide +kernel), trivial⟩
abbrev k_Model_skip : List Nat := [2, 36]
set_option maxRecDepth 20000 in
theorem q_Model_skip_2 {s_Model_peek : aS} : am_at (c_Model_skip s_Model_peek) 2 = ai_iload 1 3 := by rfl
set_option maxRecDepth 20000 in
theorem q_Model_skip_36 {s_Model_peek : aS} : am_at (c_Model_skip s_Model_peek) 36 = ai_iload 2 37 := by rfl
set_option maxRecDepth 20000 in
theorem r_Model_skip_0 {s_Model_peek : aS} {J : aJ} {K : aR} {n : Nat} {L : aL} {S : List Value} {M : aM} : am_run (c_Model_skip s_Model_peek) k_Model_skip J K (n + 1) 0 L S M = ai_const 1 1 (am_run (c_Model_skip s_Model_peek) k_Model_skip J K n) K 0 L S M := by rfl
set_option maxRecDepth 20000 in
theorem r_Model_skip_1 {s_Model_peek : aS} {J : aJ} {K : aR} {n : Nat} {L : aL} {S : List Value} {M : aM} : am_run (c_Model_skip s_Model_peek) k_Model_skip J K (n + 1) 1 L S M = ai_istore 1 2 (am_run (c_Model_skip s_Model_peek) k_Model_skip J K n) K 1 L S M := by rfl
set_option maxRecDepth 20000 in
theorem r_Model_skip_2 {s_Model_peek : aS} {J : aJ} {K : aR} {n : Nat} {L : aL} {S : List Value} {M : aM} : am_run (c_Model_skip s_Model_peek) k_Model_skip J K (n + 1) 2 L S M = J 2 L S M := by rfl
set_option maxRecDepth 20000 in
theorem r_Model_skip_3 {s_Model_peek : aS} {J : aJ} {K : aR} {n : Nat} {L : aL} {S : List Value} {M : aM} : am_run (c_Model_skip s_Model_peek) k_Model_skip J K (n + 1) 3 L S M = ai_ifeq 98 6 (am_run (c_Model_skip s_Model_peek) k_Model_skip J K n) K 3 L S M := by rfl
set_option maxRecDepth 20000 in
theorem r_Model_skip_6 {s_Model_peek : aS} {J : aJ} {K : aR} {n : Nat} {L : aL} {S : List Value} {M : aM} : am_run (c_Model_skip s_Model_peek) k_Model_skip J K (n + 1) 6 L S M = ai_aload 0 7 (am_run (c_Model_skip s_Model_peek) k_Model_skip J K n) K 6 L S M := by rfl
set_option maxRecDepth 20000 in
theorem r_Model_skip_7 {s_Model_peek : aS} {J : aJ} {K : aR} {n : Nat} {L : aL} {S : List Value} {M : aM} : am_run (c_Model_skip s_Model_peek) k_Model_skip J K (n + 1) 7 L S M = ai_const 0 8 (am_run (c_Model_skip s_Model_peek) k_Model_skip J K n) K 7 L S M := by rfl
set_option maxRecDepth 20000 in
theorem r_Model_skip_8 {s_Model_peek : aS} {J : aJ} {K : aR} {n : Nat} {L : aL} {S : List Value} {M : aM} : am_run (c_Model_skip s_Model_peek) k_Model_skip J K (n + 1) 8 L S M = ai_callv2 7 s_Model_peek 11 (am_run (c_Model_skip s_Model_peek) k_Model_skip J K n) K 8 L S M := by rfl
set_option maxRecDepth 20000 in
theorem r_Model_skip_11 {s_Model_peek : aS} {J : aJ} {K : aR} {n : Nat} {L : aL} {S : List Value} {M : aM} : am_run (c_Model_skip s_Model_peek) k_Model_skip J K (n + 1) 11 L S M = ai_istore 2 12 (am_run (c_Model_skip s_Model_peek) k_Model_skip J K n) K 11 L S M := by rfl
set_option maxRecDepth 20000 in
theorem r_Model_skip_12 {s_Model_peek : aS} {J : aJ} {K : aR} {n : Nat} {L : aL} {S : List Value} {M : aM} : am_run (c_Model_skip s_Model_peek) k_Model_skip J K (n + 1) 12 L S M = ai_iload 2 13 (am_run (c_Model_skip s_Model_peek) k_Model_skip J K n) K 12 L S M := by rfl
set_option maxRecDepth 20000 in
theorem r_Model_skip_13 {s_Model_peek : aS} {J : aJ} {K : aR} {n : Nat} {L : aL} {S : List Value} {M : aM} : am_run (c_Model_skip s_Model_peek) k_Model_skip J K (n + 1) 13 L S M = ai_const 32 15 (am_run (c_Model_skip s_Model_peek) k_Model_skip J K n) K 13 L S M := by rfl
set_option maxRecDepth 20000 in
theorem r_Model_skip_15 {s_Model_peek : aS} {J : aJ} {K : aR} {n : Nat} {L : aL} {S : List Value} {M : aM} : am_run (c_Model_skip s_Model_peek) k_Model_skip J K (n + 1) 15 L S M = ai_cmpeq 30 18 (am_run (c_Model_skip s_Model_peek) k_Model_skip J K n) K 15 L S M := by rfl
set_option maxRecDepth 20000 in
theorem r_Model_skip_18 {s_Model_peek : aS} {J : aJ} {K : aR} {n : Nat} {L : aL} {S : List Value} {M : aM} : am_run (c_Model_skip s_Model_peek) k_Model_skip J K (n + 1) 18 L S M = ai_iload 2 19 (am_run (c_Model_skip s_Model_peek) k_Model_skip J K n) K 18 L S M := by rfl
set_option maxRecDepth 20000 in
theorem r_Model_skip_19 {s_Model_peek : aS} {J : aJ} {K : aR} {n : Nat} {L : aL} {S : List Value} {M : aM} : am_run (c_Model_skip s_Model_peek) k_Model_skip J K (n + 1) 19 L S M = ai_const 10 21 (am_run (c_Model_skip s_Model_peek) k_Model_skip J K n) K 19 L S M := by rfl
set_option maxRecDepth 20000 in
theorem r_Model_skip_21 {s_Model_peek : aS} {J : aJ} {K : aR} {n : Nat} {L : aL} {S : List Value} {M : aM} : am_run (c_Model_skip s_Model_peek) k_Model_skip J K (n + 1) 21 L S M = ai_cmpeq 30 24 (am_run (c_Model_skip s_Model_peek) k_Model_skip J K n) K 21 L S M := by rfl
set_option maxRecDepth 20000 in
theorem r_Model_skip_24 {s_Model_peek : aS} {J : aJ} {K : aR} {n : Nat} {L : aL} {S : List Value} {M : aM} : am_run (c_Model_skip s_Model_peek) k_Model_skip J K (n + 1) 24 L S M = ai_iload 2 25 (am_run (c_Model_skip s_Model_peek) k_Model_skip J K n) K 24 L S M := by rfl
set_option maxRecDepth 20000 in
theorem r_Model_skip_25 {s_Model_peek : aS} {J : aJ} {K : aR} {n : Nat} {L : aL} {S : List Value} {M : aM} : am_run (c_Model_skip s_Model_peek) k_Model_skip J K (n + 1) 25 L S M = ai_const 59 27 (am_run (c_Model_skip s_Model_peek) k_Model_skip J K n) K 25 L S M := by rfl
set_option maxRecDepth 20000 in
theorem r_Model_skip_27 {s_Model_peek : aS} {J : aJ} {K : aR} {n : Nat} {L : aL} {S : List Value} {M : aM} : am_run (c_Model_skip s_Model_peek) k_Model_skip J K (n + 1) 27 L S M = ai_cmpne 34 30 (am_run (c_Model_skip s_Model_peek) k_Model_skip J K n) K 27 L S M := by rfl
set_option maxRecDepth 20000 in
theorem r_Model_skip_30 {s_Model_peek : aS} {J : aJ} {K : aR} {n : Nat} {L : aL} {S : List Value} {M : aM} : am_run (c_Model_skip s_Model_peek) k_Model_skip J K (n + 1) 30 L S M = ai_const 1 31 (am_run (c_Model_skip s_Model_peek) k_Model_skip J K n) K 30 L S M := by rfl
set_option maxRecDepth 20000 in
theorem r_Model_skip_31 {s_Model_peek : aS} {J : aJ} {K : aR} {n : Nat} {L : aL} {S : List Value} {M : aM} : am_run (c_Model_skip s_Model_peek) k_Model_skip J K (n + 1) 31 L S M = ai_goto 35 (am_run (c_Model_skip s_Model_peek) k_Model_skip J K n) K 31 L S M := by rfl
set_option maxRecDepth 20000 in
theorem r_Model_skip_34 {s_Model_peek : aS} {J : aJ} {K : aR} {n : Nat} {L : aL} {S : List Value} {M : aM} : am_run (c_Model_skip s_Model_peek) k_Model_skip J K (n + 1) 34 L S M = ai_const 0 35 (am_run (c_Model_skip s_Model_peek) k_Model_skip J K n) K 34 L S M := by rfl
set_option maxRecDepth 20000 in
theorem r_Model_skip_35 {s_Model_peek : aS} {J : aJ} {K : aR} {n : Nat} {L : aL} {S : List Value} {M : aM} : am_run (c_Model_skip s_Model_peek) k_Model_skip J K (n + 1) 35 L S M = ai_istore 1 36 (am_run (c_Model_skip s_Model_peek) k_Model_skip J K n) K 35 L S M := by rfl
set_option maxRecDepth 20000 in
theorem r_Model_skip_36 {s_Model_peek : aS} {J : aJ} {K : aR} {n : Nat} {L : aL} {S : List Value} {M : aM} : am_run (c_Model_skip s_Model_peek) k_Model_skip J K (n + 1) 36 L S M = J 36 L S M := by rfl
set_option maxRecDepth 20000 in
theorem r_Model_skip_37 {s_Model_peek : aS} {J : aJ} {K : aR} {n : Nat} {L : aL} {S : List Value} {M : aM} : am_run (c_Model_skip s_Model_peek) k_Model_skip J K (n + 1) 37 L S M = ai_const 59 39 (am_run (c_Model_skip s_Model_peek) k_Model_skip J K n) K 37 L S M := by rfl
set_option maxRecDepth 20000 in
theorem r_Model_skip_39 {s_Model_peek : aS} {J : aJ} {K : aR} {n : Nat} {L : aL} {S : List Value} {M : aM} : am_run (c_Model_skip s_Model_peek) k_Model_skip J K (n + 1) 39 L S M = ai_cmpne 73 42 (am_run (c_Model_skip s_Model_peek) k_Model_skip J K n) K 39 L S M := by rfl
set_option maxRecDepth 20000 in
theorem r_Model_skip_42 {s_Model_peek : aS} {J : aJ} {K : aR} {n : Nat} {L : aL} {S : List Value} {M : aM} : am_run (c_Model_skip s_Model_peek) k_Model_skip J K (n + 1) 42 L S M = ai_aload 0 43 (am_run (c_Model_skip s_Model_peek) k_Model_skip J K n) K 42 L S M := by rfl
set_option maxRecDepth 20000 in
theorem r_Model_skip_43 {s_Model_peek : aS} {J : aJ} {K : aR} {n : Nat} {L : aL} {S : List Value} {M : aM} : am_run (c_Model_skip s_Model_peek) k_Model_skip J K (n + 1) 43 L S M = ai_const 0 44 (am_run (c_Model_skip s_Model_peek) k_Model_skip J K n) K 43 L S M := by rfl
set_option maxRecDepth 20000 in
theorem r_Model_skip_44 {s_Model_peek : aS} {J : aJ} {K : aR} {n : Nat} {L : aL} {S : List Value} {M : aM} : am_run (c_Model_skip s_Model_peek) k_Model_skip J K (n + 1) 44 L S M = ai_callv2 7 s_Model_peek 47 (am_run (c_Model_skip s_Model_peek) k_Model_skip J K n) K 44 L S M := by rfl
set_option maxRecDepth 20000 in
theorem r_Model_skip_47 {s_Model_peek : aS} {J : aJ} {K : aR} {n : Nat} {L : aL} {S : List Value} {M : aM} : am_run (c_Model_skip s_Model_peek) k_Model_skip J K (n + 1) 47 L S M = ai_iflt 73 50 (am_run (c_Model_skip s_Model_peek) k_Model_skip J K n) K 47 L S M := by rfl
set_option maxRecDepth 20000 in
theorem r_Model_skip_50 {s_Model_peek : aS} {J : aJ} {K : aR} {n : Nat} {L : aL} {S : List Value} {M : aM} : am_run (c_Model_skip s_Model_peek) k_Model_skip J K (n + 1) 50 L S M = ai_aload 0 51 (am_run (c_Model_skip s_Model_peek) k_Model_skip J K n) K 50 L S M := by rfl
set_option maxRecDepth 20000 in
theorem r_Model_skip_51 {s_Model_peek : aS} {J : aJ} {K : aR} {n : Nat} {L : aL} {S : List Value} {M : aM} : am_run (c_Model_skip s_Model_peek) k_Model_skip J K (n + 1) 51 L S M = ai_const 0 52 (am_run (c_Model_skip s_Model_peek) k_Model_skip J K n) K 51 L S M := by rfl
set_option maxRecDepth 20000 in
theorem r_Model_skip_52 {s_Model_peek : aS} {J : aJ} {K : aR} {n : Nat} {L : aL} {S : List Value} {M : aM} : am_run (c_Model_skip s_Model_peek) k_Model_skip J K (n + 1) 52 L S M = ai_callv2 7 s_Model_peek 55 (am_run (c_Model_skip s_Model_peek) k_Model_skip J K n) K 52 L S M := by rfl
set_option maxRecDepth 20000 in
theorem r_Model_skip_55 {s_Model_peek : aS} {J : aJ} {K : aR} {n : Nat} {L : aL} {S : List Value} {M : aM} : am_run (c_Model_skip s_Model_peek) k_Model_skip J K (n + 1) 55 L S M = ai_const 10 57 (am_run (c_Model_skip s_Model_peek) k_Model_skip J K n) K 55 L S M := by rfl
set_option maxRecDepth 20000 in
theorem r_Model_skip_57 {s_Model_peek : aS} {J : aJ} {K : aR} {n : Nat} {L : aL} {S : List Value} {M : aM} : am_run (c_Model_skip s_Model_peek) k_Model_skip J K (n + 1) 57 L S M = ai_cmpeq 73 60 (am_run (c_Model_skip s_Model_peek) k_Model_skip J K n) K 57 L S M := by rfl
set_option maxRecDepth 20000 in
theorem r_Model_skip_60 {s_Model_peek : aS} {J : aJ} {K : aR} {n : Nat} {L : aL} {S : List Value} {M : aM} : am_run (c_Model_skip s_Model_peek) k_Model_skip J K (n + 1) 60 L S M = ai_aload 0 61 (am_run (c_Model_skip s_Model_peek) k_Model_skip J K n) K 60 L S M := by rfl
set_option maxRecDepth 20000 in
theorem r_Model_skip_61 {s_Model_peek : aS} {J : aJ} {K : aR} {n : Nat} {L : aL} {S : List Value} {M : aM} : am_run (c_Model_skip s_Model_peek) k_Model_skip J K (n + 1) 61 L S M = ai_aload 0 62 (am_run (c_Model_skip s_Model_peek) k_Model_skip J K n) K 61 L S M := by rfl
set_option maxRecDepth 20000 in
theorem r_Model_skip_62 {s_Model_peek : aS} {J : aJ} {K : aR} {n : Nat} {L : aL} {S : List Value} {M : aM} : am_run (c_Model_skip s_Model_peek) k_Model_skip J K (n + 1) 62 L S M = ai_getf 7 2 65 (am_run (c_Model_skip s_Model_peek) k_Model_skip J K n) K 62 L S M := by rfl
set_option maxRecDepth 20000 in
theorem r_Model_skip_65 {s_Model_peek : aS} {J : aJ} {K : aR} {n : Nat} {L : aL} {S : List Value} {M : aM} : am_run (c_Model_skip s_Model_peek) k_Model_skip J K (n + 1) 65 L S M = ai_const 1 66 (am_run (c_Model_skip s_Model_peek) k_Model_skip J K n) K 65 L S M := by rfl
set_option maxRecDepth 20000 in
theorem r_Model_skip_66 {s_Model_peek : aS} {J : aJ} {K : aR} {n : Nat} {L : aL} {S : List Value} {M : aM} : am_run (c_Model_skip s_Model_peek) k_Model_skip J K (n + 1) 66 L S M = ai_iadd 67 (am_run (c_Model_skip s_Model_peek) k_Model_skip J K n) K 66 L S M := by rfl
set_option maxRecDepth 20000 in
theorem r_Model_skip_67 {s_Model_peek : aS} {J : aJ} {K : aR} {n : Nat} {L : aL} {S : List Value} {M : aM} : am_run (c_Model_skip s_Model_peek) k_Model_skip J K (n + 1) 67 L S M = ai_putf 7 2 70 (am_run (c_Model_skip s_Model_peek) k_Model_skip J K n) K 67 L S M := by rfl
set_option maxRecDepth 20000 in
theorem r_Model_skip_70 {s_Model_peek : aS} {J : aJ} {K : aR} {n : Nat} {L : aL} {S : List Value} {M : aM} : am_run (c_Model_skip s_Model_peek) k_Model_skip J K (n + 1) 70 L S M = ai_goto 36 (am_run (c_Model_skip s_Model_peek) k_Model_skip J K n) K 70 L S M := by rfl
set_option maxRecDepth 20000 in
theorem r_Model_skip_73 {s_Model_peek : aS} {J : aJ} {K : aR} {n : Nat} {L : aL} {S : List Value} {M : aM} : am_run (c_Model_skip s_Model_peek) k_Model_skip J K (n + 1) 73 L S M = ai_iload 2 74 (am_run (c_Model_skip s_Model_peek) k_Model_skip J K n) K 73 L S M := by rfl
set_option maxRecDepth 20000 in
theorem r_Model_skip_74 {s_Model_peek : aS} {J : aJ} {K : aR} {n : Nat} {L : aL} {S : List Value} {M : aM} : am_run (c_Model_skip s_Model_peek) k_Model_skip J K (n + 1) 74 L S M = ai_const 32 76 (am_run (c_Model_skip s_Model_peek) k_Model_skip J K n) K 74 L S M := by rfl
set_option maxRecDepth 20000 in
theorem r_Model_skip_76 {s_Model_peek : aS} {J : aJ} {K : aR} {n : Nat} {L : aL} {S : List Value} {M : aM} : am_run (c_Model_skip s_Model_peek) k_Model_skip J K (n + 1) 76 L S M = ai_cmpeq 85 79 (am_run (c_Model_skip s_Model_peek) k_Model_skip J K n) K 76 L S M := by rfl
set_option maxRecDepth 20000 in
theorem r_Model_skip_79 {s_Model_peek : aS} {J : aJ} {K : aR} {n : Nat} {L : aL} {S : List Value} {M : aM} : am_run (c_Model_skip s_Model_peek) k_Model_skip J K (n + 1) 79 L S M = ai_iload 2 80 (am_run (c_Model_skip s_Model_peek) k_Model_skip J K n) K 79 L S M := by rfl
set_option maxRecDepth 20000 in
theorem r_Model_skip_80 {s_Model_peek : aS} {J : aJ} {K : aR} {n : Nat} {L : aL} {S : List Value} {M : aM} : am_run (c_Model_skip s_Model_peek) k_Model_skip J K (n + 1) 80 L S M = ai_const 10 82 (am_run (c_Model_skip s_Model_peek) k_Model_skip J K n) K 80 L S M := by rfl
set_option maxRecDepth 20000 in
theorem r_Model_skip_82 {s_Model_peek : aS} {J : aJ} {K : aR} {n : Nat} {L : aL} {S : List Value} {M : aM} : am_run (c_Model_skip s_Model_peek) k_Model_skip J K (n + 1) 82 L S M = ai_cmpne 95 85 (am_run (c_Model_skip s_Model_peek) k_Model_skip J K n) K 82 L S M := by rfl
set_option maxRecDepth 20000 in
theorem r_Model_skip_85 {s_Model_peek : aS} {J : aJ} {K : aR} {n : Nat} {L : aL} {S : List Value} {M : aM} : am_run (c_Model_skip s_Model_peek) k_Model_skip J K (n + 1) 85 L S M = ai_aload 0 86 (am_run (c_Model_skip s_Model_peek) k_Model_skip J K n) K 85 L S M := by rfl
set_option maxRecDepth 20000 in
theorem r_Model_skip_86 {s_Model_peek : aS} {J : aJ} {K : aR} {n : Nat} {L : aL} {S : List Value} {M : aM} : am_run (c_Model_skip s_Model_peek) k_Model_skip J K (n + 1) 86 L S M = ai_aload 0 87 (am_run (c_Model_skip s_Model_peek) k_Model_skip J K n) K 86 L S M := by rfl
set_option maxRecDepth 20000 in
theorem r_Model_skip_87 {s_Model_peek : aS} {J : aJ} {K : aR} {n : Nat} {L : aL} {S : List Value} {M : aM} : am_run (c_Model_skip s_Model_peek) k_Model_skip J K (n + 1) 87 L S M = ai_getf 7 2 90 (am_run (c_Model_skip s_Model_peek) k_Model_skip J K n) K 87 L S M := by rfl
set_option maxRecDepth 20000 in
theorem r_Model_skip_90 {s_Model_peek : aS} {J : aJ} {K : aR} {n : Nat} {L : aL} {S : List Value} {M : aM} : am_run (c_Model_skip s_Model_peek) k_Model_skip J K (n + 1) 90 L S M = ai_const 1 91 (am_run (c_Model_skip s_Model_peek) k_Model_skip J K n) K 90 L S M := by rfl
set_option maxRecDepth 20000 in
theorem r_Model_skip_91 {s_Model_peek : aS} {J : aJ} {K : aR} {n : Nat} {L : aL} {S : List Value} {M : aM} : am_run (c_Model_skip s_Model_peek) k_Model_skip J K (n + 1) 91 L S M = ai_iadd 92 (am_run (c_Model_skip s_Model_peek) k_Model_skip J K n) K 91 L S M := by rfl
set_option maxRecDepth 20000 in
theorem r_Model_skip_92 {s_Model_peek : aS} {J : aJ} {K : aR} {n : Nat} {L : aL} {S : List Value} {M : aM} : am_run (c_Model_skip s_Model_peek) k_Model_skip J K (n + 1) 92 L S M = ai_putf 7 2 95 (am_run (c_Model_skip s_Model_peek) k_Model_skip J K n) K 92 L S M := by rfl
set_option maxRecDepth 20000 in
theorem r_Model_skip_95 {s_Model_peek : aS} {J : aJ} {K : aR} {n : Nat} {L : aL} {S : List Value} {M : aM} : am_run (c_Model_skip s_Model_peek) k_Model_skip J K (n + 1) 95 L S M = ai_goto 2 (am_run (c_Model_skip s_Model_peek) k_Model_skip J K n) K 95 L S M := by rfl
set_option maxRecDepth 20000 in
theorem r_Model_skip_98 {s_Model_peek : aS} {J : aJ} {K : aR} {n : Nat} {L : aL} {S : List Value} {M : aM} : am_run (c_Model_skip s_Model_peek) k_Model_skip J K (n + 1) 98 L S M = ai_vret (am_run (c_Model_skip s_Model_peek) k_Model_skip J K n) K 98 L S M := by rfl
def c_Model_token (s_Model_skip : aS) (s_Model_peek : aS) (s_Model_isByte : aS) (s_Model_string : aS) (s_Model_isDigit : aS) (s_Model_isBegin : aS) : List (Nat × aI) := [
  (0, ai_aload 0 1),
  (1, ai_callv1 7 s_Model_skip 4),
  (4, ai_aload 0 5),
  (5, ai_aload 0 6),
  (6, ai_getf 7 2 9),
  (9, ai_putf 7 3 12),
  (12, ai_aload 0 13),
  (13, ai_const 0 14),
  (14, ai_callv2 7 s_Model_peek 17),
  (17, ai_istore 1 18),
  (18, ai_iload 1 19),
  (19, ai_ifge 25 22),
  (22, ai_const 10 24),
  (24, ai_iret),
  (25, ai_iload 1 26),
  (26, ai_const 40 28),
  (28, ai_cmpeq 43 31),
  (31, ai_iload 1 32),
  (32, ai_const 41 34),
  (34, ai_cmpeq 43 37),
  (37, ai_iload 1 38),
  (38, ai_const 39 40),
  (40, ai_cmpne 78 43),
  (43, ai_aload 0 44),
  (44, ai_aload 0 45),
  (45, ai_getf 7 2 48),
  (48, ai_const 1 49),
  (49, ai_iadd 50),
  (50, ai_putf 7 2 53),
  (53, ai_iload 1 54),
  (54, ai_const 40 56),
  (56, ai_cmpne 64 59),
  (59, ai_const 12 61),
  (61, ai_goto 77),
  (64, ai_iload 1 65),
  (65, ai_const 41 67),
  (67, ai_cmpne 75 70),
  (70, ai_const 13 72),
  (72, ai_goto 77),
  (75, ai_const 14 77),
  (77, ai_iret),
  (78, ai_iload 1 79),
  (79, ai_const 46 81),
  (81, ai_cmpne 134 84),
  (84, ai_aload 0 85),
  (85, ai_const (-1) 86),
  (86, ai_callv2 7 s_Model_peek 89),
  (89, ai_calls1 s_Model_isByte 92),
  (92, ai_ifne 110 95),
  (95, ai_aload 0 96),
  (96, ai_const 1 97),
  (97, ai_callv2 7 s_Model_peek 100),
  (100, ai_calls1 s_Model_isByte 103),
  (103, ai_ifne 110 106),
  (106, ai_const 1 107),
  (107, ai_goto 111),
  (110, ai_const 0 111),
  (111, ai_istore 2 112),
  (112, ai_aload 0 113),
  (113, ai_aload 0 114),
  (114, ai_getf 7 2 117),
  (117, ai_const 1 118),
  (118, ai_iadd 119),
  (119, ai_putf 7 2 122),
  (122, ai_iload 2 123),
  (123, ai_ifeq 131 126),
  (126, ai_const 15 128),
  (128, ai_goto 133),
  (131, ai_const 11 133),
  (133, ai_iret),
  (134, ai_iload 1 135),
  (135, ai_const 34 137),
  (137, ai_cmpne 145 140),
  (140, ai_aload 0 141),
  (141, ai_callv1 7 s_Model_string 144),
  (144, ai_iret),
  (145, ai_iload 1 146),
  (146, ai_calls1 s_Model_isByte 149),
  (149, ai_ifne 155 152),
  (152, ai_const 11 154),
  (154, ai_iret),
  (155, ai_const 0 156),
  (156, ai_istore 2 157),
  (157, ai_const 1 158),
  (158, ai_istore 3 159),
  (159, ai_aload 0 160),
  (160, ai_iload 2 161),
  (161, ai_callv2 7 s_Model_peek 164),
  (164, ai_calls1 s_Model_isByte 167),
  (167, ai_ifeq 208 170),
  (170, ai_iload 3 171),
  (171, ai_ifeq 199 174),
  (174, ai_aload 0 175),
  (175, ai_iload 2 176),
  (176, ai_callv2 7 s_Model_peek 179),
  (179, ai_calls1 s_Model_isDigit 182),
  (182, ai_ifne 195 185),
  (185, ai_iload 2 186),
  (186, ai_ifne 199 189),
  (189, ai_iload 1 190),
  (190, ai_const 45 192),
  (192, ai_cmpne 199 195),
  (195, ai_const 1 196),
  (196, ai_goto 200),
  (199, ai_const 0 200),
  (200, ai_istore 3 201),
  (201, ai_iload 2 202),
  (202, ai_const 1 203),
  (203, ai_iadd 204),
  (204, ai_istore 2 205),
  (205, ai_goto 159),
  (208, ai_aload 0 209),
  (209, ai_aload 0 210),
  (210, ai_getf 7 2 213),
  (213, ai_iload 2 214),
  (214, ai_iadd 215),
  (215, ai_putf 7 2 218),
  (218, ai_iload 1 219),
  (219, ai_const 45 221),
  (221, ai_cmpne 230 224),
  (224, ai_iload 2 225),
  (225, ai_const 1 226),
  (226, ai_isub 227),
  (227, ai_goto 231),
  (230, ai_iload 2 231),
  (231, ai_istore 4 233),
  (233, ai_iload 3 234),
  (234, ai_ifeq 256 237),
  (237, ai_iload 4 239),
  (239, ai_ifle 253 242),
  (242, ai_iload 4 244),
  (244, ai_const 10 246),
  (246, ai_cmpge 253 249),
  (249, ai_const 1 250),
  (250, ai_goto 255),
  (253, ai_const 11 255),
  (255, ai_iret),
  (256, ai_iload 1 257),
  (257, ai_calls1 s_Model_isBegin 260),
  (260, ai_ifeq 273 263),
  (263, ai_iload 2 264),
  (264, ai_const 12 266),
  (266, ai_cmpgt 273 269),
  (269, ai_const 2 270),
  (270, ai_goto 275),
  (273, ai_const 11 275),
  (275, ai_iret)]
set_option maxRecDepth 100000 in
set_option maxHeartbeats 4000000 in
theorem tb_Model_token {G : aG} {d : Nat} {s_Model_skip : aS} {d_Model_skip : Nat} (h_Model_skip : am_Sp G Y_Model_skip d_Model_skip s_Model_skip) (l_Model_skip : d_Model_skip < d) {s_Model_peek : aS} {d_Model_peek : Nat} (h_Model_peek : am_Sp G Y_Model_peek d_Model_peek s_Model_peek) (l_Model_peek : d_Model_peek < d) {s_Model_isByte : aS} {d_Model_isByte : Nat} (h_Model_isByte : am_Sp G Y_Model_isByte d_Model_isByte s_Model_isByte) (l_Model_isByte : d_Model_isByte < d) {s_Model_string : aS} {d_Model_string : Nat} (h_Model_string : am_Sp G Y_Model_string d_Model_string s_Model_string) (l_Model_string : d_Model_string < d) {s_Model_isDigit : aS} {d_Model_isDigit : Nat} (h_Model_isDigit : am_Sp G Y_Model_isDigit d_Model_isDigit s_Model_isDigit) (l_Model_isDigit : d_Model_isDigit < d) {s_Model_isBegin : aS} {d_Model_isBegin : Nat} (h_Model_isBegin : am_Sp G Y_Model_isBegin d_Model_isBegin s_Model_isBegin) (l_Model_isBegin : d_Model_isBegin < d) : am_tab G Y_Model_token d (c_Model_token s_Model_skip s_Model_peek s_Model_isByte s_Model_string s_Model_isDigit s_Model_isBegin) := by
  intro K p e s m args below meth c C
  exact ⟨as_aload_n C (pc := 0) (q := 0) (by decide +kernel) rfl rfl,
    as_callv1 C (pc := 1) h_Model_skip (T := T_Model) (N := 21) rfl w_596 w_78 w_595 w_51 w_593 hy_Model_skip (am_rm_of l_Model_skip (by decide)) (by decide +kernel) rfl,
    as_aload_n C (pc := 4) (q := 0) (by decide +kernel) rfl rfl,
    as_aload_n C (pc := 5) (q := 0) (by decide +kernel) rfl rfl,
    as_getf C (pc := 6) (T := T_Model) (N := 21) rfl in_Model (by decide) rfl w_519 (by decide +kernel) rfl,
    as_putf C (pc := 9) t_Model (T := T_Model) (N := 21) rfl in_Model tok_Model nm_Model (by decide) rfl rfl (by decide +kernel) w_520 (by decide +kernel) rfl,
    as_aload_n C (pc := 12) (q := 0) (by decide +kernel) rfl rfl,
    as_iconst C (pc := 13) (n := 0) (by decide +kernel) (by decide +kernel) rfl,
    as_callv2 C (pc := 14) h_Model_peek (T := T_Model) (N := 21) rfl w_600 w_78 w_599 w_52 w_597 hy_Model_peek (am_rm_of l_Model_peek (by decide)) (by decide +kernel) rfl,
    as_istore_n C (pc := 17) (q := 1) (by decide +kernel) rfl (by decide) rfl,
    as_iload_n C (pc := 18) (q := 1) (by decide +kernel) rfl rfl,
    as_ifge C (pc := 19) (off := 6) (by decide +kernel) (by decide) rfl,
    as_bipush C (pc := 22) (n := 10) (by decide +kernel) (by decide +kernel) rfl,
    as_iret C (pc := 24) rfl (by decide +kernel),
    as_iload_n C (pc := 25) (q := 1) (by decide +kernel) rfl rfl,
    as_bipush C (pc := 26) (n := 40) (by decide +kernel) (by decide +kernel) rfl,
    as_cmpeq C (pc := 28) (off := 15) (by decide +kernel) (by decide) rfl,
    as_iload_n C (pc := 31) (q := 1) (by decide +kernel) rfl rfl,
    as_bipush C (pc := 32) (n := 41) (by decide +kernel) (by decide +kernel) rfl,
    as_cmpeq C (pc := 34) (off := 9) (by decide +kernel) (by decide) rfl,
    as_iload_n C (pc := 37) (q := 1) (by decide +kernel) rfl rfl,
    as_bipush C (pc := 38) (n := 39) (by decide +kernel) (by decide +kernel) rfl,
    as_cmpne C (pc := 40) (off := 38) (by decide +kernel) (by decide) rfl,
    as_aload_n C (pc := 43) (q := 0) (by decide +kernel) rfl rfl,
    as_aload_n C (pc := 44) (q := 0) (by decide +kernel) rfl rfl,
    as_getf C (pc := 45) (T := T_Model) (N := 21) rfl in_Model (by decide) rfl w_519 (by decide +kernel) rfl,
    as_iconst C (pc := 48) (n := 1) (by decide +kernel) (by decide +kernel) rfl,
    as_iadd C (pc := 49) (by decide +kernel) rfl,
    as_putf C (pc := 50) t_Model (T := T_Model) (N := 21) rfl in_Model tok_Model nm_Model (by decide) rfl rfl (by decide +kernel) w_519 (by decide +kernel) rfl,
    as_iload_n C (pc := 53) (q := 1) (by decide +kernel) rfl rfl,
    as_bipush C (pc := 54) (n := 40) (by decide +kernel) (by decide +kernel) rfl,
    as_cmpne C (pc := 56) (off := 8) (by decide +kernel) (by decide) rfl,
    as_bipush C (pc := 59) (n := 12) (by decide +kernel) (by decide +kernel) rfl,
    as_goto C (pc := 61) (off := 16) (by decide +kernel) (by decide),
    as_iload_n C (pc := 64) (q := 1) (by decide +kernel) rfl rfl,
    as_bipush C (pc := 65) (n := 41) (by decide +kernel) (by decide +kernel) rfl,
    as_cmpne C (pc := 67) (off := 8) (by decide +kernel) (by decide) rfl,
    as_bipush C (pc := 70) (n := 13) (by decide +kernel) (by decide +kernel) rfl,
    as_goto C (pc := 72) (off := 5) (by decide +kernel) (by decide),
    as_bipush C (pc := 75) (n := 14) (by decide +kernel) (by decide +kernel) rfl,
    as_iret C (pc := 77) rfl (by decide +kernel),
    as_iload_n C (pc := 78) (q := 1) (by decide +kernel) rfl rfl,
    as_bipush C (pc := 79) (n := 46) (by decide +kernel) (by decide +kernel) rfl,
    as_cmpne C (pc := 81) (off := 53) (by decide +kernel) (by decide) rfl,
    as_aload_n C (pc := 84) (q := 0) (by decide +kernel) rfl rfl,
    as_iconst C (pc := 85) (n := (-1)) (by decide +kernel) (by decide +kernel) rfl,
    as_callv2 C (pc := 86) h_Model_peek (T := T_Model) (N := 21) rfl w_600 w_78 w_599 w_52 w_597 hy_Model_peek (am_rm_of l_Model_peek (by decide)) (by decide +kernel) rfl,
    as_calls1 C (pc := 89) h_Model_isByte w_603 w_78 w_602 w_601 hy_Model_isByte (am_rm_of l_Model_isByte (by decide)) (by decide +kernel) rfl,
    as_ifne C (pc := 92) (off := 18) (by decide +kernel) (by decide) rfl,
    as_aload_n C (pc := 95) (q := 0) (by decide +kernel) rfl rfl,
    as_iconst C (pc := 96) (n := 1) (by decide +kernel) (by decide +kernel) rfl,
    as_callv2 C (pc := 97) h_Model_peek (T := T_Model) (N := 21) rfl w_600 w_78 w_599 w_52 w_597 hy_Model_peek (am_rm_of l_Model_peek (by decide)) (by decide +kernel) rfl,
    as_calls1 C (pc := 100) h_Model_isByte w_603 w_78 w_602 w_601 hy_Model_isByte (am_rm_of l_Model_isByte (by decide)) (by decide +kernel) rfl,
    as_ifne C (pc := 103) (off := 7) (by decide +kernel) (by decide) rfl,
    as_iconst C (pc := 106) (n := 1) (by decide +kernel) (by decide +kernel) rfl,
    as_goto C (pc := 107) (off := 4) (by decide +kernel) (by decide),
    as_iconst C (pc := 110) (n := 0) (by decide +kernel) (by decide +kernel) rfl,
    as_istore_n C (pc := 111) (q := 2) (by decide +kernel) rfl (by decide) rfl,
    as_aload_n C (pc := 112) (q := 0) (by decide +kernel) rfl rfl,
    as_aload_n C (pc := 113) (q := 0) (by decide +kernel) rfl rfl,
    as_getf C (pc := 114) (T := T_Model) (N := 21) rfl in_Model (by decide) rfl w_519 (by decide +kernel) rfl,
    as_iconst C (pc := 117) (n := 1) (by decide +kernel) (by decide +kernel) rfl,
    as_iadd C (pc := 118) (by decide +kernel) rfl,
    as_putf C (pc := 119) t_Model (T := T_Model) (N := 21) rfl in_Model tok_Model nm_Model (by decide) rfl rfl (by decide +kernel) w_519 (by decide +kernel) rfl,
    as_iload_n C (pc := 122) (q := 2) (by decide +kernel) rfl rfl,
    as_ifeq C (pc := 123) (off := 8) (by decide +kernel) (by decide) rfl,
    as_bipush C (pc := 126) (n := 15) (by decide +kernel) (by decide +kernel) rfl,
    as_goto C (pc := 128) (off := 5) (by decide +kernel) (by decide),
    as_bipush C (pc := 131) (n := 11) (by decide +kernel) (by decide +kernel) rfl,
    as_iret C (pc := 133) rfl (by decide +kernel),
    as_iload_n C (pc := 134) (q := 1) (by decide +kernel) rfl rfl,
    as_bipush C (pc := 135) (n := 34) (by decide +kernel) (by decide +kernel) rfl,
    as_cmpne C (pc := 137) (off := 8) (by decide +kernel) (by decide) rfl,
    as_aload_n C (pc := 140) (q := 0) (by decide +kernel) rfl rfl,
    as_callv1 C (pc := 141) h_Model_string (T := T_Model) (N := 21) rfl w_613 w_78 w_612 w_53 w_610 hy_Model_string (am_rm_of l_Model_string (by decide)) (by decide +kernel) rfl,
    as_iret C (pc := 144) rfl (by decide +kernel),
    as_iload_n C (pc := 145) (q := 1) (by decide +kernel) rfl rfl,
    as_calls1 C (pc := 146) h_Model_isByte w_603 w_78 w_602 w_601 hy_Model_isByte (am_rm_of l_Model_isByte (by decide)) (by decide +kernel) rfl,
    as_ifne C (pc := 149) (off := 6) (by decide +kernel) (by decide) rfl,
    as_bipush C (pc := 152) (n := 11) (by decide +kernel) (by decide +kernel) rfl,
    as_iret C (pc := 154) rfl (by decide +kernel),
    as_iconst C (pc := 155) (n := 0) (by decide +kernel) (by decide +kernel) rfl,
    as_istore_n C (pc := 156) (q := 2) (by decide +kernel) rfl (by decide) rfl,
    as_iconst C (pc := 157) (n := 1) (by decide +kernel) (by decide +kernel) rfl,
    as_istore_n C (pc := 158) (q := 3) (by decide +kernel) rfl (by decide) rfl,
    as_aload_n C (pc := 159) (q := 0) (by decide +kernel) rfl rfl,
    as_iload_n C (pc := 160) (q := 2) (by decide +kernel) rfl rfl,
    as_callv2 C (pc := 161) h_Model_peek (T := T_Model) (N := 21) rfl w_600 w_78 w_599 w_52 w_597 hy_Model_peek (am_rm_of l_Model_peek (by decide)) (by decide +kernel) rfl,
    as_calls1 C (pc := 164) h_Model_isByte w_603 w_78 w_602 w_601 hy_Model_isByte (am_rm_of l_Model_isByte (by decide)) (by decide +kernel) rfl,
    as_ifeq C (pc := 167) (off := 41) (by decide +kernel) (by decide) rfl,
    as_iload_n C (pc := 170) (q := 3) (by decide +kernel) rfl rfl,
    as_ifeq C (pc := 171) (off := 28) (by decide +kernel) (by decide) rfl,
    as_aload_n C (pc := 174) (q := 0) (by decide +kernel) rfl rfl,
    as_iload_n C (pc := 175) (q := 2) (by decide +kernel) rfl rfl,
    as_callv2 C (pc := 176) h_Model_peek (T := T_Model) (N := 21) rfl w_600 w_78 w_599 w_52 w_597 hy_Model_peek (am_rm_of l_Model_peek (by decide)) (by decide +kernel) rfl,
    as_calls1 C (pc := 179) h_Model_isDigit w_609 w_78 w_608 w_607 hy_Model_isDigit (am_rm_of l_Model_isDigit (by decide)) (by decide +kernel) rfl,
    as_ifne C (pc := 182) (off := 13) (by decide +kernel) (by decide) rfl,
    as_iload_n C (pc := 185) (q := 2) (by decide +kernel) rfl rfl,
    as_ifne C (pc := 186) (off := 13) (by decide +kernel) (by decide) rfl,
    as_iload_n C (pc := 189) (q := 1) (by decide +kernel) rfl rfl,
    as_bipush C (pc := 190) (n := 45) (by decide +kernel) (by decide +kernel) rfl,
    as_cmpne C (pc := 192) (off := 7) (by decide +kernel) (by decide) rfl,
    as_iconst C (pc := 195) (n := 1) (by decide +kernel) (by decide +kernel) rfl,
    as_goto C (pc := 196) (off := 4) (by decide +kernel) (by decide),
    as_iconst C (pc := 199) (n := 0) (by decide +kernel) (by decide +kernel) rfl,
    as_istore_n C (pc := 200) (q := 3) (by decide +kernel) rfl (by decide) rfl,
    as_iload_n C (pc := 201) (q := 2) (by decide +kernel) rfl rfl,
    as_iconst C (pc := 202) (n := 1) (by decide +kernel) (by decide +kernel) rfl,
    as_iadd C (pc := 203) (by decide +kernel) rfl,
    as_istore_n C (pc := 204) (q := 2) (by decide +kernel) rfl (by decide) rfl,
    as_goto C (pc := 205) (off := (-46)) (by decide +kernel) (by decide),
    as_aload_n C (pc := 208) (q := 0) (by decide +kernel) rfl rfl,
    as_aload_n C (pc := 209) (q := 0) (by decide +kernel) rfl rfl,
    as_getf C (pc := 210) (T := T_Model) (N := 21) rfl in_Model (by decide) rfl w_519 (by decide +kernel) rfl,
    as_iload_n C (pc := 213) (q := 2) (by decide +kernel) rfl rfl,
    as_iadd C (pc := 214) (by decide +kernel) rfl,
    as_putf C (pc := 215) t_Model (T := T_Model) (N := 21) rfl in_Model tok_Model nm_Model (by decide) rfl rfl (by decide +kernel) w_519 (by decide +kernel) rfl,
    as_iload_n C (pc := 218) (q := 1) (by decide +kernel) rfl rfl,
    as_bipush C (pc := 219) (n := 45) (by decide +kernel) (by decide +kernel) rfl,
    as_cmpne C (pc := 221) (off := 9) (by decide +kernel) (by decide) rfl,
    as_iload_n C (pc := 224) (q := 2) (by decide +kernel) rfl rfl,
    as_iconst C (pc := 225) (n := 1) (by decide +kernel) (by decide +kernel) rfl,
    as_isub C (pc := 226) (by decide +kernel) rfl,
    as_goto C (pc := 227) (off := 4) (by decide +kernel) (by decide),
    as_iload_n C (pc := 230) (q := 2) (by decide +kernel) rfl rfl,
    as_istore C (pc := 231) (k := 4) (by decide +kernel) (by decide) rfl,
    as_iload_n C (pc := 233) (q := 3) (by decide +kernel) rfl rfl,
    as_ifeq C (pc := 234) (off := 22) (by decide +kernel) (by decide) rfl,
    as_iload C (pc := 237) (k := 4) (by decide +kernel) rfl,
    as_ifle C (pc := 239) (off := 14) (by decide +kernel) (by decide) rfl,
    as_iload C (pc := 242) (k := 4) (by decide +kernel) rfl,
    as_bipush C (pc := 244) (n := 10) (by decide +kernel) (by decide +kernel) rfl,
    as_cmpge C (pc := 246) (off := 7) (by decide +kernel) (by decide) rfl,
    as_iconst C (pc := 249) (n := 1) (by decide +kernel) (by decide +kernel) rfl,
    as_goto C (pc := 250) (off := 5) (by decide +kernel) (by decide),
    as_bipush C (pc := 253) (n := 11) (by decide +kernel) (by decide +kernel) rfl,
    as_iret C (pc := 255) rfl (by decide +kernel),
    as_iload_n C (pc := 256) (q := 1) (by decide +kernel) rfl rfl,
    as_calls1 C (pc := 257) h_Model_isBegin w_606 w_78 w_605 w_604 hy_Model_isBegin (am_rm_of l_Model_isBegin (by decide)) (by decide +kernel) rfl,
    as_ifeq C (pc := 260) (off := 13) (by decide +kernel) (by decide) rfl,
    as_iload_n C (pc := 263) (q := 2) (by decide +kernel) rfl rfl,
    as_bipush C (pc := 264) (n := 12) (by decide +kernel) (by decide +kernel) rfl,
    as_cmpgt C (pc := 266) (off := 7) (by decide +kernel) (by decide) rfl,
    as_iconst C (pc := 269) (n := 2) (by decide +kernel) (by decide +kernel) rfl,
    as_goto C (pc := 270) (off := 5) (by decide +kernel) (by decide),
    as_bipush C (pc := 273) (n := 11) (by decide +kernel) (by decide +kernel) rfl,
    as_iret C (pc := 275) rfl (by decide +kernel), trivial⟩
abbrev k_Model_token : List Nat := [159]
set_option maxRecDepth 20000 in
theorem q_Model_token_159 {s_Model_skip : aS} {s_Model_peek : aS} {s_Model_isByte : aS} {s_Model_string : aS} {s_Model_isDigit : aS} {s_Model_isBegin : aS} : am_at (c_Model_token s_Model_skip s_Model_peek s_Model_isByte s_Model_string s_Model_isDigit s_Model_isBegin) 159 = ai_aload 0 160 := by rfl
set_option maxRecDepth 20000 in
theorem r_Model_token_0 {s_Model_skip : aS} {s_Model_peek : aS} {s_Model_isByte : aS} {s_Model_string : aS} {s_Model_isDigit : aS} {s_Model_isBegin : aS} {J : aJ} {K : aR} {n : Nat} {L : aL} {S : List Value} {M : aM} : am_run (c_Model_token s_Model_skip s_Model_peek s_Model_isByte s_Model_string s_Model_isDigit s_Model_isBegin) k_Model_token J K (n + 1) 0 L S M = ai_aload 0 1 (am_run (c_Model_token s_Model_skip s_Model_peek s_Model_isByte s_Model_string s_Model_isDigit s_Model_isBegin) k_Model_token J K n) K 0 L S M := by rfl
set_option maxRecDepth 20000 in
theorem r_Model_token_1 {s_Model_skip : aS} {s_Model_peek : aS} {s_Model_isByte : aS} {s_Model_string : aS} {s_Model_isDigit : aS} {s_Model_isBegin : aS} {J : aJ} {K : aR} {n : Nat} {L : aL} {S : List Value} {M : aM} : am_run (c_Model_token s_Model_skip s_Model_peek s_Model_isByte s_Model_string s_Model_isDigit s_Model_isBegin) k_Model_token J K (n + 1) 1 L S M = ai_callv1 7 s_Model_skip 4 (am_run (c_Model_token s_Model_skip s_Model_peek s_Model_isByte s_Model_string s_Model_isDigit s_Model_isBegin) k_Model_token J K n) K 1 L S M := by rfl
set_option maxRecDepth 20000 in
theorem r_Model_token_4 {s_Model_skip : aS} {s_Model_peek : aS} {s_Model_isByte : aS} {s_Model_string : aS} {s_Model_isDigit : aS} {s_Model_isBegin : aS} {J : aJ} {K : aR} {n : Nat} {L : aL} {S : List Value} {M : aM} : am_run (c_Model_token s_Model_skip s_Model_peek s_Model_isByte s_Model_string s_Model_isDigit s_Model_isBegin) k_Model_token J K (n + 1) 4 L S M = ai_aload 0 5 (am_run (c_Model_token s_Model_skip s_Model_peek s_Model_isByte s_Model_string s_Model_isDigit s_Model_isBegin) k_Model_token J K n) K 4 L S M := by rfl
set_option maxRecDepth 20000 in
theorem r_Model_token_5 {s_Model_skip : aS} {s_Model_peek : aS} {s_Model_isByte : aS} {s_Model_string : aS} {s_Model_isDigit : aS} {s_Model_isBegin : aS} {J : aJ} {K : aR} {n : Nat} {L : aL} {S : List Value} {M : aM} : am_run (c_Model_token s_Model_skip s_Model_peek s_Model_isByte s_Model_string s_Model_isDigit s_Model_isBegin) k_Model_token J K (n + 1) 5 L S M = ai_aload 0 6 (am_run (c_Model_token s_Model_skip s_Model_peek s_Model_isByte s_Model_string s_Model_isDigit s_Model_isBegin) k_Model_token J K n) K 5 L S M := by rfl
set_option maxRecDepth 20000 in
theorem r_Model_token_6 {s_Model_skip : aS} {s_Model_peek : aS} {s_Model_isByte : aS} {s_Model_string : aS} {s_Model_isDigit : aS} {s_Model_isBegin : aS} {J : aJ} {K : aR} {n : Nat} {L : aL} {S : List Value} {M : aM} : am_run (c_Model_token s_Model_skip s_Model_peek s_Model_isByte s_Model_string s_Model_isDigit s_Model_isBegin) k_Model_token J K (n + 1) 6 L S M = ai_getf 7 2 9 (am_run (c_Model_token s_Model_skip s_Model_peek s_Model_isByte s_Model_string s_Model_isDigit s_Model_isBegin) k_Model_token J K n) K 6 L S M := by rfl
set_option maxRecDepth 20000 in
theorem r_Model_token_9 {s_Model_skip : aS} {s_Model_peek : aS} {s_Model_isByte : aS} {s_Model_string : aS} {s_Model_isDigit : aS} {s_Model_isBegin : aS} {J : aJ} {K : aR} {n : Nat} {L : aL} {S : List Value} {M : aM} : am_run (c_Model_token s_Model_skip s_Model_peek s_Model_isByte s_Model_string s_Model_isDigit s_Model_isBegin) k_Model_token J K (n + 1) 9 L S M = ai_putf 7 3 12 (am_run (c_Model_token s_Model_skip s_Model_peek s_Model_isByte s_Model_string s_Model_isDigit s_Model_isBegin) k_Model_token J K n) K 9 L S M := by rfl
set_option maxRecDepth 20000 in
theorem r_Model_token_12 {s_Model_skip : aS} {s_Model_peek : aS} {s_Model_isByte : aS} {s_Model_string : aS} {s_Model_isDigit : aS} {s_Model_isBegin : aS} {J : aJ} {K : aR} {n : Nat} {L : aL} {S : List Value} {M : aM} : am_run (c_Model_token s_Model_skip s_Model_peek s_Model_isByte s_Model_string s_Model_isDigit s_Model_isBegin) k_Model_token J K (n + 1) 12 L S M = ai_aload 0 13 (am_run (c_Model_token s_Model_skip s_Model_peek s_Model_isByte s_Model_string s_Model_isDigit s_Model_isBegin) k_Model_token J K n) K 12 L S M := by rfl
set_option maxRecDepth 20000 in
theorem r_Model_token_13 {s_Model_skip : aS} {s_Model_peek : aS} {s_Model_isByte : aS} {s_Model_string : aS} {s_Model_isDigit : aS} {s_Model_isBegin : aS} {J : aJ} {K : aR} {n : Nat} {L : aL} {S : List Value} {M : aM} : am_run (c_Model_token s_Model_skip s_Model_peek s_Model_isByte s_Model_string s_Model_isDigit s_Model_isBegin) k_Model_token J K (n + 1) 13 L S M = ai_const 0 14 (am_run (c_Model_token s_Model_skip s_Model_peek s_Model_isByte s_Model_string s_Model_isDigit s_Model_isBegin) k_Model_token J K n) K 13 L S M := by rfl
set_option maxRecDepth 20000 in
theorem r_Model_token_14 {s_Model_skip : aS} {s_Model_peek : aS} {s_Model_isByte : aS} {s_Model_string : aS} {s_Model_isDigit : aS} {s_Model_isBegin : aS} {J : aJ} {K : aR} {n : Nat} {L : aL} {S : List Value} {M : aM} : am_run (c_Model_token s_Model_skip s_Model_peek s_Model_isByte s_Model_string s_Model_isDigit s_Model_isBegin) k_Model_token J K (n + 1) 14 L S M = ai_callv2 7 s_Model_peek 17 (am_run (c_Model_token s_Model_skip s_Model_peek s_Model_isByte s_Model_string s_Model_isDigit s_Model_isBegin) k_Model_token J K n) K 14 L S M := by rfl
set_option maxRecDepth 20000 in
theorem r_Model_token_17 {s_Model_skip : aS} {s_Model_peek : aS} {s_Model_isByte : aS} {s_Model_string : aS} {s_Model_isDigit : aS} {s_Model_isBegin : aS} {J : aJ} {K : aR} {n : Nat} {L : aL} {S : List Value} {M : aM} : am_run (c_Model_token s_Model_skip s_Model_peek s_Model_isByte s_Model_string s_Model_isDigit s_Model_isBegin) k_Model_token J K (n + 1) 17 L S M = ai_istore 1 18 (am_run (c_Model_token s_Model_skip s_Model_peek s_Model_isByte s_Model_string s_Model_isDigit s_Model_isBegin) k_Model_token J K n) K 17 L S M := by rfl
set_option maxRecDepth 20000 in
theorem r_Model_token_18 {s_Model_skip : aS} {s_Model_peek : aS} {s_Model_isByte : aS} {s_Model_string : aS} {s_Model_isDigit : aS} {s_Model_isBegin : aS} {J : aJ} {K : aR} {n : Nat} {L : aL} {S : List Value} {M : aM} : am_run (c_Model_token s_Model_skip s_Model_peek s_Model_isByte s_Model_string s_Model_isDigit s_Model_isBegin) k_Model_token J K (n + 1) 18 L S M = ai_iload 1 19 (am_run (c_Model_token s_Model_skip s_Model_peek s_Model_isByte s_Model_string s_Model_isDigit s_Model_isBegin) k_Model_token J K n) K 18 L S M := by rfl
set_option maxRecDepth 20000 in
theorem r_Model_token_19 {s_Model_skip : aS} {s_Model_peek : aS} {s_Model_isByte : aS} {s_Model_string : aS} {s_Model_isDigit : aS} {s_Model_isBegin : aS} {J : aJ} {K : aR} {n : Nat} {L : aL} {S : List Value} {M : aM} : am_run (c_Model_token s_Model_skip s_Model_peek s_Model_isByte s_Model_string s_Model_isDigit s_Model_isBegin) k_Model_token J K (n + 1) 19 L S M = ai_ifge 25 22 (am_run (c_Model_token s_Model_skip s_Model_peek s_Model_isByte s_Model_string s_Model_isDigit s_Model_isBegin) k_Model_token J K n) K 19 L S M := by rfl
set_option maxRecDepth 20000 in
theorem r_Model_token_22 {s_Model_skip : aS} {s_Model_peek : aS} {s_Model_isByte : aS} {s_Model_string : aS} {s_Model_isDigit : aS} {s_Model_isBegin : aS} {J : aJ} {K : aR} {n : Nat} {L : aL} {S : List Value} {M : aM} : am_run (c_Model_token s_Model_skip s_Model_peek s_Model_isByte s_Model_string s_Model_isDigit s_Model_isBegin) k_Model_token J K (n + 1) 22 L S M = ai_const 10 24 (am_run (c_Model_token s_Model_skip s_Model_peek s_Model_isByte s_Model_string s_Model_isDigit s_Model_isBegin) k_Model_token J K n) K 22 L S M := by rfl
set_option maxRecDepth 20000 in
theorem r_Model_token_24 {s_Model_skip : aS} {s_Model_peek : aS} {s_Model_isByte : aS} {s_Model_string : aS} {s_Model_isDigit : aS} {s_Model_isBegin : aS} {J : aJ} {K : aR} {n : Nat} {L : aL} {S : List Value} {M : aM} : am_run (c_Model_token s_Model_skip s_Model_peek s_Model_isByte s_Model_string s_Model_isDigit s_Model_isBegin) k_Model_token J K (n + 1) 24 L S M = ai_iret (am_run (c_Model_token s_Model_skip s_Model_peek s_Model_isByte s_Model_string s_Model_isDigit s_Model_isBegin) k_Model_token J K n) K 24 L S M := by rfl
set_option maxRecDepth 20000 in
theorem r_Model_token_25 {s_Model_skip : aS} {s_Model_peek : aS} {s_Model_isByte : aS} {s_Model_string : aS} {s_Model_isDigit : aS} {s_Model_isBegin : aS} {J : aJ} {K : aR} {n : Nat} {L : aL} {S : List Value} {M : aM} : am_run (c_Model_token s_Model_skip s_Model_peek s_Model_isByte s_Model_string s_Model_isDigit s_Model_isBegin) k_Model_token J K (n + 1) 25 L S M = ai_iload 1 26 (am_run (c_Model_token s_Model_skip s_Model_peek s_Model_isByte s_Model_string s_Model_isDigit s_Model_isBegin) k_Model_token J K n) K 25 L S M := by rfl
set_option maxRecDepth 20000 in
theorem r_Model_token_26 {s_Model_skip : aS} {s_Model_peek : aS} {s_Model_isByte : aS} {s_Model_string : aS} {s_Model_isDigit : aS} {s_Model_isBegin : aS} {J : aJ} {K : aR} {n : Nat} {L : aL} {S : List Value} {M : aM} : am_run (c_Model_token s_Model_skip s_Model_peek s_Model_isByte s_Model_string s_Model_isDigit s_Model_isBegin) k_Model_token J K (n + 1) 26 L S M = ai_const 40 28 (am_run (c_Model_token s_Model_skip s_Model_peek s_Model_isByte s_Model_string s_Model_isDigit s_Model_isBegin) k_Model_token J K n) K 26 L S M := by rfl
set_option maxRecDepth 20000 in
theorem r_Model_token_28 {s_Model_skip : aS} {s_Model_peek : aS} {s_Model_isByte : aS} {s_Model_string : aS} {s_Model_isDigit : aS} {s_Model_isBegin : aS} {J : aJ} {K : aR} {n : Nat} {L : aL} {S : List Value} {M : aM} : am_run (c_Model_token s_Model_skip s_Model_peek s_Model_isByte s_Model_string s_Model_isDigit s_Model_isBegin) k_Model_token J K (n + 1) 28 L S M = ai_cmpeq 43 31 (am_run (c_Model_token s_Model_skip s_Model_peek s_Model_isByte s_Model_string s_Model_isDigit s_Model_isBegin) k_Model_token J K n) K 28 L S M := by rfl
set_option maxRecDepth 20000 in
theorem r_Model_token_31 {s_Model_skip : aS} {s_Model_peek : aS} {s_Model_isByte : aS} {s_Model_string : aS} {s_Model_isDigit : aS} {s_Model_isBegin : aS} {J : aJ} {K : aR} {n : Nat} {L : aL} {S : List Value} {M : aM} : am_run (c_Model_token s_Model_skip s_Model_peek s_Model_isByte s_Model_string s_Model_isDigit s_Model_isBegin) k_Model_token J K (n + 1) 31 L S M = ai_iload 1 32 (am_run (c_Model_token s_Model_skip s_Model_peek s_Model_isByte s_Model_string s_Model_isDigit s_Model_isBegin) k_Model_token J K n) K 31 L S M := by rfl
set_option maxRecDepth 20000 in
theorem r_Model_token_32 {s_Model_skip : aS} {s_Model_peek : aS} {s_Model_isByte : aS} {s_Model_string : aS} {s_Model_isDigit : aS} {s_Model_isBegin : aS} {J : aJ} {K : aR} {n : Nat} {L : aL} {S : List Value} {M : aM} : am_run (c_Model_token s_Model_skip s_Model_peek s_Model_isByte s_Model_string s_Model_isDigit s_Model_isBegin) k_Model_token J K (n + 1) 32 L S M = ai_const 41 34 (am_run (c_Model_token s_Model_skip s_Model_peek s_Model_isByte s_Model_string s_Model_isDigit s_Model_isBegin) k_Model_token J K n) K 32 L S M := by rfl
set_option maxRecDepth 20000 in
theorem r_Model_token_34 {s_Model_skip : aS} {s_Model_peek : aS} {s_Model_isByte : aS} {s_Model_string : aS} {s_Model_isDigit : aS} {s_Model_isBegin : aS} {J : aJ} {K : aR} {n : Nat} {L : aL} {S : List Value} {M : aM} : am_run (c_Model_token s_Model_skip s_Model_peek s_Model_isByte s_Model_string s_Model_isDigit s_Model_isBegin) k_Model_token J K (n + 1) 34 L S M = ai_cmpeq 43 37 (am_run (c_Model_token s_Model_skip s_Model_peek s_Model_isByte s_Model_string s_Model_isDigit s_Model_isBegin) k_Model_token J K n) K 34 L S M := by rfl
set_option maxRecDepth 20000 in
theorem r_Model_token_37 {s_Model_skip : aS} {s_Model_peek : aS} {s_Model_isByte : aS} {s_Model_string : aS} {s_Model_isDigit : aS} {s_Model_isBegin : aS} {J : aJ} {K : aR} {n : Nat} {L : aL} {S : List Value} {M : aM} : am_run (c_Model_token s_Model_skip s_Model_peek s_Model_isByte s_Model_string s_Model_isDigit s_Model_isBegin) k_Model_token J K (n + 1) 37 L S M = ai_iload 1 38 (am_run (c_Model_token s_Model_skip s_Model_peek s_Model_isByte s_Model_string s_Model_isDigit s_Model_isBegin) k_Model_token J K n) K 37 L S M := by rfl
set_option maxRecDepth 20000 in
theorem r_Model_token_38 {s_Model_skip : aS} {s_Model_peek : aS} {s_Model_isByte : aS} {s_Model_string : aS} {s_Model_isDigit : aS} {s_Model_isBegin : aS} {J : aJ} {K : aR} {n : Nat} {L : aL} {S : List Value} {M : aM} : am_run (c_Model_token s_Model_skip s_Model_peek s_Model_isByte s_Model_string s_Model_isDigit s_Model_isBegin) k_Model_token J K (n + 1) 38 L S M = ai_const 39 40 (am_run (c_Model_token s_Model_skip s_Model_peek s_Model_isByte s_Model_string s_Model_isDigit s_Model_isBegin) k_Model_token J K n) K 38 L S M := by rfl
set_option maxRecDepth 20000 in
theorem r_Model_token_40 {s_Model_skip : aS} {s_Model_peek : aS} {s_Model_isByte : aS} {s_Model_string : aS} {s_Model_isDigit : aS} {s_Model_isBegin : aS} {J : aJ} {K : aR} {n : Nat} {L : aL} {S : List Value} {M : aM} : am_run (c_Model_token s_Model_skip s_Model_peek s_Model_isByte s_Model_string s_Model_isDigit s_Model_isBegin) k_Model_token J K (n + 1) 40 L S M = ai_cmpne 78 43 (am_run (c_Model_token s_Model_skip s_Model_peek s_Model_isByte s_Model_string s_Model_isDigit s_Model_isBegin) k_Model_token J K n) K 40 L S M := by rfl
set_option maxRecDepth 20000 in
theorem r_Model_token_43 {s_Model_skip : aS} {s_Model_peek : aS} {s_Model_isByte : aS} {s_Model_string : aS} {s_Model_isDigit : aS} {s_Model_isBegin : aS} {J : aJ} {K : aR} {n : Nat} {L : aL} {S : List Value} {M : aM} : am_run (c_Model_token s_Model_skip s_Model_peek s_Model_isByte s_Model_string s_Model_isDigit s_Model_isBegin) k_Model_token J K (n + 1) 43 L S M = ai_aload 0 44 (am_run (c_Model_token s_Model_skip s_Model_peek s_Model_isByte s_Model_string s_Model_isDigit s_Model_isBegin) k_Model_token J K n) K 43 L S M := by rfl
set_option maxRecDepth 20000 in
theorem r_Model_token_44 {s_Model_skip : aS} {s_Model_peek : aS} {s_Model_isByte : aS} {s_Model_string : aS} {s_Model_isDigit : aS} {s_Model_isBegin : aS} {J : aJ} {K : aR} {n : Nat} {L : aL} {S : List Value} {M : aM} : am_run (c_Model_token s_Model_skip s_Model_peek s_Model_isByte s_Model_string s_Model_isDigit s_Model_isBegin) k_Model_token J K (n + 1) 44 L S M = ai_aload 0 45 (am_run (c_Model_token s_Model_skip s_Model_peek s_Model_isByte s_Model_string s_Model_isDigit s_Model_isBegin) k_Model_token J K n) K 44 L S M := by rfl
set_option maxRecDepth 20000 in
theorem r_Model_token_45 {s_Model_skip : aS} {s_Model_peek : aS} {s_Model_isByte : aS} {s_Model_string : aS} {s_Model_isDigit : aS} {s_Model_isBegin : aS} {J : aJ} {K : aR} {n : Nat} {L : aL} {S : List Value} {M : aM} : am_run (c_Model_token s_Model_skip s_Model_peek s_Model_isByte s_Model_string s_Model_isDigit s_Model_isBegin) k_Model_token J K (n + 1) 45 L S M = ai_getf 7 2 48 (am_run (c_Model_token s_Model_skip s_Model_peek s_Model_isByte s_Model_string s_Model_isDigit s_Model_isBegin) k_Model_token J K n) K 45 L S M := by rfl
set_option maxRecDepth 20000 in
theorem r_Model_token_48 {s_Model_skip : aS} {s_Model_peek : aS} {s_Model_isByte : aS} {s_Model_string : aS} {s_Model_isDigit : aS} {s_Model_isBegin : aS} {J : aJ} {K : aR} {n : Nat} {L : aL} {S : List Value} {M : aM} : am_run (c_Model_token s_Model_skip s_Model_peek s_Model_isByte s_Model_string s_Model_isDigit s_Model_isBegin) k_Model_token J K (n + 1) 48 L S M = ai_const 1 49 (am_run (c_Model_token s_Model_skip s_Model_peek s_Model_isByte s_Model_string s_Model_isDigit s_Model_isBegin) k_Model_token J K n) K 48 L S M := by rfl
set_option maxRecDepth 20000 in
theorem r_Model_token_49 {s_Model_skip : aS} {s_Model_peek : aS} {s_Model_isByte : aS} {s_Model_string : aS} {s_Model_isDigit : aS} {s_Model_isBegin : aS} {J : aJ} {K : aR} {n : Nat} {L : aL} {S : List Value} {M : aM} : am_run (c_Model_token s_Model_skip s_Model_peek s_Model_isByte s_Model_string s_Model_isDigit s_Model_isBegin) k_Model_token J K (n + 1) 49 L S M = ai_iadd 50 (am_run (c_Model_token s_Model_skip s_Model_peek s_Model_isByte s_Model_string s_Model_isDigit s_Model_isBegin) k_Model_token J K n) K 49 L S M := by rfl
set_option maxRecDepth 20000 in
theorem r_Model_token_50 {s_Model_skip : aS} {s_Model_peek : aS} {s_Model_isByte : aS} {s_Model_string : aS} {s_Model_isDigit : aS} {s_Model_isBegin : aS} {J : aJ} {K : aR} {n : Nat} {L : aL} {S : List Value} {M : aM} : am_run (c_Model_token s_Model_skip s_Model_peek s_Model_isByte s_Model_string s_Model_isDigit s_Model_isBegin) k_Model_token J K (n + 1) 50 L S M = ai_putf 7 2 53 (am_run (c_Model_token s_Model_skip s_Model_peek s_Model_isByte s_Model_string s_Model_isDigit s_Model_isBegin) k_Model_token J K n) K 50 L S M := by rfl
set_option maxRecDepth 20000 in
theorem r_Model_token_53 {s_Model_skip : aS} {s_Model_peek : aS} {s_Model_isByte : aS} {s_Model_string : aS} {s_Model_isDigit : aS} {s_Model_isBegin : aS} {J : aJ} {K : aR} {n : Nat} {L : aL} {S : List Value} {M : aM} : am_run (c_Model_token s_Model_skip s_Model_peek s_Model_isByte s_Model_string s_Model_isDigit s_Model_isBegin) k_Model_token J K (n + 1) 53 L S M = ai_iload 1 54 (am_run (c_Model_token s_Model_skip s_Model_peek s_Model_isByte s_Model_string s_Model_isDigit s_Model_isBegin) k_Model_token J K n) K 53 L S M := by rfl
set_option maxRecDepth 20000 in
theorem r_Model_token_54 {s_Model_skip : aS} {s_Model_peek : aS} {s_Model_isByte : aS} {s_Model_string : aS} {s_Model_isDigit : aS} {s_Model_isBegin : aS} {J : aJ} {K : aR} {n : Nat} {L : aL} {S : List Value} {M : aM} : am_run (c_Model_token s_Model_skip s_Model_peek s_Model_isByte s_Model_string s_Model_isDigit s_Model_isBegin) k_Model_token J K (n + 1) 54 L S M = ai_const 40 56 (am_run (c_Model_token s_Model_skip s_Model_peek s_Model_isByte s_Model_string s_Model_isDigit s_Model_isBegin) k_Model_token J K n) K 54 L S M := by rfl
set_option maxRecDepth 20000 in
theorem r_Model_token_56 {s_Model_skip : aS} {s_Model_peek : aS} {s_Model_isByte : aS} {s_Model_string : aS} {s_Model_isDigit : aS} {s_Model_isBegin : aS} {J : aJ} {K : aR} {n : Nat} {L : aL} {S : List Value} {M : aM} : am_run (c_Model_token s_Model_skip s_Model_peek s_Model_isByte s_Model_string s_Model_isDigit s_Model_isBegin) k_Model_token J K (n + 1) 56 L S M = ai_cmpne 64 59 (am_run (c_Model_token s_Model_skip s_Model_peek s_Model_isByte s_Model_string s_Model_isDigit s_Model_isBegin) k_Model_token J K n) K 56 L S M := by rfl
set_option maxRecDepth 20000 in
theorem r_Model_token_59 {s_Model_skip : aS} {s_Model_peek : aS} {s_Model_isByte : aS} {s_Model_string : aS} {s_Model_isDigit : aS} {s_Model_isBegin : aS} {J : aJ} {K : aR} {n : Nat} {L : aL} {S : List Value} {M : aM} : am_run (c_Model_token s_Model_skip s_Model_peek s_Model_isByte s_Model_string s_Model_isDigit s_Model_isBegin) k_Model_token J K (n + 1) 59 L S M = ai_const 12 61 (am_run (c_Model_token s_Model_skip s_Model_peek s_Model_isByte s_Model_string s_Model_isDigit s_Model_isBegin) k_Model_token J K n) K 59 L S M := by rfl
set_option maxRecDepth 20000 in
theorem r_Model_token_61 {s_Model_skip : aS} {s_Model_peek : aS} {s_Model_isByte : aS} {s_Model_string : aS} {s_Model_isDigit : aS} {s_Model_isBegin : aS} {J : aJ} {K : aR} {n : Nat} {L : aL} {S : List Value} {M : aM} : am_run (c_Model_token s_Model_skip s_Model_peek s_Model_isByte s_Model_string s_Model_isDigit s_Model_isBegin) k_Model_token J K (n + 1) 61 L S M = ai_goto 77 (am_run (c_Model_token s_Model_skip s_Model_peek s_Model_isByte s_Model_string s_Model_isDigit s_Model_isBegin) k_Model_token J K n) K 61 L S M := by rfl
set_option maxRecDepth 20000 in
theorem r_Model_token_64 {s_Model_skip : aS} {s_Model_peek : aS} {s_Model_isByte : aS} {s_Model_string : aS} {s_Model_isDigit : aS} {s_Model_isBegin : aS} {J : aJ} {K : aR} {n : Nat} {L : aL} {S : List Value} {M : aM} : am_run (c_Model_token s_Model_skip s_Model_peek s_Model_isByte s_Model_string s_Model_isDigit s_Model_isBegin) k_Model_token J K (n + 1) 64 L S M = ai_iload 1 65 (am_run (c_Model_token s_Model_skip s_Model_peek s_Model_isByte s_Model_string s_Model_isDigit s_Model_isBegin) k_Model_token J K n) K 64 L S M := by rfl
set_option maxRecDepth 20000 in
theorem r_Model_token_65 {s_Model_skip : aS} {s_Model_peek : aS} {s_Model_isByte : aS} {s_Model_string : aS} {s_Model_isDigit : aS} {s_Model_isBegin : aS} {J : aJ} {K : aR} {n : Nat} {L : aL} {S : List Value} {M : aM} : am_run (c_Model_token s_Model_skip s_Model_peek s_Model_isByte s_Model_string s_Model_isDigit s_Model_isBegin) k_Model_token J K (n + 1) 65 L S M = ai_const 41 67 (am_run (c_Model_token s_Model_skip s_Model_peek s_Model_isByte s_Model_string s_Model_isDigit s_Model_isBegin) k_Model_token J K n) K 65 L S M := by rfl
set_option maxRecDepth 20000 in
theorem r_Model_token_67 {s_Model_skip : aS} {s_Model_peek : aS} {s_Model_isByte : aS} {s_Model_string : aS} {s_Model_isDigit : aS} {s_Model_isBegin : aS} {J : aJ} {K : aR} {n : Nat} {L : aL} {S : List Value} {M : aM} : am_run (c_Model_token s_Model_skip s_Model_peek s_Model_isByte s_Model_string s_Model_isDigit s_Model_isBegin) k_Model_token J K (n + 1) 67 L S M = ai_cmpne 75 70 (am_run (c_Model_token s_Model_skip s_Model_peek s_Model_isByte s_Model_string s_Model_isDigit s_Model_isBegin) k_Model_token J K n) K 67 L S M := by rfl
set_option maxRecDepth 20000 in
theorem r_Model_token_70 {s_Model_skip : aS} {s_Model_peek : aS} {s_Model_isByte : aS} {s_Model_string : aS} {s_Model_isDigit : aS} {s_Model_isBegin : aS} {J : aJ} {K : aR} {n : Nat} {L : aL} {S : List Value} {M : aM} : am_run (c_Model_token s_Model_skip s_Model_peek s_Model_isByte s_Model_string s_Model_isDigit s_Model_isBegin) k_Model_token J K (n + 1) 70 L S M = ai_const 13 72 (am_run (c_Model_token s_Model_skip s_Model_peek s_Model_isByte s_Model_string s_Model_isDigit s_Model_isBegin) k_Model_token J K n) K 70 L S M := by rfl
set_option maxRecDepth 20000 in
theorem r_Model_token_72 {s_Model_skip : aS} {s_Model_peek : aS} {s_Model_isByte : aS} {s_Model_string : aS} {s_Model_isDigit : aS} {s_Model_isBegin : aS} {J : aJ} {K : aR} {n : Nat} {L : aL} {S : List Value} {M : aM} : am_run (c_Model_token s_Model_skip s_Model_peek s_Model_isByte s_Model_string s_Model_isDigit s_Model_isBegin) k_Model_token J K (n + 1) 72 L S M = ai_goto 77 (am_run (c_Model_token s_Model_skip s_Model_peek s_Model_isByte s_Model_string s_Model_isDigit s_Model_isBegin) k_Model_token J K n) K 72 L S M := by rfl
set_option maxRecDepth 20000 in
theorem r_Model_token_75 {s_Model_skip : aS} {s_Model_peek : aS} {s_Model_isByte : aS} {s_Model_string : aS} {s_Model_isDigit : aS} {s_Model_isBegin : aS} {J : aJ} {K : aR} {n : Nat} {L : aL} {S : List Value} {M : aM} : am_run (c_Model_token s_Model_skip s_Model_peek s_Model_isByte s_Model_string s_Model_isDigit s_Model_isBegin) k_Model_token J K (n + 1) 75 L S M = ai_const 14 77 (am_run (c_Model_token s_Model_skip s_Model_peek s_Model_isByte s_Model_string s_Model_isDigit s_Model_isBegin) k_Model_token J K n) K 75 L S M := by rfl
set_option maxRecDepth 20000 in
theorem r_Model_token_77 {s_Model_skip : aS} {s_Model_peek : aS} {s_Model_isByte : aS} {s_Model_string : aS} {s_Model_isDigit : aS} {s_Model_isBegin : aS} {J : aJ} {K : aR} {n : Nat} {L : aL} {S : List Value} {M : aM} : am_run (c_Model_token s_Model_skip s_Model_peek s_Model_isByte s_Model_string s_Model_isDigit s_Model_isBegin) k_Model_token J K (n + 1) 77 L S M = ai_iret (am_run (c_Model_token s_Model_skip s_Model_peek s_Model_isByte s_Model_string s_Model_isDigit s_Model_isBegin) k_Model_token J K n) K 77 L S M := by rfl
set_option maxRecDepth 20000 in
theorem r_Model_token_78 {s_Model_skip : aS} {s_Model_peek : aS} {s_Model_isByte : aS} {s_Model_string : aS} {s_Model_isDigit : aS} {s_Model_isBegin : aS} {J : aJ} {K : aR} {n : Nat} {L : aL} {S : List Value} {M : aM} : am_run (c_Model_token s_Model_skip s_Model_peek s_Model_isByte s_Model_string s_Model_isDigit s_Model_isBegin) k_Model_token J K (n + 1) 78 L S M = ai_iload 1 79 (am_run (c_Model_token s_Model_skip s_Model_peek s_Model_isByte s_Model_string s_Model_isDigit s_Model_isBegin) k_Model_token J K n) K 78 L S M := by rfl
set_option maxRecDepth 20000 in
theorem r_Model_token_79 {s_Model_skip : aS} {s_Model_peek : aS} {s_Model_isByte : aS} {s_Model_string : aS} {s_Model_isDigit : aS} {s_Model_isBegin : aS} {J : aJ} {K : aR} {n : Nat} {L : aL} {S : List Value} {M : aM} : am_run (c_Model_token s_Model_skip s_Model_peek s_Model_isByte s_Model_string s_Model_isDigit s_Model_isBegin) k_Model_token J K (n + 1) 79 L S M = ai_const 46 81 (am_run (c_Model_token s_Model_skip s_Model_peek s_Model_isByte s_Model_string s_Model_isDigit s_Model_isBegin) k_Model_token J K n) K 79 L S M := by rfl
set_option maxRecDepth 20000 in
theorem r_Model_token_81 {s_Model_skip : aS} {s_Model_peek : aS} {s_Model_isByte : aS} {s_Model_string : aS} {s_Model_isDigit : aS} {s_Model_isBegin : aS} {J : aJ} {K : aR} {n : Nat} {L : aL} {S : List Value} {M : aM} : am_run (c_Model_token s_Model_skip s_Model_peek s_Model_isByte s_Model_string s_Model_isDigit s_Model_isBegin) k_Model_token J K (n + 1) 81 L S M = ai_cmpne 134 84 (am_run (c_Model_token s_Model_skip s_Model_peek s_Model_isByte s_Model_string s_Model_isDigit s_Model_isBegin) k_Model_token J K n) K 81 L S M := by rfl
set_option maxRecDepth 20000 in
theorem r_Model_token_84 {s_Model_skip : aS} {s_Model_peek : aS} {s_Model_isByte : aS} {s_Model_string : aS} {s_Model_isDigit : aS} {s_Model_isBegin : aS} {J : aJ} {K : aR} {n : Nat} {L : aL} {S : List Value} {M : aM} : am_run (c_Model_token s_Model_skip s_Model_peek s_Model_isByte s_Model_string s_Model_isDigit s_Model_isBegin) k_Model_token J K (n + 1) 84 L S M = ai_aload 0 85 (am_run (c_Model_token s_Model_skip s_Model_peek s_Model_isByte s_Model_string s_Model_isDigit s_Model_isBegin) k_Model_token J K n) K 84 L S M := by rfl
set_option maxRecDepth 20000 in
theorem r_Model_token_85 {s_Model_skip : aS} {s_Model_peek : aS} {s_Model_isByte : aS} {s_Model_string : aS} {s_Model_isDigit : aS} {s_Model_isBegin : aS} {J : aJ} {K : aR} {n : Nat} {L : aL} {S : List Value} {M : aM} : am_run (c_Model_token s_Model_skip s_Model_peek s_Model_isByte s_Model_string s_Model_isDigit s_Model_isBegin) k_Model_token J K (n + 1) 85 L S M = ai_const (-1) 86 (am_run (c_Model_token s_Model_skip s_Model_peek s_Model_isByte s_Model_string s_Model_isDigit s_Model_isBegin) k_Model_token J K n) K 85 L S M := by rfl
set_option maxRecDepth 20000 in
theorem r_Model_token_86 {s_Model_skip : aS} {s_Model_peek : aS} {s_Model_isByte : aS} {s_Model_string : aS} {s_Model_isDigit : aS} {s_Model_isBegin : aS} {J : aJ} {K : aR} {n : Nat} {L : aL} {S : List Value} {M : aM} : am_run (c_Model_token s_Model_skip s_Model_peek s_Model_isByte s_Model_string s_Model_isDigit s_Model_isBegin) k_Model_token J K (n + 1) 86 L S M = ai_callv2 7 s_Model_peek 89 (am_run (c_Model_token s_Model_skip s_Model_peek s_Model_isByte s_Model_string s_Model_isDigit s_Model_isBegin) k_Model_token J K n) K 86 L S M := by rfl
set_option maxRecDepth 20000 in
theorem r_Model_token_89 {s_Model_skip : aS} {s_Model_peek : aS} {s_Model_isByte : aS} {s_Model_string : aS} {s_Model_isDigit : aS} {s_Model_isBegin : aS} {J : aJ} {K : aR} {n : Nat} {L : aL} {S : List Value} {M : aM} : am_run (c_Model_token s_Model_skip s_Model_peek s_Model_isByte s_Model_string s_Model_isDigit s_Model_isBegin) k_Model_token J K (n + 1) 89 L S M = ai_calls1 s_Model_isByte 92 (am_run (c_Model_token s_Model_skip s_Model_peek s_Model_isByte s_Model_string s_Model_isDigit s_Model_isBegin) k_Model_token J K n) K 89 L S M := by rfl
set_option maxRecDepth 20000 in
theorem r_Model_token_92 {s_Model_skip : aS} {s_Model_peek : aS} {s_Model_isByte : aS} {s_Model_string : aS} {s_Model_isDigit : aS} {s_Model_isBegin : aS} {J : aJ} {K : aR} {n : Nat} {L : aL} {S : List Value} {M : aM} : am_run (c_Model_token s_Model_skip s_Model_peek s_Model_isByte s_Model_string s_Model_isDigit s_Model_isBegin) k_Model_token J K (n + 1) 92 L S M = ai_ifne 110 95 (am_run (c_Model_token s_Model_skip s_Model_peek s_Model_isByte s_Model_string s_Model_isDigit s_Model_isBegin) k_Model_token J K n) K 92 L S M := by rfl
set_option maxRecDepth 20000 in
theorem r_Model_token_95 {s_Model_skip : aS} {s_Model_peek : aS} {s_Model_isByte : aS} {s_Model_string : aS} {s_Model_isDigit : aS} {s_Model_isBegin : aS} {J : aJ} {K : aR} {n : Nat} {L : aL} {S : List Value} {M : aM} : am_run (c_Model_token s_Model_skip s_Model_peek s_Model_isByte s_Model_string s_Model_isDigit s_Model_isBegin) k_Model_token J K (n + 1) 95 L S M = ai_aload 0 96 (am_run (c_Model_token s_Model_skip s_Model_peek s_Model_isByte s_Model_string s_Model_isDigit s_Model_isBegin) k_Model_token J K n) K 95 L S M := by rfl
set_option maxRecDepth 20000 in
theorem r_Model_token_96 {s_Model_skip : aS} {s_Model_peek : aS} {s_Model_isByte : aS} {s_Model_string : aS} {s_Model_isDigit : aS} {s_Model_isBegin : aS} {J : aJ} {K : aR} {n : Nat} {L : aL} {S : List Value} {M : aM} : am_run (c_Model_token s_Model_skip s_Model_peek s_Model_isByte s_Model_string s_Model_isDigit s_Model_isBegin) k_Model_token J K (n + 1) 96 L S M = ai_const 1 97 (am_run (c_Model_token s_Model_skip s_Model_peek s_Model_isByte s_Model_string s_Model_isDigit s_Model_isBegin) k_Model_token J K n) K 96 L S M := by rfl
set_option maxRecDepth 20000 in
theorem r_Model_token_97 {s_Model_skip : aS} {s_Model_peek : aS} {s_Model_isByte : aS} {s_Model_string : aS} {s_Model_isDigit : aS} {s_Model_isBegin : aS} {J : aJ} {K : aR} {n : Nat} {L : aL} {S : List Value} {M : aM} : am_run (c_Model_token s_Model_skip s_Model_peek s_Model_isByte s_Model_string s_Model_isDigit s_Model_isBegin) k_Model_token J K (n + 1) 97 L S M = ai_callv2 7 s_Model_peek 100 (am_run (c_Model_token s_Model_skip s_Model_peek s_Model_isByte s_Model_string s_Model_isDigit s_Model_isBegin) k_Model_token J K n) K 97 L S M := by rfl
set_option maxRecDepth 20000 in
theorem r_Model_token_100 {s_Model_skip : aS} {s_Model_peek : aS} {s_Model_isByte : aS} {s_Model_string : aS} {s_Model_isDigit : aS} {s_Model_isBegin : aS} {J : aJ} {K : aR} {n : Nat} {L : aL} {S : List Value} {M : aM} : am_run (c_Model_token s_Model_skip s_Model_peek s_Model_isByte s_Model_string s_Model_isDigit s_Model_isBegin) k_Model_token J K (n + 1) 100 L S M = ai_calls1 s_Model_isByte 103 (am_run (c_Model_token s_Model_skip s_Model_peek s_Model_isByte s_Model_string s_Model_isDigit s_Model_isBegin) k_Model_token J K n) K 100 L S M := by rfl
set_option maxRecDepth 20000 in
theorem r_Model_token_103 {s_Model_skip : aS} {s_Model_peek : aS} {s_Model_isByte : aS} {s_Model_string : aS} {s_Model_isDigit : aS} {s_Model_isBegin : aS} {J : aJ} {K : aR} {n : Nat} {L : aL} {S : List Value} {M : aM} : am_run (c_Model_token s_Model_skip s_Model_peek s_Model_isByte s_Model_string s_Model_isDigit s_Model_isBegin) k_Model_token J K (n + 1) 103 L S M = ai_ifne 110 106 (am_run (c_Model_token s_Model_skip s_Model_peek s_Model_isByte s_Model_string s_Model_isDigit s_Model_isBegin) k_Model_token J K n) K 103 L S M := by rfl
set_option maxRecDepth 20000 in
theorem r_Model_token_106 {s_Model_skip : aS} {s_Model_peek : aS} {s_Model_isByte : aS} {s_Model_string : aS} {s_Model_isDigit : aS} {s_Model_isBegin : aS} {J : aJ} {K : aR} {n : Nat} {L : aL} {S : List Value} {M : aM} : am_run (c_Model_token s_Model_skip s_Model_peek s_Model_isByte s_Model_string s_Model_isDigit s_Model_isBegin) k_Model_token J K (n + 1) 106 L S M = ai_const 1 107 (am_run (c_Model_token s_Model_skip s_Model_peek s_Model_isByte s_Model_string s_Model_isDigit s_Model_isBegin) k_Model_token J K n) K 106 L S M := by rfl
set_option maxRecDepth 20000 in
theorem r_Model_token_107 {s_Model_skip : aS} {s_Model_peek : aS} {s_Model_isByte : aS} {s_Model_string : aS} {s_Model_isDigit : aS} {s_Model_isBegin : aS} {J : aJ} {K : aR} {n : Nat} {L : aL} {S : List Value} {M : aM} : am_run (c_Model_token s_Model_skip s_Model_peek s_Model_isByte s_Model_string s_Model_isDigit s_Model_isBegin) k_Model_token J K (n + 1) 107 L S M = ai_goto 111 (am_run (c_Model_token s_Model_skip s_Model_peek s_Model_isByte s_Model_string s_Model_isDigit s_Model_isBegin) k_Model_token J K n) K 107 L S M := by rfl
set_option maxRecDepth 20000 in
theorem r_Model_token_110 {s_Model_skip : aS} {s_Model_peek : aS} {s_Model_isByte : aS} {s_Model_string : aS} {s_Model_isDigit : aS} {s_Model_isBegin : aS} {J : aJ} {K : aR} {n : Nat} {L : aL} {S : List Value} {M : aM} : am_run (c_Model_token s_Model_skip s_Model_peek s_Model_isByte s_Model_string s_Model_isDigit s_Model_isBegin) k_Model_token J K (n + 1) 110 L S M = ai_const 0 111 (am_run (c_Model_token s_Model_skip s_Model_peek s_Model_isByte s_Model_string s_Model_isDigit s_Model_isBegin) k_Model_token J K n) K 110 L S M := by rfl
set_option maxRecDepth 20000 in
theorem r_Model_token_111 {s_Model_skip : aS} {s_Model_peek : aS} {s_Model_isByte : aS} {s_Model_string : aS} {s_Model_isDigit : aS} {s_Model_isBegin : aS} {J : aJ} {K : aR} {n : Nat} {L : aL} {S : List Value} {M : aM} : am_run (c_Model_token s_Model_skip s_Model_peek s_Model_isByte s_Model_string s_Model_isDigit s_Model_isBegin) k_Model_token J K (n + 1) 111 L S M = ai_istore 2 112 (am_run (c_Model_token s_Model_skip s_Model_peek s_Model_isByte s_Model_string s_Model_isDigit s_Model_isBegin) k_Model_token J K n) K 111 L S M := by rfl
set_option maxRecDepth 20000 in
theorem r_Model_token_112 {s_Model_skip : aS} {s_Model_peek : aS} {s_Model_isByte : aS} {s_Model_string : aS} {s_Model_isDigit : aS} {s_Model_isBegin : aS} {J : aJ} {K : aR} {n : Nat} {L : aL} {S : List Value} {M : aM} : am_run (c_Model_token s_Model_skip s_Model_peek s_Model_isByte s_Model_string s_Model_isDigit s_Model_isBegin) k_Model_token J K (n + 1) 112 L S M = ai_aload 0 113 (am_run (c_Model_token s_Model_skip s_Model_peek s_Model_isByte s_Model_string s_Model_isDigit s_Model_isBegin) k_Model_token J K n) K 112 L S M := by rfl
set_option maxRecDepth 20000 in
theorem r_Model_token_113 {s_Model_skip : aS} {s_Model_peek : aS} {s_Model_isByte : aS} {s_Model_string : aS} {s_Model_isDigit : aS} {s_Model_isBegin : aS} {J : aJ} {K : aR} {n : Nat} {L : aL} {S : List Value} {M : aM} : am_run (c_Model_token s_Model_skip s_Model_peek s_Model_isByte s_Model_string s_Model_isDigit s_Model_isBegin) k_Model_token J K (n + 1) 113 L S M = ai_aload 0 114 (am_run (c_Model_token s_Model_skip s_Model_peek s_Model_isByte s_Model_string s_Model_isDigit s_Model_isBegin) k_Model_token J K n) K 113 L S M := by rfl
set_option maxRecDepth 20000 in
theorem r_Model_token_114 {s_Model_skip : aS} {s_Model_peek : aS} {s_Model_isByte : aS} {s_Model_string : aS} {s_Model_isDigit : aS} {s_Model_isBegin : aS} {J : aJ} {K : aR} {n : Nat} {L : aL} {S : List Value} {M : aM} : am_run (c_Model_token s_Model_skip s_Model_peek s_Model_isByte s_Model_string s_Model_isDigit s_Model_isBegin) k_Model_token J K (n + 1) 114 L S M = ai_getf 7 2 117 (am_run (c_Model_token s_Model_skip s_Model_peek s_Model_isByte s_Model_string s_Model_isDigit s_Model_isBegin) k_Model_token J K n) K 114 L S M := by rfl
set_option maxRecDepth 20000 in
theorem r_Model_token_117 {s_Model_skip : aS} {s_Model_peek : aS} {s_Model_isByte : aS} {s_Model_string : aS} {s_Model_isDigit : aS} {s_Model_isBegin : aS} {J : aJ} {K : aR} {n : Nat} {L : aL} {S : List Value} {M : aM} : am_run (c_Model_token s_Model_skip s_Model_peek s_Model_isByte s_Model_string s_Model_isDigit s_Model_isBegin) k_Model_token J K (n + 1) 117 L S M = ai_const 1 118 (am_run (c_Model_token s_Model_skip s_Model_peek s_Model_isByte s_Model_string s_Model_isDigit s_Model_isBegin) k_Model_token J K n) K 117 L S M := by rfl
set_option maxRecDepth 20000 in
theorem r_Model_token_118 {s_Model_skip : aS} {s_Model_peek : aS} {s_Model_isByte : aS} {s_Model_string : aS} {s_Model_isDigit : aS} {s_Model_isBegin : aS} {J : aJ} {K : aR} {n : Nat} {L : aL} {S : List Value} {M : aM} : am_run (c_Model_token s_Model_skip s_Model_peek s_Model_isByte s_Model_string s_Model_isDigit s_Model_isBegin) k_Model_token J K (n + 1) 118 L S M = ai_iadd 119 (am_run (c_Model_token s_Model_skip s_Model_peek s_Model_isByte s_Model_string s_Model_isDigit s_Model_isBegin) k_Model_token J K n) K 118 L S M := by rfl
set_option maxRecDepth 20000 in
theorem r_Model_token_119 {s_Model_skip : aS} {s_Model_peek : aS} {s_Model_isByte : aS} {s_Model_string : aS} {s_Model_isDigit : aS} {s_Model_isBegin : aS} {J : aJ} {K : aR} {n : Nat} {L : aL} {S : List Value} {M : aM} : am_run (c_Model_token s_Model_skip s_Model_peek s_Model_isByte s_Model_string s_Model_isDigit s_Model_isBegin) k_Model_token J K (n + 1) 119 L S M = ai_putf 7 2 122 (am_run (c_Model_token s_Model_skip s_Model_peek s_Model_isByte s_Model_string s_Model_isDigit s_Model_isBegin) k_Model_token J K n) K 119 L S M := by rfl
set_option maxRecDepth 20000 in
theorem r_Model_token_122 {s_Model_skip : aS} {s_Model_peek : aS} {s_Model_isByte : aS} {s_Model_string : aS} {s_Model_isDigit : aS} {s_Model_isBegin : aS} {J : aJ} {K : aR} {n : Nat} {L : aL} {S : List Value} {M : aM} : am_run (c_Model_token s_Model_skip s_Model_peek s_Model_isByte s_Model_string s_Model_isDigit s_Model_isBegin) k_Model_token J K (n + 1) 122 L S M = ai_iload 2 123 (am_run (c_Model_token s_Model_skip s_Model_peek s_Model_isByte s_Model_string s_Model_isDigit s_Model_isBegin) k_Model_token J K n) K 122 L S M := by rfl
set_option maxRecDepth 20000 in
theorem r_Model_token_123 {s_Model_skip : aS} {s_Model_peek : aS} {s_Model_isByte : aS} {s_Model_string : aS} {s_Model_isDigit : aS} {s_Model_isBegin : aS} {J : aJ} {K : aR} {n : Nat} {L : aL} {S : List Value} {M : aM} : am_run (c_Model_token s_Model_skip s_Model_peek s_Model_isByte s_Model_string s_Model_isDigit s_Model_isBegin) k_Model_token J K (n + 1) 123 L S M = ai_ifeq 131 126 (am_run (c_Model_token s_Model_skip s_Model_peek s_Model_isByte s_Model_string s_Model_isDigit s_Model_isBegin) k_Model_token J K n) K 123 L S M := by rfl
set_option maxRecDepth 20000 in
theorem r_Model_token_126 {s_Model_skip : aS} {s_Model_peek : aS} {s_Model_isByte : aS} {s_Model_string : aS} {s_Model_isDigit : aS} {s_Model_isBegin : aS} {J : aJ} {K : aR} {n : Nat} {L : aL} {S : List Value} {M : aM} : am_run (c_Model_token s_Model_skip s_Model_peek s_Model_isByte s_Model_string s_Model_isDigit s_Model_isBegin) k_Model_token J K (n + 1) 126 L S M = ai_const 15 128 (am_run (c_Model_token s_Model_skip s_Model_peek s_Model_isByte s_Model_string s_Model_isDigit s_Model_isBegin) k_Model_token J K n) K 126 L S M := by rfl
set_option maxRecDepth 20000 in
theorem r_Model_token_128 {s_Model_skip : aS} {s_Model_peek : aS} {s_Model_isByte : aS} {s_Model_string : aS} {s_Model_isDigit : aS} {s_Model_isBegin : aS} {J : aJ} {K : aR} {n : Nat} {L : aL} {S : List Value} {M : aM} : am_run (c_Model_token s_Model_skip s_Model_peek s_Model_isByte s_Model_string s_Model_isDigit s_Model_isBegin) k_Model_token J K (n + 1) 128 L S M = ai_goto 133 (am_run (c_Model_token s_Model_skip s_Model_peek s_Model_isByte s_Model_string s_Model_isDigit s_Model_isBegin) k_Model_token J K n) K 128 L S M := by rfl
set_option maxRecDepth 20000 in
theorem r_Model_token_131 {s_Model_skip : aS} {s_Model_peek : aS} {s_Model_isByte : aS} {s_Model_string : aS} {s_Model_isDigit : aS} {s_Model_isBegin : aS} {J : aJ} {K : aR} {n : Nat} {L : aL} {S : List Value} {M : aM} : am_run (c_Model_token s_Model_skip s_Model_peek s_Model_isByte s_Model_string s_Model_isDigit s_Model_isBegin) k_Model_token J K (n + 1) 131 L S M = ai_const 11 133 (am_run (c_Model_token s_Model_skip s_Model_peek s_Model_isByte s_Model_string s_Model_isDigit s_Model_isBegin) k_Model_token J K n) K 131 L S M := by rfl
set_option maxRecDepth 20000 in
theorem r_Model_token_133 {s_Model_skip : aS} {s_Model_peek : aS} {s_Model_isByte : aS} {s_Model_string : aS} {s_Model_isDigit : aS} {s_Model_isBegin : aS} {J : aJ} {K : aR} {n : Nat} {L : aL} {S : List Value} {M : aM} : am_run (c_Model_token s_Model_skip s_Model_peek s_Model_isByte s_Model_string s_Model_isDigit s_Model_isBegin) k_Model_token J K (n + 1) 133 L S M = ai_iret (am_run (c_Model_token s_Model_skip s_Model_peek s_Model_isByte s_Model_string s_Model_isDigit s_Model_isBegin) k_Model_token J K n) K 133 L S M := by rfl
set_option maxRecDepth 20000 in
theorem r_Model_token_134 {s_Model_skip : aS} {s_Model_peek : aS} {s_Model_isByte : aS} {s_Model_string : aS} {s_Model_isDigit : aS} {s_Model_isBegin : aS} {J : aJ} {K : aR} {n : Nat} {L : aL} {S : List Value} {M : aM} : am_run (c_Model_token s_Model_skip s_Model_peek s_Model_isByte s_Model_string s_Model_isDigit s_Model_isBegin) k_Model_token J K (n + 1) 134 L S M = ai_iload 1 135 (am_run (c_Model_token s_Model_skip s_Model_peek s_Model_isByte s_Model_string s_Model_isDigit s_Model_isBegin) k_Model_token J K n) K 134 L S M := by rfl
set_option maxRecDepth 20000 in
theorem r_Model_token_135 {s_Model_skip : aS} {s_Model_peek : aS} {s_Model_isByte : aS} {s_Model_string : aS} {s_Model_isDigit : aS} {s_Model_isBegin : aS} {J : aJ} {K : aR} {n : Nat} {L : aL} {S : List Value} {M : aM} : am_run (c_Model_token s_Model_skip s_Model_peek s_Model_isByte s_Model_string s_Model_isDigit s_Model_isBegin) k_Model_token J K (n + 1) 135 L S M = ai_const 34 137 (am_run (c_Model_token s_Model_skip s_Model_peek s_Model_isByte s_Model_string s_Model_isDigit s_Model_isBegin) k_Model_token J K n) K 135 L S M := by rfl
set_option maxRecDepth 20000 in
theorem r_Model_token_137 {s_Model_skip : aS} {s_Model_peek : aS} {s_Model_isByte : aS} {s_Model_string : aS} {s_Model_isDigit : aS} {s_Model_isBegin : aS} {J : aJ} {K : aR} {n : Nat} {L : aL} {S : List Value} {M : aM} : am_run (c_Model_token s_Model_skip s_Model_peek s_Model_isByte s_Model_string s_Model_isDigit s_Model_isBegin) k_Model_token J K (n + 1) 137 L S M = ai_cmpne 145 140 (am_run (c_Model_token s_Model_skip s_Model_peek s_Model_isByte s_Model_string s_Model_isDigit s_Model_isBegin) k_Model_token J K n) K 137 L S M := by rfl
set_option maxRecDepth 20000 in
theorem r_Model_token_140 {s_Model_skip : aS} {s_Model_peek : aS} {s_Model_isByte : aS} {s_Model_string : aS} {s_Model_isDigit : aS} {s_Model_isBegin : aS} {J : aJ} {K : aR} {n : Nat} {L : aL} {S : List Value} {M : aM} : am_run (c_Model_token s_Model_skip s_Model_peek s_Model_isByte s_Model_string s_Model_isDigit s_Model_isBegin) k_Model_token J K (n + 1) 140 L S M = ai_aload 0 141 (am_run (c_Model_token s_Model_skip s_Model_peek s_Model_isByte s_Model_string s_Model_isDigit s_Model_isBegin) k_Model_token J K n) K 140 L S M := by rfl
set_option maxRecDepth 20000 in
theorem r_Model_token_141 {s_Model_skip : aS} {s_Model_peek : aS} {s_Model_isByte : aS} {s_Model_string : aS} {s_Model_isDigit : aS} {s_Model_isBegin : aS} {J : aJ} {K : aR} {n : Nat} {L : aL} {S : List Value} {M : aM} : am_run (c_Model_token s_Model_skip s_Model_peek s_Model_isByte s_Model_string s_Model_isDigit s_Model_isBegin) k_Model_token J K (n + 1) 141 L S M = ai_callv1 7 s_Model_string 144 (am_run (c_Model_token s_Model_skip s_Model_peek s_Model_isByte s_Model_string s_Model_isDigit s_Model_isBegin) k_Model_token J K n) K 141 L S M := by rfl
set_option maxRecDepth 20000 in
theorem r_Model_token_144 {s_Model_skip : aS} {s_Model_peek : aS} {s_Model_isByte : aS} {s_Model_string : aS} {s_Model_isDigit : aS} {s_Model_isBegin : aS} {J : aJ} {K : aR} {n : Nat} {L : aL} {S : List Value} {M : aM} : am_run (c_Model_token s_Model_skip s_Model_peek s_Model_isByte s_Model_string s_Model_isDigit s_Model_isBegin) k_Model_token J K (n + 1) 144 L S M = ai_iret (am_run (c_Model_token s_Model_skip s_Model_peek s_Model_isByte s_Model_string s_Model_isDigit s_Model_isBegin) k_Model_token J K n) K 144 L S M := by rfl
set_option maxRecDepth 20000 in
theorem r_Model_token_145 {s_Model_skip : aS} {s_Model_peek : aS} {s_Model_isByte : aS} {s_Model_string : aS} {s_Model_isDigit : aS} {s_Model_isBegin : aS} {J : aJ} {K : aR} {n : Nat} {L : aL} {S : List Value} {M : aM} : am_run (c_Model_token s_Model_skip s_Model_peek s_Model_isByte s_Model_string s_Model_isDigit s_Model_isBegin) k_Model_token J K (n + 1) 145 L S M = ai_iload 1 146 (am_run (c_Model_token s_Model_skip s_Model_peek s_Model_isByte s_Model_string s_Model_isDigit s_Model_isBegin) k_Model_token J K n) K 145 L S M := by rfl
set_option maxRecDepth 20000 in
theorem r_Model_token_146 {s_Model_skip : aS} {s_Model_peek : aS} {s_Model_isByte : aS} {s_Model_string : aS} {s_Model_isDigit : aS} {s_Model_isBegin : aS} {J : aJ} {K : aR} {n : Nat} {L : aL} {S : List Value} {M : aM} : am_run (c_Model_token s_Model_skip s_Model_peek s_Model_isByte s_Model_string s_Model_isDigit s_Model_isBegin) k_Model_token J K (n + 1) 146 L S M = ai_calls1 s_Model_isByte 149 (am_run (c_Model_token s_Model_skip s_Model_peek s_Model_isByte s_Model_string s_Model_isDigit s_Model_isBegin) k_Model_token J K n) K 146 L S M := by rfl
set_option maxRecDepth 20000 in
theorem r_Model_token_149 {s_Model_skip : aS} {s_Model_peek : aS} {s_Model_isByte : aS} {s_Model_string : aS} {s_Model_isDigit : aS} {s_Model_isBegin : aS} {J : aJ} {K : aR} {n : Nat} {L : aL} {S : List Value} {M : aM} : am_run (c_Model_token s_Model_skip s_Model_peek s_Model_isByte s_Model_string s_Model_isDigit s_Model_isBegin) k_Model_token J K (n + 1) 149 L S M = ai_ifne 155 152 (am_run (c_Model_token s_Model_skip s_Model_peek s_Model_isByte s_Model_string s_Model_isDigit s_Model_isBegin) k_Model_token J K n) K 149 L S M := by rfl
set_option maxRecDepth 20000 in
theorem r_Model_token_152 {s_Model_skip : aS} {s_Model_peek : aS} {s_Model_isByte : aS} {s_Model_string : aS} {s_Model_isDigit : aS} {s_Model_isBegin : aS} {J : aJ} {K : aR} {n : Nat} {L : aL} {S : List Value} {M : aM} : am_run (c_Model_token s_Model_skip s_Model_peek s_Model_isByte s_Model_string s_Model_isDigit s_Model_isBegin) k_Model_token J K (n + 1) 152 L S M = ai_const 11 154 (am_run (c_Model_token s_Model_skip s_Model_peek s_Model_isByte s_Model_string s_Model_isDigit s_Model_isBegin) k_Model_token J K n) K 152 L S M := by rfl
set_option maxRecDepth 20000 in
theorem r_Model_token_154 {s_Model_skip : aS} {s_Model_peek : aS} {s_Model_isByte : aS} {s_Model_string : aS} {s_Model_isDigit : aS} {s_Model_isBegin : aS} {J : aJ} {K : aR} {n : Nat} {L : aL} {S : List Value} {M : aM} : am_run (c_Model_token s_Model_skip s_Model_peek s_Model_isByte s_Model_string s_Model_isDigit s_Model_isBegin) k_Model_token J K (n + 1) 154 L S M = ai_iret (am_run (c_Model_token s_Model_skip s_Model_peek s_Model_isByte s_Model_string s_Model_isDigit s_Model_isBegin) k_Model_token J K n) K 154 L S M := by rfl
set_option maxRecDepth 20000 in
theorem r_Model_token_155 {s_Model_skip : aS} {s_Model_peek : aS} {s_Model_isByte : aS} {s_Model_string : aS} {s_Model_isDigit : aS} {s_Model_isBegin : aS} {J : aJ} {K : aR} {n : Nat} {L : aL} {S : List Value} {M : aM} : am_run (c_Model_token s_Model_skip s_Model_peek s_Model_isByte s_Model_string s_Model_isDigit s_Model_isBegin) k_Model_token J K (n + 1) 155 L S M = ai_const 0 156 (am_run (c_Model_token s_Model_skip s_Model_peek s_Model_isByte s_Model_string s_Model_isDigit s_Model_isBegin) k_Model_token J K n) K 155 L S M := by rfl
set_option maxRecDepth 20000 in
theorem r_Model_token_156 {s_Model_skip : aS} {s_Model_peek : aS} {s_Model_isByte : aS} {s_Model_string : aS} {s_Model_isDigit : aS} {s_Model_isBegin : aS} {J : aJ} {K : aR} {n : Nat} {L : aL} {S : List Value} {M : aM} : am_run (c_Model_token s_Model_skip s_Model_peek s_Model_isByte s_Model_string s_Model_isDigit s_Model_isBegin) k_Model_token J K (n + 1) 156 L S M = ai_istore 2 157 (am_run (c_Model_token s_Model_skip s_Model_peek s_Model_isByte s_Model_string s_Model_isDigit s_Model_isBegin) k_Model_token J K n) K 156 L S M := by rfl
set_option maxRecDepth 20000 in
theorem r_Model_token_157 {s_Model_skip : aS} {s_Model_peek : aS} {s_Model_isByte : aS} {s_Model_string : aS} {s_Model_isDigit : aS} {s_Model_isBegin : aS} {J : aJ} {K : aR} {n : Nat} {L : aL} {S : List Value} {M : aM} : am_run (c_Model_token s_Model_skip s_Model_peek s_Model_isByte s_Model_string s_Model_isDigit s_Model_isBegin) k_Model_token J K (n + 1) 157 L S M = ai_const 1 158 (am_run (c_Model_token s_Model_skip s_Model_peek s_Model_isByte s_Model_string s_Model_isDigit s_Model_isBegin) k_Model_token J K n) K 157 L S M := by rfl
set_option maxRecDepth 20000 in
theorem r_Model_token_158 {s_Model_skip : aS} {s_Model_peek : aS} {s_Model_isByte : aS} {s_Model_string : aS} {s_Model_isDigit : aS} {s_Model_isBegin : aS} {J : aJ} {K : aR} {n : Nat} {L : aL} {S : List Value} {M : aM} : am_run (c_Model_token s_Model_skip s_Model_peek s_Model_isByte s_Model_string s_Model_isDigit s_Model_isBegin) k_Model_token J K (n + 1) 158 L S M = ai_istore 3 159 (am_run (c_Model_token s_Model_skip s_Model_peek s_Model_isByte s_Model_string s_Model_isDigit s_Model_isBegin) k_Model_token J K n) K 158 L S M := by rfl
set_option maxRecDepth 20000 in
theorem r_Model_token_159 {s_Model_skip : aS} {s_Model_peek : aS} {s_Model_isByte : aS} {s_Model_string : aS} {s_Model_isDigit : aS} {s_Model_isBegin : aS} {J : aJ} {K : aR} {n : Nat} {L : aL} {S : List Value} {M : aM} : am_run (c_Model_token s_Model_skip s_Model_peek s_Model_isByte s_Model_string s_Model_isDigit s_Model_isBegin) k_Model_token J K (n + 1) 159 L S M = J 159 L S M := by rfl
set_option maxRecDepth 20000 in
theorem r_Model_token_160 {s_Model_skip : aS} {s_Model_peek : aS} {s_Model_isByte : aS} {s_Model_string : aS} {s_Model_isDigit : aS} {s_Model_isBegin : aS} {J : aJ} {K : aR} {n : Nat} {L : aL} {S : List Value} {M : aM} : am_run (c_Model_token s_Model_skip s_Model_peek s_Model_isByte s_Model_string s_Model_isDigit s_Model_isBegin) k_Model_token J K (n + 1) 160 L S M = ai_iload 2 161 (am_run (c_Model_token s_Model_skip s_Model_peek s_Model_isByte s_Model_string s_Model_isDigit s_Model_isBegin) k_Model_token J K n) K 160 L S M := by rfl
set_option maxRecDepth 20000 in
theorem r_Model_token_161 {s_Model_skip : aS} {s_Model_peek : aS} {s_Model_isByte : aS} {s_Model_string : aS} {s_Model_isDigit : aS} {s_Model_isBegin : aS} {J : aJ} {K : aR} {n : Nat} {L : aL} {S : List Value} {M : aM} : am_run (c_Model_token s_Model_skip s_Model_peek s_Model_isByte s_Model_string s_Model_isDigit s_Model_isBegin) k_Model_token J K (n + 1) 161 L S M = ai_callv2 7 s_Model_peek 164 (am_run (c_Model_token s_Model_skip s_Model_peek s_Model_isByte s_Model_string s_Model_isDigit s_Model_isBegin) k_Model_token J K n) K 161 L S M := by rfl
set_option maxRecDepth 20000 in
theorem r_Model_token_164 {s_Model_skip : aS} {s_Model_peek : aS} {s_Model_isByte : aS} {s_Model_string : aS} {s_Model_isDigit : aS} {s_Model_isBegin : aS} {J : aJ} {K : aR} {n : Nat} {L : aL} {S : List Value} {M : aM} : am_run (c_Model_token s_Model_skip s_Model_peek s_Model_isByte s_Model_string s_Model_isDigit s_Model_isBegin) k_Model_token J K (n + 1) 164 L S M = ai_calls1 s_Model_isByte 167 (am_run (c_Model_token s_Model_skip s_Model_peek s_Model_isByte s_Model_string s_Model_isDigit s_Model_isBegin) k_Model_token J K n) K 164 L S M := by rfl
set_option maxRecDepth 20000 in
theorem r_Model_token_167 {s_Model_skip : aS} {s_Model_peek : aS} {s_Model_isByte : aS} {s_Model_string : aS} {s_Model_isDigit : aS} {s_Model_isBegin : aS} {J : aJ} {K : aR} {n : Nat} {L : aL} {S : List Value} {M : aM} : am_run (c_Model_token s_Model_skip s_Model_peek s_Model_isByte s_Model_string s_Model_isDigit s_Model_isBegin) k_Model_token J K (n + 1) 167 L S M = ai_ifeq 208 170 (am_run (c_Model_token s_Model_skip s_Model_peek s_Model_isByte s_Model_string s_Model_isDigit s_Model_isBegin) k_Model_token J K n) K 167 L S M := by rfl
set_option maxRecDepth 20000 in
theorem r_Model_token_170 {s_Model_skip : aS} {s_Model_peek : aS} {s_Model_isByte : aS} {s_Model_string : aS} {s_Model_isDigit : aS} {s_Model_isBegin : aS} {J : aJ} {K : aR} {n : Nat} {L : aL} {S : List Value} {M : aM} : am_run (c_Model_token s_Model_skip s_Model_peek s_Model_isByte s_Model_string s_Model_isDigit s_Model_isBegin) k_Model_token J K (n + 1) 170 L S M = ai_iload 3 171 (am_run (c_Model_token s_Model_skip s_Model_peek s_Model_isByte s_Model_string s_Model_isDigit s_Model_isBegin) k_Model_token J K n) K 170 L S M := by rfl
set_option maxRecDepth 20000 in
theorem r_Model_token_171 {s_Model_skip : aS} {s_Model_peek : aS} {s_Model_isByte : aS} {s_Model_string : aS} {s_Model_isDigit : aS} {s_Model_isBegin : aS} {J : aJ} {K : aR} {n : Nat} {L : aL} {S : List Value} {M : aM} : am_run (c_Model_token s_Model_skip s_Model_peek s_Model_isByte s_Model_string s_Model_isDigit s_Model_isBegin) k_Model_token J K (n + 1) 171 L S M = ai_ifeq 199 174 (am_run (c_Model_token s_Model_skip s_Model_peek s_Model_isByte s_Model_string s_Model_isDigit s_Model_isBegin) k_Model_token J K n) K 171 L S M := by rfl
set_option maxRecDepth 20000 in
theorem r_Model_token_174 {s_Model_skip : aS} {s_Model_peek : aS} {s_Model_isByte : aS} {s_Model_string : aS} {s_Model_isDigit : aS} {s_Model_isBegin : aS} {J : aJ} {K : aR} {n : Nat} {L : aL} {S : List Value} {M : aM} : am_run (c_Model_token s_Model_skip s_Model_peek s_Model_isByte s_Model_string s_Model_isDigit s_Model_isBegin) k_Model_token J K (n + 1) 174 L S M = ai_aload 0 175 (am_run (c_Model_token s_Model_skip s_Model_peek s_Model_isByte s_Model_string s_Model_isDigit s_Model_isBegin) k_Model_token J K n) K 174 L S M := by rfl
set_option maxRecDepth 20000 in
theorem r_Model_token_175 {s_Model_skip : aS} {s_Model_peek : aS} {s_Model_isByte : aS} {s_Model_string : aS} {s_Model_isDigit : aS} {s_Model_isBegin : aS} {J : aJ} {K : aR} {n : Nat} {L : aL} {S : List Value} {M : aM} : am_run (c_Model_token s_Model_skip s_Model_peek s_Model_isByte s_Model_string s_Model_isDigit s_Model_isBegin) k_Model_token J K (n + 1) 175 L S M = ai_iload 2 176 (am_run (c_Model_token s_Model_skip s_Model_peek s_Model_isByte s_Model_string s_Model_isDigit s_Model_isBegin) k_Model_token J K n) K 175 L S M := by rfl
set_option maxRecDepth 20000 in
theorem r_Model_token_176 {s_Model_skip : aS} {s_Model_peek : aS} {s_Model_isByte : aS} {s_Model_string : aS} {s_Model_isDigit : aS} {s_Model_isBegin : aS} {J : aJ} {K : aR} {n : Nat} {L : aL} {S : List Value} {M : aM} : am_run (c_Model_token s_Model_skip s_Model_peek s_Model_isByte s_Model_string s_Model_isDigit s_Model_isBegin) k_Model_token J K (n + 1) 176 L S M = ai_callv2 7 s_Model_peek 179 (am_run (c_Model_token s_Model_skip s_Model_peek s_Model_isByte s_Model_string s_Model_isDigit s_Model_isBegin) k_Model_token J K n) K 176 L S M := by rfl
set_option maxRecDepth 20000 in
theorem r_Model_token_179 {s_Model_skip : aS} {s_Model_peek : aS} {s_Model_isByte : aS} {s_Model_string : aS} {s_Model_isDigit : aS} {s_Model_isBegin : aS} {J : aJ} {K : aR} {n : Nat} {L : aL} {S : List Value} {M : aM} : am_run (c_Model_token s_Model_skip s_Model_peek s_Model_isByte s_Model_string s_Model_isDigit s_Model_isBegin) k_Model_token J K (n + 1) 179 L S M = ai_calls1 s_Model_isDigit 182 (am_run (c_Model_token s_Model_skip s_Model_peek s_Model_isByte s_Model_string s_Model_isDigit s_Model_isBegin) k_Model_token J K n) K 179 L S M := by rfl
set_option maxRecDepth 20000 in
theorem r_Model_token_182 {s_Model_skip : aS} {s_Model_peek : aS} {s_Model_isByte : aS} {s_Model_string : aS} {s_Model_isDigit : aS} {s_Model_isBegin : aS} {J : aJ} {K : aR} {n : Nat} {L : aL} {S : List Value} {M : aM} : am_run (c_Model_token s_Model_skip s_Model_peek s_Model_isByte s_Model_string s_Model_isDigit s_Model_isBegin) k_Model_token J K (n + 1) 182 L S M = ai_ifne 195 185 (am_run (c_Model_token s_Model_skip s_Model_peek s_Model_isByte s_Model_string s_Model_isDigit s_Model_isBegin) k_Model_token J K n) K 182 L S M := by rfl
set_option maxRecDepth 20000 in
theorem r_Model_token_185 {s_Model_skip : aS} {s_Model_peek : aS} {s_Model_isByte : aS} {s_Model_string : aS} {s_Model_isDigit : aS} {s_Model_isBegin : aS} {J : aJ} {K : aR} {n : Nat} {L : aL} {S : List Value} {M : aM} : am_run (c_Model_token s_Model_skip s_Model_peek s_Model_isByte s_Model_string s_Model_isDigit s_Model_isBegin) k_Model_token J K (n + 1) 185 L S M = ai_iload 2 186 (am_run (c_Model_token s_Model_skip s_Model_peek s_Model_isByte s_Model_string s_Model_isDigit s_Model_isBegin) k_Model_token J K n) K 185 L S M := by rfl
set_option maxRecDepth 20000 in
theorem r_Model_token_186 {s_Model_skip : aS} {s_Model_peek : aS} {s_Model_isByte : aS} {s_Model_string : aS} {s_Model_isDigit : aS} {s_Model_isBegin : aS} {J : aJ} {K : aR} {n : Nat} {L : aL} {S : List Value} {M : aM} : am_run (c_Model_token s_Model_skip s_Model_peek s_Model_isByte s_Model_string s_Model_isDigit s_Model_isBegin) k_Model_token J K (n + 1) 186 L S M = ai_ifne 199 189 (am_run (c_Model_token s_Model_skip s_Model_peek s_Model_isByte s_Model_string s_Model_isDigit s_Model_isBegin) k_Model_token J K n) K 186 L S M := by rfl
set_option maxRecDepth 20000 in
theorem r_Model_token_189 {s_Model_skip : aS} {s_Model_peek : aS} {s_Model_isByte : aS} {s_Model_string : aS} {s_Model_isDigit : aS} {s_Model_isBegin : aS} {J : aJ} {K : aR} {n : Nat} {L : aL} {S : List Value} {M : aM} : am_run (c_Model_token s_Model_skip s_Model_peek s_Model_isByte s_Model_string s_Model_isDigit s_Model_isBegin) k_Model_token J K (n + 1) 189 L S M = ai_iload 1 190 (am_run (c_Model_token s_Model_skip s_Model_peek s_Model_isByte s_Model_string s_Model_isDigit s_Model_isBegin) k_Model_token J K n) K 189 L S M := by rfl
set_option maxRecDepth 20000 in
theorem r_Model_token_190 {s_Model_skip : aS} {s_Model_peek : aS} {s_Model_isByte : aS} {s_Model_string : aS} {s_Model_isDigit : aS} {s_Model_isBegin : aS} {J : aJ} {K : aR} {n : Nat} {L : aL} {S : List Value} {M : aM} : am_run (c_Model_token s_Model_skip s_Model_peek s_Model_isByte s_Model_string s_Model_isDigit s_Model_isBegin) k_Model_token J K (n + 1) 190 L S M = ai_const 45 192 (am_run (c_Model_token s_Model_skip s_Model_peek s_Model_isByte s_Model_string s_Model_isDigit s_Model_isBegin) k_Model_token J K n) K 190 L S M := by rfl
set_option maxRecDepth 20000 in
theorem r_Model_token_192 {s_Model_skip : aS} {s_Model_peek : aS} {s_Model_isByte : aS} {s_Model_string : aS} {s_Model_isDigit : aS} {s_Model_isBegin : aS} {J : aJ} {K : aR} {n : Nat} {L : aL} {S : List Value} {M : aM} : am_run (c_Model_token s_Model_skip s_Model_peek s_Model_isByte s_Model_string s_Model_isDigit s_Model_isBegin) k_Model_token J K (n + 1) 192 L S M = ai_cmpne 199 195 (am_run (c_Model_token s_Model_skip s_Model_peek s_Model_isByte s_Model_string s_Model_isDigit s_Model_isBegin) k_Model_token J K n) K 192 L S M := by rfl
set_option maxRecDepth 20000 in
theorem r_Model_token_195 {s_Model_skip : aS} {s_Model_peek : aS} {s_Model_isByte : aS} {s_Model_string : aS} {s_Model_isDigit : aS} {s_Model_isBegin : aS} {J : aJ} {K : aR} {n : Nat} {L : aL} {S : List Value} {M : aM} : am_run (c_Model_token s_Model_skip s_Model_peek s_Model_isByte s_Model_string s_Model_isDigit s_Model_isBegin) k_Model_token J K (n + 1) 195 L S M = ai_const 1 196 (am_run (c_Model_token s_Model_skip s_Model_peek s_Model_isByte s_Model_string s_Model_isDigit s_Model_isBegin) k_Model_token J K n) K 195 L S M := by rfl
set_option maxRecDepth 20000 in
theorem r_Model_token_196 {s_Model_skip : aS} {s_Model_peek : aS} {s_Model_isByte : aS} {s_Model_string : aS} {s_Model_isDigit : aS} {s_Model_isBegin : aS} {J : aJ} {K : aR} {n : Nat} {L : aL} {S : List Value} {M : aM} : am_run (c_Model_token s_Model_skip s_Model_peek s_Model_isByte s_Model_string s_Model_isDigit s_Model_isBegin) k_Model_token J K (n + 1) 196 L S M = ai_goto 200 (am_run (c_Model_token s_Model_skip s_Model_peek s_Model_isByte s_Model_string s_Model_isDigit s_Model_isBegin) k_Model_token J K n) K 196 L S M := by rfl
set_option maxRecDepth 20000 in
theorem r_Model_token_199 {s_Model_skip : aS} {s_Model_peek : aS} {s_Model_isByte : aS} {s_Model_string : aS} {s_Model_isDigit : aS} {s_Model_isBegin : aS} {J : aJ} {K : aR} {n : Nat} {L : aL} {S : List Value} {M : aM} : am_run (c_Model_token s_Model_skip s_Model_peek s_Model_isByte s_Model_string s_Model_isDigit s_Model_isBegin) k_Model_token J K (n + 1) 199 L S M = ai_const 0 200 (am_run (c_Model_token s_Model_skip s_Model_peek s_Model_isByte s_Model_string s_Model_isDigit s_Model_isBegin) k_Model_token J K n) K 199 L S M := by rfl
set_option maxRecDepth 20000 in
theorem r_Model_token_200 {s_Model_skip : aS} {s_Model_peek : aS} {s_Model_isByte : aS} {s_Model_string : aS} {s_Model_isDigit : aS} {s_Model_isBegin : aS} {J : aJ} {K : aR} {n : Nat} {L : aL} {S : List Value} {M : aM} : am_run (c_Model_token s_Model_skip s_Model_peek s_Model_isByte s_Model_string s_Model_isDigit s_Model_isBegin) k_Model_token J K (n + 1) 200 L S M = ai_istore 3 201 (am_run (c_Model_token s_Model_skip s_Model_peek s_Model_isByte s_Model_string s_Model_isDigit s_Model_isBegin) k_Model_token J K n) K 200 L S M := by rfl
set_option maxRecDepth 20000 in
theorem r_Model_token_201 {s_Model_skip : aS} {s_Model_peek : aS} {s_Model_isByte : aS} {s_Model_string : aS} {s_Model_isDigit : aS} {s_Model_isBegin : aS} {J : aJ} {K : aR} {n : Nat} {L : aL} {S : List Value} {M : aM} : am_run (c_Model_token s_Model_skip s_Model_peek s_Model_isByte s_Model_string s_Model_isDigit s_Model_isBegin) k_Model_token J K (n + 1) 201 L S M = ai_iload 2 202 (am_run (c_Model_token s_Model_skip s_Model_peek s_Model_isByte s_Model_string s_Model_isDigit s_Model_isBegin) k_Model_token J K n) K 201 L S M := by rfl
set_option maxRecDepth 20000 in
theorem r_Model_token_202 {s_Model_skip : aS} {s_Model_peek : aS} {s_Model_isByte : aS} {s_Model_string : aS} {s_Model_isDigit : aS} {s_Model_isBegin : aS} {J : aJ} {K : aR} {n : Nat} {L : aL} {S : List Value} {M : aM} : am_run (c_Model_token s_Model_skip s_Model_peek s_Model_isByte s_Model_string s_Model_isDigit s_Model_isBegin) k_Model_token J K (n + 1) 202 L S M = ai_const 1 203 (am_run (c_Model_token s_Model_skip s_Model_peek s_Model_isByte s_Model_string s_Model_isDigit s_Model_isBegin) k_Model_token J K n) K 202 L S M := by rfl
set_option maxRecDepth 20000 in
theorem r_Model_token_203 {s_Model_skip : aS} {s_Model_peek : aS} {s_Model_isByte : aS} {s_Model_string : aS} {s_Model_isDigit : aS} {s_Model_isBegin : aS} {J : aJ} {K : aR} {n : Nat} {L : aL} {S : List Value} {M : aM} : am_run (c_Model_token s_Model_skip s_Model_peek s_Model_isByte s_Model_string s_Model_isDigit s_Model_isBegin) k_Model_token J K (n + 1) 203 L S M = ai_iadd 204 (am_run (c_Model_token s_Model_skip s_Model_peek s_Model_isByte s_Model_string s_Model_isDigit s_Model_isBegin) k_Model_token J K n) K 203 L S M := by rfl
set_option maxRecDepth 20000 in
theorem r_Model_token_204 {s_Model_skip : aS} {s_Model_peek : aS} {s_Model_isByte : aS} {s_Model_string : aS} {s_Model_isDigit : aS} {s_Model_isBegin : aS} {J : aJ} {K : aR} {n : Nat} {L : aL} {S : List Value} {M : aM} : am_run (c_Model_token s_Model_skip s_Model_peek s_Model_isByte s_Model_string s_Model_isDigit s_Model_isBegin) k_Model_token J K (n + 1) 204 L S M = ai_istore 2 205 (am_run (c_Model_token s_Model_skip s_Model_peek s_Model_isByte s_Model_string s_Model_isDigit s_Model_isBegin) k_Model_token J K n) K 204 L S M := by rfl
set_option maxRecDepth 20000 in
theorem r_Model_token_205 {s_Model_skip : aS} {s_Model_peek : aS} {s_Model_isByte : aS} {s_Model_string : aS} {s_Model_isDigit : aS} {s_Model_isBegin : aS} {J : aJ} {K : aR} {n : Nat} {L : aL} {S : List Value} {M : aM} : am_run (c_Model_token s_Model_skip s_Model_peek s_Model_isByte s_Model_string s_Model_isDigit s_Model_isBegin) k_Model_token J K (n + 1) 205 L S M = ai_goto 159 (am_run (c_Model_token s_Model_skip s_Model_peek s_Model_isByte s_Model_string s_Model_isDigit s_Model_isBegin) k_Model_token J K n) K 205 L S M := by rfl
set_option maxRecDepth 20000 in
theorem r_Model_token_208 {s_Model_skip : aS} {s_Model_peek : aS} {s_Model_isByte : aS} {s_Model_string : aS} {s_Model_isDigit : aS} {s_Model_isBegin : aS} {J : aJ} {K : aR} {n : Nat} {L : aL} {S : List Value} {M : aM} : am_run (c_Model_token s_Model_skip s_Model_peek s_Model_isByte s_Model_string s_Model_isDigit s_Model_isBegin) k_Model_token J K (n + 1) 208 L S M = ai_aload 0 209 (am_run (c_Model_token s_Model_skip s_Model_peek s_Model_isByte s_Model_string s_Model_isDigit s_Model_isBegin) k_Model_token J K n) K 208 L S M := by rfl
set_option maxRecDepth 20000 in
theorem r_Model_token_209 {s_Model_skip : aS} {s_Model_peek : aS} {s_Model_isByte : aS} {s_Model_string : aS} {s_Model_isDigit : aS} {s_Model_isBegin : aS} {J : aJ} {K : aR} {n : Nat} {L : aL} {S : List Value} {M : aM} : am_run (c_Model_token s_Model_skip s_Model_peek s_Model_isByte s_Model_string s_Model_isDigit s_Model_isBegin) k_Model_token J K (n + 1) 209 L S M = ai_aload 0 210 (am_run (c_Model_token s_Model_skip s_Model_peek s_Model_isByte s_Model_string s_Model_isDigit s_Model_isBegin) k_Model_token J K n) K 209 L S M := by rfl
set_option maxRecDepth 20000 in
theorem r_Model_token_210 {s_Model_skip : aS} {s_Model_peek : aS} {s_Model_isByte : aS} {s_Model_string : aS} {s_Model_isDigit : aS} {s_Model_isBegin : aS} {J : aJ} {K : aR} {n : Nat} {L : aL} {S : List Value} {M : aM} : am_run (c_Model_token s_Model_skip s_Model_peek s_Model_isByte s_Model_string s_Model_isDigit s_Model_isBegin) k_Model_token J K (n + 1) 210 L S M = ai_getf 7 2 213 (am_run (c_Model_token s_Model_skip s_Model_peek s_Model_isByte s_Model_string s_Model_isDigit s_Model_isBegin) k_Model_token J K n) K 210 L S M := by rfl
set_option maxRecDepth 20000 in
theorem r_Model_token_213 {s_Model_skip : aS} {s_Model_peek : aS} {s_Model_isByte : aS} {s_Model_string : aS} {s_Model_isDigit : aS} {s_Model_isBegin : aS} {J : aJ} {K : aR} {n : Nat} {L : aL} {S : List Value} {M : aM} : am_run (c_Model_token s_Model_skip s_Model_peek s_Model_isByte s_Model_string s_Model_isDigit s_Model_isBegin) k_Model_token J K (n + 1) 213 L S M = ai_iload 2 214 (am_run (c_Model_token s_Model_skip s_Model_peek s_Model_isByte s_Model_string s_Model_isDigit s_Model_isBegin) k_Model_token J K n) K 213 L S M := by rfl
set_option maxRecDepth 20000 in
theorem r_Model_token_214 {s_Model_skip : aS} {s_Model_peek : aS} {s_Model_isByte : aS} {s_Model_string : aS} {s_Model_isDigit : aS} {s_Model_isBegin : aS} {J : aJ} {K : aR} {n : Nat} {L : aL} {S : List Value} {M : aM} : am_run (c_Model_token s_Model_skip s_Model_peek s_Model_isByte s_Model_string s_Model_isDigit s_Model_isBegin) k_Model_token J K (n + 1) 214 L S M = ai_iadd 215 (am_run (c_Model_token s_Model_skip s_Model_peek s_Model_isByte s_Model_string s_Model_isDigit s_Model_isBegin) k_Model_token J K n) K 214 L S M := by rfl
set_option maxRecDepth 20000 in
theorem r_Model_token_215 {s_Model_skip : aS} {s_Model_peek : aS} {s_Model_isByte : aS} {s_Model_string : aS} {s_Model_isDigit : aS} {s_Model_isBegin : aS} {J : aJ} {K : aR} {n : Nat} {L : aL} {S : List Value} {M : aM} : am_run (c_Model_token s_Model_skip s_Model_peek s_Model_isByte s_Model_string s_Model_isDigit s_Model_isBegin) k_Model_token J K (n + 1) 215 L S M = ai_putf 7 2 218 (am_run (c_Model_token s_Model_skip s_Model_peek s_Model_isByte s_Model_string s_Model_isDigit s_Model_isBegin) k_Model_token J K n) K 215 L S M := by rfl
set_option maxRecDepth 20000 in
theorem r_Model_token_218 {s_Model_skip : aS} {s_Model_peek : aS} {s_Model_isByte : aS} {s_Model_string : aS} {s_Model_isDigit : aS} {s_Model_isBegin : aS} {J : aJ} {K : aR} {n : Nat} {L : aL} {S : List Value} {M : aM} : am_run (c_Model_token s_Model_skip s_Model_peek s_Model_isByte s_Model_string s_Model_isDigit s_Model_isBegin) k_Model_token J K (n + 1) 218 L S M = ai_iload 1 219 (am_run (c_Model_token s_Model_skip s_Model_peek s_Model_isByte s_Model_string s_Model_isDigit s_Model_isBegin) k_Model_token J K n) K 218 L S M := by rfl
set_option maxRecDepth 20000 in
theorem r_Model_token_219 {s_Model_skip : aS} {s_Model_peek : aS} {s_Model_isByte : aS} {s_Model_string : aS} {s_Model_isDigit : aS} {s_Model_isBegin : aS} {J : aJ} {K : aR} {n : Nat} {L : aL} {S : List Value} {M : aM} : am_run (c_Model_token s_Model_skip s_Model_peek s_Model_isByte s_Model_string s_Model_isDigit s_Model_isBegin) k_Model_token J K (n + 1) 219 L S M = ai_const 45 221 (am_run (c_Model_token s_Model_skip s_Model_peek s_Model_isByte s_Model_string s_Model_isDigit s_Model_isBegin) k_Model_token J K n) K 219 L S M := by rfl
set_option maxRecDepth 20000 in
theorem r_Model_token_221 {s_Model_skip : aS} {s_Model_peek : aS} {s_Model_isByte : aS} {s_Model_string : aS} {s_Model_isDigit : aS} {s_Model_isBegin : aS} {J : aJ} {K : aR} {n : Nat} {L : aL} {S : List Value} {M : aM} : am_run (c_Model_token s_Model_skip s_Model_peek s_Model_isByte s_Model_string s_Model_isDigit s_Model_isBegin) k_Model_token J K (n + 1) 221 L S M = ai_cmpne 230 224 (am_run (c_Model_token s_Model_skip s_Model_peek s_Model_isByte s_Model_string s_Model_isDigit s_Model_isBegin) k_Model_token J K n) K 221 L S M := by rfl
set_option maxRecDepth 20000 in
theorem r_Model_token_224 {s_Model_skip : aS} {s_Model_peek : aS} {s_Model_isByte : aS} {s_Model_string : aS} {s_Model_isDigit : aS} {s_Model_isBegin : aS} {J : aJ} {K : aR} {n : Nat} {L : aL} {S : List Value} {M : aM} : am_run (c_Model_token s_Model_skip s_Model_peek s_Model_isByte s_Model_string s_Model_isDigit s_Model_isBegin) k_Model_token J K (n + 1) 224 L S M = ai_iload 2 225 (am_run (c_Model_token s_Model_skip s_Model_peek s_Model_isByte s_Model_string s_Model_isDigit s_Model_isBegin) k_Model_token J K n) K 224 L S M := by rfl
set_option maxRecDepth 20000 in
theorem r_Model_token_225 {s_Model_skip : aS} {s_Model_peek : aS} {s_Model_isByte : aS} {s_Model_string : aS} {s_Model_isDigit : aS} {s_Model_isBegin : aS} {J : aJ} {K : aR} {n : Nat} {L : aL} {S : List Value} {M : aM} : am_run (c_Model_token s_Model_skip s_Model_peek s_Model_isByte s_Model_string s_Model_isDigit s_Model_isBegin) k_Model_token J K (n + 1) 225 L S M = ai_const 1 226 (am_run (c_Model_token s_Model_skip s_Model_peek s_Model_isByte s_Model_string s_Model_isDigit s_Model_isBegin) k_Model_token J K n) K 225 L S M := by rfl
set_option maxRecDepth 20000 in
theorem r_Model_token_226 {s_Model_skip : aS} {s_Model_peek : aS} {s_Model_isByte : aS} {s_Model_string : aS} {s_Model_isDigit : aS} {s_Model_isBegin : aS} {J : aJ} {K : aR} {n : Nat} {L : aL} {S : List Value} {M : aM} : am_run (c_Model_token s_Model_skip s_Model_peek s_Model_isByte s_Model_string s_Model_isDigit s_Model_isBegin) k_Model_token J K (n + 1) 226 L S M = ai_isub 227 (am_run (c_Model_token s_Model_skip s_Model_peek s_Model_isByte s_Model_string s_Model_isDigit s_Model_isBegin) k_Model_token J K n) K 226 L S M := by rfl
set_option maxRecDepth 20000 in
theorem r_Model_token_227 {s_Model_skip : aS} {s_Model_peek : aS} {s_Model_isByte : aS} {s_Model_string : aS} {s_Model_isDigit : aS} {s_Model_isBegin : aS} {J : aJ} {K : aR} {n : Nat} {L : aL} {S : List Value} {M : aM} : am_run (c_Model_token s_Model_skip s_Model_peek s_Model_isByte s_Model_string s_Model_isDigit s_Model_isBegin) k_Model_token J K (n + 1) 227 L S M = ai_goto 231 (am_run (c_Model_token s_Model_skip s_Model_peek s_Model_isByte s_Model_string s_Model_isDigit s_Model_isBegin) k_Model_token J K n) K 227 L S M := by rfl
set_option maxRecDepth 20000 in
theorem r_Model_token_230 {s_Model_skip : aS} {s_Model_peek : aS} {s_Model_isByte : aS} {s_Model_string : aS} {s_Model_isDigit : aS} {s_Model_isBegin : aS} {J : aJ} {K : aR} {n : Nat} {L : aL} {S : List Value} {M : aM} : am_run (c_Model_token s_Model_skip s_Model_peek s_Model_isByte s_Model_string s_Model_isDigit s_Model_isBegin) k_Model_token J K (n + 1) 230 L S M = ai_iload 2 231 (am_run (c_Model_token s_Model_skip s_Model_peek s_Model_isByte s_Model_string s_Model_isDigit s_Model_isBegin) k_Model_token J K n) K 230 L S M := by rfl
set_option maxRecDepth 20000 in
theorem r_Model_token_231 {s_Model_skip : aS} {s_Model_peek : aS} {s_Model_isByte : aS} {s_Model_string : aS} {s_Model_isDigit : aS} {s_Model_isBegin : aS} {J : aJ} {K : aR} {n : Nat} {L : aL} {S : List Value} {M : aM} : am_run (c_Model_token s_Model_skip s_Model_peek s_Model_isByte s_Model_string s_Model_isDigit s_Model_isBegin) k_Model_token J K (n + 1) 231 L S M = ai_istore 4 233 (am_run (c_Model_token s_Model_skip s_Model_peek s_Model_isByte s_Model_string s_Model_isDigit s_Model_isBegin) k_Model_token J K n) K 231 L S M := by rfl
set_option maxRecDepth 20000 in
theorem r_Model_token_233 {s_Model_skip : aS} {s_Model_peek : aS} {s_Model_isByte : aS} {s_Model_string : aS} {s_Model_isDigit : aS} {s_Model_isBegin : aS} {J : aJ} {K : aR} {n : Nat} {L : aL} {S : List Value} {M : aM} : am_run (c_Model_token s_Model_skip s_Model_peek s_Model_isByte s_Model_string s_Model_isDigit s_Model_isBegin) k_Model_token J K (n + 1) 233 L S M = ai_iload 3 234 (am_run (c_Model_token s_Model_skip s_Model_peek s_Model_isByte s_Model_string s_Model_isDigit s_Model_isBegin) k_Model_token J K n) K 233 L S M := by rfl
set_option maxRecDepth 20000 in
theorem r_Model_token_234 {s_Model_skip : aS} {s_Model_peek : aS} {s_Model_isByte : aS} {s_Model_string : aS} {s_Model_isDigit : aS} {s_Model_isBegin : aS} {J : aJ} {K : aR} {n : Nat} {L : aL} {S : List Value} {M : aM} : am_run (c_Model_token s_Model_skip s_Model_peek s_Model_isByte s_Model_string s_Model_isDigit s_Model_isBegin) k_Model_token J K (n + 1) 234 L S M = ai_ifeq 256 237 (am_run (c_Model_token s_Model_skip s_Model_peek s_Model_isByte s_Model_string s_Model_isDigit s_Model_isBegin) k_Model_token J K n) K 234 L S M := by rfl
set_option maxRecDepth 20000 in
theorem r_Model_token_237 {s_Model_skip : aS} {s_Model_peek : aS} {s_Model_isByte : aS} {s_Model_string : aS} {s_Model_isDigit : aS} {s_Model_isBegin : aS} {J : aJ} {K : aR} {n : Nat} {L : aL} {S : List Value} {M : aM} : am_run (c_Model_token s_Model_skip s_Model_peek s_Model_isByte s_Model_string s_Model_isDigit s_Model_isBegin) k_Model_token J K (n + 1) 237 L S M = ai_iload 4 239 (am_run (c_Model_token s_Model_skip s_Model_peek s_Model_isByte s_Model_string s_Model_isDigit s_Model_isBegin) k_Model_token J K n) K 237 L S M := by rfl
set_option maxRecDepth 20000 in
theorem r_Model_token_239 {s_Model_skip : aS} {s_Model_peek : aS} {s_Model_isByte : aS} {s_Model_string : aS} {s_Model_isDigit : aS} {s_Model_isBegin : aS} {J : aJ} {K : aR} {n : Nat} {L : aL} {S : List Value} {M : aM} : am_run (c_Model_token s_Model_skip s_Model_peek s_Model_isByte s_Model_string s_Model_isDigit s_Model_isBegin) k_Model_token J K (n + 1) 239 L S M = ai_ifle 253 242 (am_run (c_Model_token s_Model_skip s_Model_peek s_Model_isByte s_Model_string s_Model_isDigit s_Model_isBegin) k_Model_token J K n) K 239 L S M := by rfl
set_option maxRecDepth 20000 in
theorem r_Model_token_242 {s_Model_skip : aS} {s_Model_peek : aS} {s_Model_isByte : aS} {s_Model_string : aS} {s_Model_isDigit : aS} {s_Model_isBegin : aS} {J : aJ} {K : aR} {n : Nat} {L : aL} {S : List Value} {M : aM} : am_run (c_Model_token s_Model_skip s_Model_peek s_Model_isByte s_Model_string s_Model_isDigit s_Model_isBegin) k_Model_token J K (n + 1) 242 L S M = ai_iload 4 244 (am_run (c_Model_token s_Model_skip s_Model_peek s_Model_isByte s_Model_string s_Model_isDigit s_Model_isBegin) k_Model_token J K n) K 242 L S M := by rfl
set_option maxRecDepth 20000 in
theorem r_Model_token_244 {s_Model_skip : aS} {s_Model_peek : aS} {s_Model_isByte : aS} {s_Model_string : aS} {s_Model_isDigit : aS} {s_Model_isBegin : aS} {J : aJ} {K : aR} {n : Nat} {L : aL} {S : List Value} {M : aM} : am_run (c_Model_token s_Model_skip s_Model_peek s_Model_isByte s_Model_string s_Model_isDigit s_Model_isBegin) k_Model_token J K (n + 1) 244 L S M = ai_const 10 246 (am_run (c_Model_token s_Model_skip s_Model_peek s_Model_isByte s_Model_string s_Model_isDigit s_Model_isBegin) k_Model_token J K n) K 244 L S M := by rfl
set_option maxRecDepth 20000 in
theorem r_Model_token_246 {s_Model_skip : aS} {s_Model_peek : aS} {s_Model_isByte : aS} {s_Model_string : aS} {s_Model_isDigit : aS} {s_Model_isBegin : aS} {J : aJ} {K : aR} {n : Nat} {L : aL} {S : List Value} {M : aM} : am_run (c_Model_token s_Model_skip s_Model_peek s_Model_isByte s_Model_string s_Model_isDigit s_Model_isBegin) k_Model_token J K (n + 1) 246 L S M = ai_cmpge 253 249 (am_run (c_Model_token s_Model_skip s_Model_peek s_Model_isByte s_Model_string s_Model_isDigit s_Model_isBegin) k_Model_token J K n) K 246 L S M := by rfl
set_option maxRecDepth 20000 in
theorem r_Model_token_249 {s_Model_skip : aS} {s_Model_peek : aS} {s_Model_isByte : aS} {s_Model_string : aS} {s_Model_isDigit : aS} {s_Model_isBegin : aS} {J : aJ} {K : aR} {n : Nat} {L : aL} {S : List Value} {M : aM} : am_run (c_Model_token s_Model_skip s_Model_peek s_Model_isByte s_Model_string s_Model_isDigit s_Model_isBegin) k_Model_token J K (n + 1) 249 L S M = ai_const 1 250 (am_run (c_Model_token s_Model_skip s_Model_peek s_Model_isByte s_Model_string s_Model_isDigit s_Model_isBegin) k_Model_token J K n) K 249 L S M := by rfl
set_option maxRecDepth 20000 in
theorem r_Model_token_250 {s_Model_skip : aS} {s_Model_peek : aS} {s_Model_isByte : aS} {s_Model_string : aS} {s_Model_isDigit : aS} {s_Model_isBegin : aS} {J : aJ} {K : aR} {n : Nat} {L : aL} {S : List Value} {M : aM} : am_run (c_Model_token s_Model_skip s_Model_peek s_Model_isByte s_Model_string s_Model_isDigit s_Model_isBegin) k_Model_token J K (n + 1) 250 L S M = ai_goto 255 (am_run (c_Model_token s_Model_skip s_Model_peek s_Model_isByte s_Model_string s_Model_isDigit s_Model_isBegin) k_Model_token J K n) K 250 L S M := by rfl
set_option maxRecDepth 20000 in
theorem r_Model_token_253 {s_Model_skip : aS} {s_Model_peek : aS} {s_Model_isByte : aS} {s_Model_string : aS} {s_Model_isDigit : aS} {s_Model_isBegin : aS} {J : aJ} {K : aR} {n : Nat} {L : aL} {S : List Value} {M : aM} : am_run (c_Model_token s_Model_skip s_Model_peek s_Model_isByte s_Model_string s_Model_isDigit s_Model_isBegin) k_Model_token J K (n + 1) 253 L S M = ai_const 11 255 (am_run (c_Model_token s_Model_skip s_Model_peek s_Model_isByte s_Model_string s_Model_isDigit s_Model_isBegin) k_Model_token J K n) K 253 L S M := by rfl
set_option maxRecDepth 20000 in
theorem r_Model_token_255 {s_Model_skip : aS} {s_Model_peek : aS} {s_Model_isByte : aS} {s_Model_string : aS} {s_Model_isDigit : aS} {s_Model_isBegin : aS} {J : aJ} {K : aR} {n : Nat} {L : aL} {S : List Value} {M : aM} : am_run (c_Model_token s_Model_skip s_Model_peek s_Model_isByte s_Model_string s_Model_isDigit s_Model_isBegin) k_Model_token J K (n + 1) 255 L S M = ai_iret (am_run (c_Model_token s_Model_skip s_Model_peek s_Model_isByte s_Model_string s_Model_isDigit s_Model_isBegin) k_Model_token J K n) K 255 L S M := by rfl
set_option maxRecDepth 20000 in
theorem r_Model_token_256 {s_Model_skip : aS} {s_Model_peek : aS} {s_Model_isByte : aS} {s_Model_string : aS} {s_Model_isDigit : aS} {s_Model_isBegin : aS} {J : aJ} {K : aR} {n : Nat} {L : aL} {S : List Value} {M : aM} : am_run (c_Model_token s_Model_skip s_Model_peek s_Model_isByte s_Model_string s_Model_isDigit s_Model_isBegin) k_Model_token J K (n + 1) 256 L S M = ai_iload 1 257 (am_run (c_Model_token s_Model_skip s_Model_peek s_Model_isByte s_Model_string s_Model_isDigit s_Model_isBegin) k_Model_token J K n) K 256 L S M := by rfl
set_option maxRecDepth 20000 in
theorem r_Model_token_257 {s_Model_skip : aS} {s_Model_peek : aS} {s_Model_isByte : aS} {s_Model_string : aS} {s_Model_isDigit : aS} {s_Model_isBegin : aS} {J : aJ} {K : aR} {n : Nat} {L : aL} {S : List Value} {M : aM} : am_run (c_Model_token s_Model_skip s_Model_peek s_Model_isByte s_Model_string s_Model_isDigit s_Model_isBegin) k_Model_token J K (n + 1) 257 L S M = ai_calls1 s_Model_isBegin 260 (am_run (c_Model_token s_Model_skip s_Model_peek s_Model_isByte s_Model_string s_Model_isDigit s_Model_isBegin) k_Model_token J K n) K 257 L S M := by rfl
set_option maxRecDepth 20000 in
theorem r_Model_token_260 {s_Model_skip : aS} {s_Model_peek : aS} {s_Model_isByte : aS} {s_Model_string : aS} {s_Model_isDigit : aS} {s_Model_isBegin : aS} {J : aJ} {K : aR} {n : Nat} {L : aL} {S : List Value} {M : aM} : am_run (c_Model_token s_Model_skip s_Model_peek s_Model_isByte s_Model_string s_Model_isDigit s_Model_isBegin) k_Model_token J K (n + 1) 260 L S M = ai_ifeq 273 263 (am_run (c_Model_token s_Model_skip s_Model_peek s_Model_isByte s_Model_string s_Model_isDigit s_Model_isBegin) k_Model_token J K n) K 260 L S M := by rfl
set_option maxRecDepth 20000 in
theorem r_Model_token_263 {s_Model_skip : aS} {s_Model_peek : aS} {s_Model_isByte : aS} {s_Model_string : aS} {s_Model_isDigit : aS} {s_Model_isBegin : aS} {J : aJ} {K : aR} {n : Nat} {L : aL} {S : List Value} {M : aM} : am_run (c_Model_token s_Model_skip s_Model_peek s_Model_isByte s_Model_string s_Model_isDigit s_Model_isBegin) k_Model_token J K (n + 1) 263 L S M = ai_iload 2 264 (am_run (c_Model_token s_Model_skip s_Model_peek s_Model_isByte s_Model_string s_Model_isDigit s_Model_isBegin) k_Model_token J K n) K 263 L S M := by rfl
set_option maxRecDepth 20000 in
theorem r_Model_token_264 {s_Model_skip : aS} {s_Model_peek : aS} {s_Model_isByte : aS} {s_Model_string : aS} {s_Model_isDigit : aS} {s_Model_isBegin : aS} {J : aJ} {K : aR} {n : Nat} {L : aL} {S : List Value} {M : aM} : am_run (c_Model_token s_Model_skip s_Model_peek s_Model_isByte s_Model_string s_Model_isDigit s_Model_isBegin) k_Model_token J K (n + 1) 264 L S M = ai_const 12 266 (am_run (c_Model_token s_Model_skip s_Model_peek s_Model_isByte s_Model_string s_Model_isDigit s_Model_isBegin) k_Model_token J K n) K 264 L S M := by rfl
set_option maxRecDepth 20000 in
theorem r_Model_token_266 {s_Model_skip : aS} {s_Model_peek : aS} {s_Model_isByte : aS} {s_Model_string : aS} {s_Model_isDigit : aS} {s_Model_isBegin : aS} {J : aJ} {K : aR} {n : Nat} {L : aL} {S : List Value} {M : aM} : am_run (c_Model_token s_Model_skip s_Model_peek s_Model_isByte s_Model_string s_Model_isDigit s_Model_isBegin) k_Model_token J K (n + 1) 266 L S M = ai_cmpgt 273 269 (am_run (c_Model_token s_Model_skip s_Model_peek s_Model_isByte s_Model_string s_Model_isDigit s_Model_isBegin) k_Model_token J K n) K 266 L S M := by rfl
set_option maxRecDepth 20000 in
theorem r_Model_token_269 {s_Model_skip : aS} {s_Model_peek : aS} {s_Model_isByte : aS} {s_Model_string : aS} {s_Model_isDigit : aS} {s_Model_isBegin : aS} {J : aJ} {K : aR} {n : Nat} {L : aL} {S : List Value} {M : aM} : am_run (c_Model_token s_Model_skip s_Model_peek s_Model_isByte s_Model_string s_Model_isDigit s_Model_isBegin) k_Model_token J K (n + 1) 269 L S M = ai_const 2 270 (am_run (c_Model_token s_Model_skip s_Model_peek s_Model_isByte s_Model_string s_Model_isDigit s_Model_isBegin) k_Model_token J K n) K 269 L S M := by rfl
set_option maxRecDepth 20000 in
theorem r_Model_token_270 {s_Model_skip : aS} {s_Model_peek : aS} {s_Model_isByte : aS} {s_Model_string : aS} {s_Model_isDigit : aS} {s_Model_isBegin : aS} {J : aJ} {K : aR} {n : Nat} {L : aL} {S : List Value} {M : aM} : am_run (c_Model_token s_Model_skip s_Model_peek s_Model_isByte s_Model_string s_Model_isDigit s_Model_isBegin) k_Model_token J K (n + 1) 270 L S M = ai_goto 275 (am_run (c_Model_token s_Model_skip s_Model_peek s_Model_isByte s_Model_string s_Model_isDigit s_Model_isBegin) k_Model_token J K n) K 270 L S M := by rfl
set_option maxRecDepth 20000 in
theorem r_Model_token_273 {s_Model_skip : aS} {s_Model_peek : aS} {s_Model_isByte : aS} {s_Model_string : aS} {s_Model_isDigit : aS} {s_Model_isBegin : aS} {J : aJ} {K : aR} {n : Nat} {L : aL} {S : List Value} {M : aM} : am_run (c_Model_token s_Model_skip s_Model_peek s_Model_isByte s_Model_string s_Model_isDigit s_Model_isBegin) k_Model_token J K (n + 1) 273 L S M = ai_const 11 275 (am_run (c_Model_token s_Model_skip s_Model_peek s_Model_isByte s_Model_string s_Model_isDigit s_Model_isBegin) k_Model_token J K n) K 273 L S M := by rfl
set_option maxRecDepth 20000 in
theorem r_Model_token_275 {s_Model_skip : aS} {s_Model_peek : aS} {s_Model_isByte : aS} {s_Model_string : aS} {s_Model_isDigit : aS} {s_Model_isBegin : aS} {J : aJ} {K : aR} {n : Nat} {L : aL} {S : List Value} {M : aM} : am_run (c_Model_token s_Model_skip s_Model_peek s_Model_isByte s_Model_string s_Model_isDigit s_Model_isBegin) k_Model_token J K (n + 1) 275 L S M = ai_iret (am_run (c_Model_token s_Model_skip s_Model_peek s_Model_isByte s_Model_string s_Model_isDigit s_Model_isBegin) k_Model_token J K n) K 275 L S M := by rfl
def c_Model_string (s_Model_peek : aS) : List (Nat × aI) := [
  (0, ai_const 1 1),
  (1, ai_istore 1 2),
  (2, ai_const 0 3),
  (3, ai_istore 2 4),
  (4, ai_aload 0 5),
  (5, ai_iload 1 6),
  (6, ai_callv2 7 s_Model_peek 9),
  (9, ai_const 34 11),
  (11, ai_cmpeq 85 14),
  (14, ai_aload 0 15),
  (15, ai_iload 1 16),
  (16, ai_callv2 7 s_Model_peek 19),
  (19, ai_istore 3 20),
  (20, ai_iload 3 21),
  (21, ai_const 32 23),
  (23, ai_cmplt 38 26),
  (26, ai_iload 3 27),
  (27, ai_const 126 29),
  (29, ai_cmpgt 38 32),
  (32, ai_iload 2 33),
  (33, ai_const 20 35),
  (35, ai_cmpne 41 38),
  (38, ai_const 11 40),
  (40, ai_iret),
  (41, ai_iload 3 42),
  (42, ai_const 92 44),
  (44, ai_cmpne 74 47),
  (47, ai_iload 1 48),
  (48, ai_const 1 49),
  (49, ai_iadd 50),
  (50, ai_istore 1 51),
  (51, ai_aload 0 52),
  (52, ai_iload 1 53),
  (53, ai_callv2 7 s_Model_peek 56),
  (56, ai_const 34 58),
  (58, ai_cmpeq 74 61),
  (61, ai_aload 0 62),
  (62, ai_iload 1 63),
  (63, ai_callv2 7 s_Model_peek 66),
  (66, ai_const 92 68),
  (68, ai_cmpeq 74 71),
  (71, ai_const 11 73),
  (73, ai_iret),
  (74, ai_iload 1 75),
  (75, ai_const 1 76),
  (76, ai_iadd 77),
  (77, ai_istore 1 78),
  (78, ai_iload 2 79),
  (79, ai_const 1 80),
  (80, ai_iadd 81),
  (81, ai_istore 2 82),
  (82, ai_goto 4),
  (85, ai_aload 0 86),
  (86, ai_aload 0 87),
  (87, ai_getf 7 2 90),
  (90, ai_iload 1 91),
  (91, ai_iadd 92),
  (92, ai_const 1 93),
  (93, ai_iadd 94),
  (94, ai_putf 7 2 97),
  (97, ai_const 3 98),
  (98, ai_iret)]
set_option maxRecDepth 100000 in
set_option maxHeartbeats 4000000 in
theorem tb_Model_string {G : aG} {d : Nat} {s_Model_peek : aS} {d_Model_peek : Nat} (h_Model_peek : am_Sp G Y_Model_peek d_Model_peek s_Model_peek) (l_Model_peek : d_Model_peek < d) : am_tab G Y_Model_string d (c_Model_string s_Model_peek) := by
  intro K p e s m args below meth c C
  exact ⟨as_iconst C (pc := 0) (n := 1) (by decide +kernel) (by decide +kernel) rfl,
    as_istore_n C (pc := 1) (q := 1) (by decide +kernel) rfl (by decide) rfl,
    as_iconst C (pc := 2) (n := 0) (by decide +kernel) (by decide +kernel) rfl,
    as_istore_n C (pc := 3) (q := 2) (by decide +kernel) rfl (by decide) rfl,
    as_aload_n C (pc := 4) (q := 0) (by decide +kernel) rfl rfl,
    as_iload_n C (pc := 5) (q := 1) (by decide +kernel) rfl rfl,
    as_callv2 C (pc := 6) h_Model_peek (T := T_Model) (N := 21) rfl w_600 w_78 w_599 w_52 w_597 hy_Model_peek (am_rm_of l_Model_peek (by decide)) (by decide +kernel) rfl,
    as_bipush C (pc := 9) (n := 34) (by decide +kernel) (by decide +kernel) rfl,
    as_cmpeq C (pc := 11) (off := 74) (by decide +kernel) (by decide) rfl,
    as_aload_n C (pc := 14) (q := 0) (by decide +kernel) rfl rfl,
    as_iload_n C (pc := 15) (q := 1) (by decide +kernel) rfl rfl,
    as_callv2 C (pc := 16) h_Model_peek (T := T_Model) (N := 21) rfl w_600 w_78 w_599 w_52 w_597 hy_Model_peek (am_rm_of l_Model_peek (by decide)) (by decide +kernel) rfl,
    as_istore_n C (pc := 19) (q := 3) (by decide +kernel) rfl (by decide) rfl,
    as_iload_n C (pc := 20) (q := 3) (by decide +kernel) rfl rfl,
    as_bipush C (pc := 21) (n := 32) (by decide +kernel) (by decide +kernel) rfl,
    as_cmplt C (pc := 23) (off := 15) (by decide +kernel) (by decide) rfl,
    as_iload_n C (pc := 26) (q := 3) (by decide +kernel) rfl rfl,
    as_bipush C (pc := 27) (n := 126) (by decide +kernel) (by decide +kernel) rfl,
    as_cmpgt C (pc := 29) (off := 9) (by decide +kernel) (by decide) rfl,
    as_iload_n C (pc := 32) (q := 2) (by decide +kernel) rfl rfl,
    as_bipush C (pc := 33) (n := 20) (by decide +kernel) (by decide +kernel) rfl,
    as_cmpne C (pc := 35) (off := 6) (by decide +kernel) (by decide) rfl,
    as_bipush C (pc := 38) (n := 11) (by decide +kernel) (by decide +kernel) rfl,
    as_iret C (pc := 40) rfl (by decide +kernel),
    as_iload_n C (pc := 41) (q := 3) (by decide +kernel) rfl rfl,
    as_bipush C (pc := 42) (n := 92) (by decide +kernel) (by decide +kernel) rfl,
    as_cmpne C (pc := 44) (off := 30) (by decide +kernel) (by decide) rfl,
    as_iload_n C (pc := 47) (q := 1) (by decide +kernel) rfl rfl,
    as_iconst C (pc := 48) (n := 1) (by decide +kernel) (by decide +kernel) rfl,
    as_iadd C (pc := 49) (by decide +kernel) rfl,
    as_istore_n C (pc := 50) (q := 1) (by decide +kernel) rfl (by decide) rfl,
    as_aload_n C (pc := 51) (q := 0) (by decide +kernel) rfl rfl,
    as_iload_n C (pc := 52) (q := 1) (by decide +kernel) rfl rfl,
    as_callv2 C (pc := 53) h_Model_peek (T := T_Model) (N := 21) rfl w_600 w_78 w_599 w_52 w_597 hy_Model_peek (am_rm_of l_Model_peek (by decide)) (by decide +kernel) rfl,
    as_bipush C (pc := 56) (n := 34) (by decide +kernel) (by decide +kernel) rfl,
    as_cmpeq C (pc := 58) (off := 16) (by decide +kernel) (by decide) rfl,
    as_aload_n C (pc := 61) (q := 0) (by decide +kernel) rfl rfl,
    as_iload_n C (pc := 62) (q := 1) (by decide +kernel) rfl rfl,
    as_callv2 C (pc := 63) h_Model_peek (T := T_Model) (N := 21) rfl w_600 w_78 w_599 w_52 w_597 hy_Model_peek (am_rm_of l_Model_peek (by decide)) (by decide +kernel) rfl,
    as_bipush C (pc := 66) (n := 92) (by decide +kernel) (by decide +kernel) rfl,
    as_cmpeq C (pc := 68) (off := 6) (by decide +kernel) (by decide) rfl,
    as_bipush C (pc := 71) (n := 11) (by decide +kernel) (by decide +kernel) rfl,
    as_iret C (pc := 73) rfl (by decide +kernel),
    as_iload_n C (pc := 74) (q := 1) (by decide +kernel) rfl rfl,
    as_iconst C (pc := 75) (n := 1) (by decide +kernel) (by decide +kernel) rfl,
    as_iadd C (pc := 76) (by decide +kernel) rfl,
    as_istore_n C (pc := 77) (q := 1) (by decide +kernel) rfl (by decide) rfl,
    as_iload_n C (pc := 78) (q := 2) (by decide +kernel) rfl rfl,
    as_iconst C (pc := 79) (n := 1) (by decide +kernel) (by decide +kernel) rfl,
    as_iadd C (pc := 80) (by decide +kernel) rfl,
    as_istore_n C (pc := 81) (q := 2) (by decide +kernel) rfl (by decide) rfl,
    as_goto C (pc := 82) (off := (-78)) (by decide +kernel) (by decide),
    as_aload_n C (pc := 85) (q := 0) (by decide +kernel) rfl rfl,
    as_aload_n C (pc := 86) (q := 0) (by decide +kernel) rfl rfl,
    as_getf C (pc := 87) (T := T_Model) (N := 21) rfl in_Model (by decide) rfl w_519 (by decide +kernel) rfl,
    as_iload_n C (pc := 90) (q := 1) (by decide +kernel) rfl rfl,
    as_iadd C (pc := 91) (by decide +kernel) rfl,
    as_iconst C (pc := 92) (n := 1) (by decide +kernel) (by decide +kernel) rfl,
    as_iadd C (pc := 93) (by decide +kernel) rfl,
    as_putf C (pc := 94) t_Model (T := T_Model) (N := 21) rfl in_Model tok_Model nm_Model (by decide) rfl rfl (by decide +kernel) w_519 (by decide +kernel) rfl,
    as_iconst C (pc := 97) (n := 3) (by decide +kernel) (by decide +kernel) rfl,
    as_iret C (pc := 98) rfl (by decide +kernel), trivial⟩
abbrev k_Model_string : List Nat := [4]
set_option maxRecDepth 20000 in
theorem q_Model_string_4 {s_Model_peek : aS} : am_at (c_Model_string s_Model_peek) 4 = ai_aload 0 5 := by rfl
set_option maxRecDepth 20000 in
theorem r_Model_string_0 {s_Model_peek : aS} {J : aJ} {K : aR} {n : Nat} {L : aL} {S : List Value} {M : aM} : am_run (c_Model_string s_Model_peek) k_Model_string J K (n + 1) 0 L S M = ai_const 1 1 (am_run (c_Model_string s_Model_peek) k_Model_string J K n) K 0 L S M := by rfl
set_option maxRecDepth 20000 in
theorem r_Model_string_1 {s_Model_peek : aS} {J : aJ} {K : aR} {n : Nat} {L : aL} {S : List Value} {M : aM} : am_run (c_Model_string s_Model_peek) k_Model_string J K (n + 1) 1 L S M = ai_istore 1 2 (am_run (c_Model_string s_Model_peek) k_Model_string J K n) K 1 L S M := by rfl
set_option maxRecDepth 20000 in
theorem r_Model_string_2 {s_Model_peek : aS} {J : aJ} {K : aR} {n : Nat} {L : aL} {S : List Value} {M : aM} : am_run (c_Model_string s_Model_peek) k_Model_string J K (n + 1) 2 L S M = ai_const 0 3 (am_run (c_Model_string s_Model_peek) k_Model_string J K n) K 2 L S M := by rfl
set_option maxRecDepth 20000 in
theorem r_Model_string_3 {s_Model_peek : aS} {J : aJ} {K : aR} {n : Nat} {L : aL} {S : List Value} {M : aM} : am_run (c_Model_string s_Model_peek) k_Model_string J K (n + 1) 3 L S M = ai_istore 2 4 (am_run (c_Model_string s_Model_peek) k_Model_string J K n) K 3 L S M := by rfl
set_option maxRecDepth 20000 in
theorem r_Model_string_4 {s_Model_peek : aS} {J : aJ} {K : aR} {n : Nat} {L : aL} {S : List Value} {M : aM} : am_run (c_Model_string s_Model_peek) k_Model_string J K (n + 1) 4 L S M = J 4 L S M := by rfl
set_option maxRecDepth 20000 in
theorem r_Model_string_5 {s_Model_peek : aS} {J : aJ} {K : aR} {n : Nat} {L : aL} {S : List Value} {M : aM} : am_run (c_Model_string s_Model_peek) k_Model_string J K (n + 1) 5 L S M = ai_iload 1 6 (am_run (c_Model_string s_Model_peek) k_Model_string J K n) K 5 L S M := by rfl
set_option maxRecDepth 20000 in
theorem r_Model_string_6 {s_Model_peek : aS} {J : aJ} {K : aR} {n : Nat} {L : aL} {S : List Value} {M : aM} : am_run (c_Model_string s_Model_peek) k_Model_string J K (n + 1) 6 L S M = ai_callv2 7 s_Model_peek 9 (am_run (c_Model_string s_Model_peek) k_Model_string J K n) K 6 L S M := by rfl
set_option maxRecDepth 20000 in
theorem r_Model_string_9 {s_Model_peek : aS} {J : aJ} {K : aR} {n : Nat} {L : aL} {S : List Value} {M : aM} : am_run (c_Model_string s_Model_peek) k_Model_string J K (n + 1) 9 L S M = ai_const 34 11 (am_run (c_Model_string s_Model_peek) k_Model_string J K n) K 9 L S M := by rfl
set_option maxRecDepth 20000 in
theorem r_Model_string_11 {s_Model_peek : aS} {J : aJ} {K : aR} {n : Nat} {L : aL} {S : List Value} {M : aM} : am_run (c_Model_string s_Model_peek) k_Model_string J K (n + 1) 11 L S M = ai_cmpeq 85 14 (am_run (c_Model_string s_Model_peek) k_Model_string J K n) K 11 L S M := by rfl
set_option maxRecDepth 20000 in
theorem r_Model_string_14 {s_Model_peek : aS} {J : aJ} {K : aR} {n : Nat} {L : aL} {S : List Value} {M : aM} : am_run (c_Model_string s_Model_peek) k_Model_string J K (n + 1) 14 L S M = ai_aload 0 15 (am_run (c_Model_string s_Model_peek) k_Model_string J K n) K 14 L S M := by rfl
set_option maxRecDepth 20000 in
theorem r_Model_string_15 {s_Model_peek : aS} {J : aJ} {K : aR} {n : Nat} {L : aL} {S : List Value} {M : aM} : am_run (c_Model_string s_Model_peek) k_Model_string J K (n + 1) 15 L S M = ai_iload 1 16 (am_run (c_Model_string s_Model_peek) k_Model_string J K n) K 15 L S M := by rfl
set_option maxRecDepth 20000 in
theorem r_Model_string_16 {s_Model_peek : aS} {J : aJ} {K : aR} {n : Nat} {L : aL} {S : List Value} {M : aM} : am_run (c_Model_string s_Model_peek) k_Model_string J K (n + 1) 16 L S M = ai_callv2 7 s_Model_peek 19 (am_run (c_Model_string s_Model_peek) k_Model_string J K n) K 16 L S M := by rfl
set_option maxRecDepth 20000 in
theorem r_Model_string_19 {s_Model_peek : aS} {J : aJ} {K : aR} {n : Nat} {L : aL} {S : List Value} {M : aM} : am_run (c_Model_string s_Model_peek) k_Model_string J K (n + 1) 19 L S M = ai_istore 3 20 (am_run (c_Model_string s_Model_peek) k_Model_string J K n) K 19 L S M := by rfl
set_option maxRecDepth 20000 in
theorem r_Model_string_20 {s_Model_peek : aS} {J : aJ} {K : aR} {n : Nat} {L : aL} {S : List Value} {M : aM} : am_run (c_Model_string s_Model_peek) k_Model_string J K (n + 1) 20 L S M = ai_iload 3 21 (am_run (c_Model_string s_Model_peek) k_Model_string J K n) K 20 L S M := by rfl
set_option maxRecDepth 20000 in
theorem r_Model_string_21 {s_Model_peek : aS} {J : aJ} {K : aR} {n : Nat} {L : aL} {S : List Value} {M : aM} : am_run (c_Model_string s_Model_peek) k_Model_string J K (n + 1) 21 L S M = ai_const 32 23 (am_run (c_Model_string s_Model_peek) k_Model_string J K n) K 21 L S M := by rfl
set_option maxRecDepth 20000 in
theorem r_Model_string_23 {s_Model_peek : aS} {J : aJ} {K : aR} {n : Nat} {L : aL} {S : List Value} {M : aM} : am_run (c_Model_string s_Model_peek) k_Model_string J K (n + 1) 23 L S M = ai_cmplt 38 26 (am_run (c_Model_string s_Model_peek) k_Model_string J K n) K 23 L S M := by rfl
set_option maxRecDepth 20000 in
theorem r_Model_string_26 {s_Model_peek : aS} {J : aJ} {K : aR} {n : Nat} {L : aL} {S : List Value} {M : aM} : am_run (c_Model_string s_Model_peek) k_Model_string J K (n + 1) 26 L S M = ai_iload 3 27 (am_run (c_Model_string s_Model_peek) k_Model_string J K n) K 26 L S M := by rfl
set_option maxRecDepth 20000 in
theorem r_Model_string_27 {s_Model_peek : aS} {J : aJ} {K : aR} {n : Nat} {L : aL} {S : List Value} {M : aM} : am_run (c_Model_string s_Model_peek) k_Model_string J K (n + 1) 27 L S M = ai_const 126 29 (am_run (c_Model_string s_Model_peek) k_Model_string J K n) K 27 L S M := by rfl
set_option maxRecDepth 20000 in
theorem r_Model_string_29 {s_Model_peek : aS} {J : aJ} {K : aR} {n : Nat} {L : aL} {S : List Value} {M : aM} : am_run (c_Model_string s_Model_peek) k_Model_string J K (n + 1) 29 L S M = ai_cmpgt 38 32 (am_run (c_Model_string s_Model_peek) k_Model_string J K n) K 29 L S M := by rfl
set_option maxRecDepth 20000 in
theorem r_Model_string_32 {s_Model_peek : aS} {J : aJ} {K : aR} {n : Nat} {L : aL} {S : List Value} {M : aM} : am_run (c_Model_string s_Model_peek) k_Model_string J K (n + 1) 32 L S M = ai_iload 2 33 (am_run (c_Model_string s_Model_peek) k_Model_string J K n) K 32 L S M := by rfl
set_option maxRecDepth 20000 in
theorem r_Model_string_33 {s_Model_peek : aS} {J : aJ} {K : aR} {n : Nat} {L : aL} {S : List Value} {M : aM} : am_run (c_Model_string s_Model_peek) k_Model_string J K (n + 1) 33 L S M = ai_const 20 35 (am_run (c_Model_string s_Model_peek) k_Model_string J K n) K 33 L S M := by rfl
set_option maxRecDepth 20000 in
theorem r_Model_string_35 {s_Model_peek : aS} {J : aJ} {K : aR} {n : Nat} {L : aL} {S : List Value} {M : aM} : am_run (c_Model_string s_Model_peek) k_Model_string J K (n + 1) 35 L S M = ai_cmpne 41 38 (am_run (c_Model_string s_Model_peek) k_Model_string J K n) K 35 L S M := by rfl
set_option maxRecDepth 20000 in
theorem r_Model_string_38 {s_Model_peek : aS} {J : aJ} {K : aR} {n : Nat} {L : aL} {S : List Value} {M : aM} : am_run (c_Model_string s_Model_peek) k_Model_string J K (n + 1) 38 L S M = ai_const 11 40 (am_run (c_Model_string s_Model_peek) k_Model_string J K n) K 38 L S M := by rfl
set_option maxRecDepth 20000 in
theorem r_Model_string_40 {s_Model_peek : aS} {J : aJ} {K : aR} {n : Nat} {L : aL} {S : List Value} {M : aM} : am_run (c_Model_string s_Model_peek) k_Model_string J K (n + 1) 40 L S M = ai_iret (am_run (c_Model_string s_Model_peek) k_Model_string J K n) K 40 L S M := by rfl
set_option maxRecDepth 20000 in
theorem r_Model_string_41 {s_Model_peek : aS} {J : aJ} {K : aR} {n : Nat} {L : aL} {S : List Value} {M : aM} : am_run (c_Model_string s_Model_peek) k_Model_string J K (n + 1) 41 L S M = ai_iload 3 42 (am_run (c_Model_string s_Model_peek) k_Model_string J K n) K 41 L S M := by rfl
set_option maxRecDepth 20000 in
theorem r_Model_string_42 {s_Model_peek : aS} {J : aJ} {K : aR} {n : Nat} {L : aL} {S : List Value} {M : aM} : am_run (c_Model_string s_Model_peek) k_Model_string J K (n + 1) 42 L S M = ai_const 92 44 (am_run (c_Model_string s_Model_peek) k_Model_string J K n) K 42 L S M := by rfl
set_option maxRecDepth 20000 in
theorem r_Model_string_44 {s_Model_peek : aS} {J : aJ} {K : aR} {n : Nat} {L : aL} {S : List Value} {M : aM} : am_run (c_Model_string s_Model_peek) k_Model_string J K (n + 1) 44 L S M = ai_cmpne 74 47 (am_run (c_Model_string s_Model_peek) k_Model_string J K n) K 44 L S M := by rfl
set_option maxRecDepth 20000 in
theorem r_Model_string_47 {s_Model_peek : aS} {J : aJ} {K : aR} {n : Nat} {L : aL} {S : List Value} {M : aM} : am_run (c_Model_string s_Model_peek) k_Model_string J K (n + 1) 47 L S M = ai_iload 1 48 (am_run (c_Model_string s_Model_peek) k_Model_string J K n) K 47 L S M := by rfl
set_option maxRecDepth 20000 in
theorem r_Model_string_48 {s_Model_peek : aS} {J : aJ} {K : aR} {n : Nat} {L : aL} {S : List Value} {M : aM} : am_run (c_Model_string s_Model_peek) k_Model_string J K (n + 1) 48 L S M = ai_const 1 49 (am_run (c_Model_string s_Model_peek) k_Model_string J K n) K 48 L S M := by rfl
set_option maxRecDepth 20000 in
theorem r_Model_string_49 {s_Model_peek : aS} {J : aJ} {K : aR} {n : Nat} {L : aL} {S : List Value} {M : aM} : am_run (c_Model_string s_Model_peek) k_Model_string J K (n + 1) 49 L S M = ai_iadd 50 (am_run (c_Model_string s_Model_peek) k_Model_string J K n) K 49 L S M := by rfl
set_option maxRecDepth 20000 in
theorem r_Model_string_50 {s_Model_peek : aS} {J : aJ} {K : aR} {n : Nat} {L : aL} {S : List Value} {M : aM} : am_run (c_Model_string s_Model_peek) k_Model_string J K (n + 1) 50 L S M = ai_istore 1 51 (am_run (c_Model_string s_Model_peek) k_Model_string J K n) K 50 L S M := by rfl
set_option maxRecDepth 20000 in
theorem r_Model_string_51 {s_Model_peek : aS} {J : aJ} {K : aR} {n : Nat} {L : aL} {S : List Value} {M : aM} : am_run (c_Model_string s_Model_peek) k_Model_string J K (n + 1) 51 L S M = ai_aload 0 52 (am_run (c_Model_string s_Model_peek) k_Model_string J K n) K 51 L S M := by rfl
set_option maxRecDepth 20000 in
theorem r_Model_string_52 {s_Model_peek : aS} {J : aJ} {K : aR} {n : Nat} {L : aL} {S : List Value} {M : aM} : am_run (c_Model_string s_Model_peek) k_Model_string J K (n + 1) 52 L S M = ai_iload 1 53 (am_run (c_Model_string s_Model_peek) k_Model_string J K n) K 52 L S M := by rfl
set_option maxRecDepth 20000 in
theorem r_Model_string_53 {s_Model_peek : aS} {J : aJ} {K : aR} {n : Nat} {L : aL} {S : List Value} {M : aM} : am_run (c_Model_string s_Model_peek) k_Model_string J K (n + 1) 53 L S M = ai_callv2 7 s_Model_peek 56 (am_run (c_Model_string s_Model_peek) k_Model_string J K n) K 53 L S M := by rfl
set_option maxRecDepth 20000 in
theorem r_Model_string_56 {s_Model_peek : aS} {J : aJ} {K : aR} {n : Nat} {L : aL} {S : List Value} {M : aM} : am_run (c_Model_string s_Model_peek) k_Model_string J K (n + 1) 56 L S M = ai_const 34 58 (am_run (c_Model_string s_Model_peek) k_Model_string J K n) K 56 L S M := by rfl
set_option maxRecDepth 20000 in
theorem r_Model_string_58 {s_Model_peek : aS} {J : aJ} {K : aR} {n : Nat} {L : aL} {S : List Value} {M : aM} : am_run (c_Model_string s_Model_peek) k_Model_string J K (n + 1) 58 L S M = ai_cmpeq 74 61 (am_run (c_Model_string s_Model_peek) k_Model_string J K n) K 58 L S M := by rfl
set_option maxRecDepth 20000 in
theorem r_Model_string_61 {s_Model_peek : aS} {J : aJ} {K : aR} {n : Nat} {L : aL} {S : List Value} {M : aM} : am_run (c_Model_string s_Model_peek) k_Model_string J K (n + 1) 61 L S M = ai_aload 0 62 (am_run (c_Model_string s_Model_peek) k_Model_string J K n) K 61 L S M := by rfl
set_option maxRecDepth 20000 in
theorem r_Model_string_62 {s_Model_peek : aS} {J : aJ} {K : aR} {n : Nat} {L : aL} {S : List Value} {M : aM} : am_run (c_Model_string s_Model_peek) k_Model_string J K (n + 1) 62 L S M = ai_iload 1 63 (am_run (c_Model_string s_Model_peek) k_Model_string J K n) K 62 L S M := by rfl
set_option maxRecDepth 20000 in
theorem r_Model_string_63 {s_Model_peek : aS} {J : aJ} {K : aR} {n : Nat} {L : aL} {S : List Value} {M : aM} : am_run (c_Model_string s_Model_peek) k_Model_string J K (n + 1) 63 L S M = ai_callv2 7 s_Model_peek 66 (am_run (c_Model_string s_Model_peek) k_Model_string J K n) K 63 L S M := by rfl
set_option maxRecDepth 20000 in
theorem r_Model_string_66 {s_Model_peek : aS} {J : aJ} {K : aR} {n : Nat} {L : aL} {S : List Value} {M : aM} : am_run (c_Model_string s_Model_peek) k_Model_string J K (n + 1) 66 L S M = ai_const 92 68 (am_run (c_Model_string s_Model_peek) k_Model_string J K n) K 66 L S M := by rfl
set_option maxRecDepth 20000 in
theorem r_Model_string_68 {s_Model_peek : aS} {J : aJ} {K : aR} {n : Nat} {L : aL} {S : List Value} {M : aM} : am_run (c_Model_string s_Model_peek) k_Model_string J K (n + 1) 68 L S M = ai_cmpeq 74 71 (am_run (c_Model_string s_Model_peek) k_Model_string J K n) K 68 L S M := by rfl
set_option maxRecDepth 20000 in
theorem r_Model_string_71 {s_Model_peek : aS} {J : aJ} {K : aR} {n : Nat} {L : aL} {S : List Value} {M : aM} : am_run (c_Model_string s_Model_peek) k_Model_string J K (n + 1) 71 L S M = ai_const 11 73 (am_run (c_Model_string s_Model_peek) k_Model_string J K n) K 71 L S M := by rfl
set_option maxRecDepth 20000 in
theorem r_Model_string_73 {s_Model_peek : aS} {J : aJ} {K : aR} {n : Nat} {L : aL} {S : List Value} {M : aM} : am_run (c_Model_string s_Model_peek) k_Model_string J K (n + 1) 73 L S M = ai_iret (am_run (c_Model_string s_Model_peek) k_Model_string J K n) K 73 L S M := by rfl
set_option maxRecDepth 20000 in
theorem r_Model_string_74 {s_Model_peek : aS} {J : aJ} {K : aR} {n : Nat} {L : aL} {S : List Value} {M : aM} : am_run (c_Model_string s_Model_peek) k_Model_string J K (n + 1) 74 L S M = ai_iload 1 75 (am_run (c_Model_string s_Model_peek) k_Model_string J K n) K 74 L S M := by rfl
set_option maxRecDepth 20000 in
theorem r_Model_string_75 {s_Model_peek : aS} {J : aJ} {K : aR} {n : Nat} {L : aL} {S : List Value} {M : aM} : am_run (c_Model_string s_Model_peek) k_Model_string J K (n + 1) 75 L S M = ai_const 1 76 (am_run (c_Model_string s_Model_peek) k_Model_string J K n) K 75 L S M := by rfl
set_option maxRecDepth 20000 in
theorem r_Model_string_76 {s_Model_peek : aS} {J : aJ} {K : aR} {n : Nat} {L : aL} {S : List Value} {M : aM} : am_run (c_Model_string s_Model_peek) k_Model_string J K (n + 1) 76 L S M = ai_iadd 77 (am_run (c_Model_string s_Model_peek) k_Model_string J K n) K 76 L S M := by rfl
set_option maxRecDepth 20000 in
theorem r_Model_string_77 {s_Model_peek : aS} {J : aJ} {K : aR} {n : Nat} {L : aL} {S : List Value} {M : aM} : am_run (c_Model_string s_Model_peek) k_Model_string J K (n + 1) 77 L S M = ai_istore 1 78 (am_run (c_Model_string s_Model_peek) k_Model_string J K n) K 77 L S M := by rfl
set_option maxRecDepth 20000 in
theorem r_Model_string_78 {s_Model_peek : aS} {J : aJ} {K : aR} {n : Nat} {L : aL} {S : List Value} {M : aM} : am_run (c_Model_string s_Model_peek) k_Model_string J K (n + 1) 78 L S M = ai_iload 2 79 (am_run (c_Model_string s_Model_peek) k_Model_string J K n) K 78 L S M := by rfl
set_option maxRecDepth 20000 in
theorem r_Model_string_79 {s_Model_peek : aS} {J : aJ} {K : aR} {n : Nat} {L : aL} {S : List Value} {M : aM} : am_run (c_Model_string s_Model_peek) k_Model_string J K (n + 1) 79 L S M = ai_const 1 80 (am_run (c_Model_string s_Model_peek) k_Model_string J K n) K 79 L S M := by rfl
set_option maxRecDepth 20000 in
theorem r_Model_string_80 {s_Model_peek : aS} {J : aJ} {K : aR} {n : Nat} {L : aL} {S : List Value} {M : aM} : am_run (c_Model_string s_Model_peek) k_Model_string J K (n + 1) 80 L S M = ai_iadd 81 (am_run (c_Model_string s_Model_peek) k_Model_string J K n) K 80 L S M := by rfl
set_option maxRecDepth 20000 in
theorem r_Model_string_81 {s_Model_peek : aS} {J : aJ} {K : aR} {n : Nat} {L : aL} {S : List Value} {M : aM} : am_run (c_Model_string s_Model_peek) k_Model_string J K (n + 1) 81 L S M = ai_istore 2 82 (am_run (c_Model_string s_Model_peek) k_Model_string J K n) K 81 L S M := by rfl
set_option maxRecDepth 20000 in
theorem r_Model_string_82 {s_Model_peek : aS} {J : aJ} {K : aR} {n : Nat} {L : aL} {S : List Value} {M : aM} : am_run (c_Model_string s_Model_peek) k_Model_string J K (n + 1) 82 L S M = ai_goto 4 (am_run (c_Model_string s_Model_peek) k_Model_string J K n) K 82 L S M := by rfl
set_option maxRecDepth 20000 in
theorem r_Model_string_85 {s_Model_peek : aS} {J : aJ} {K : aR} {n : Nat} {L : aL} {S : List Value} {M : aM} : am_run (c_Model_string s_Model_peek) k_Model_string J K (n + 1) 85 L S M = ai_aload 0 86 (am_run (c_Model_string s_Model_peek) k_Model_string J K n) K 85 L S M := by rfl
set_option maxRecDepth 20000 in
theorem r_Model_string_86 {s_Model_peek : aS} {J : aJ} {K : aR} {n : Nat} {L : aL} {S : List Value} {M : aM} : am_run (c_Model_string s_Model_peek) k_Model_string J K (n + 1) 86 L S M = ai_aload 0 87 (am_run (c_Model_string s_Model_peek) k_Model_string J K n) K 86 L S M := by rfl
set_option maxRecDepth 20000 in
theorem r_Model_string_87 {s_Model_peek : aS} {J : aJ} {K : aR} {n : Nat} {L : aL} {S : List Value} {M : aM} : am_run (c_Model_string s_Model_peek) k_Model_string J K (n + 1) 87 L S M = ai_getf 7 2 90 (am_run (c_Model_string s_Model_peek) k_Model_string J K n) K 87 L S M := by rfl
set_option maxRecDepth 20000 in
theorem r_Model_string_90 {s_Model_peek : aS} {J : aJ} {K : aR} {n : Nat} {L : aL} {S : List Value} {M : aM} : am_run (c_Model_string s_Model_peek) k_Model_string J K (n + 1) 90 L S M = ai_iload 1 91 (am_run (c_Model_string s_Model_peek) k_Model_string J K n) K 90 L S M := by rfl
set_option maxRecDepth 20000 in
theorem r_Model_string_91 {s_Model_peek : aS} {J : aJ} {K : aR} {n : Nat} {L : aL} {S : List Value} {M : aM} : am_run (c_Model_string s_Model_peek) k_Model_string J K (n + 1) 91 L S M = ai_iadd 92 (am_run (c_Model_string s_Model_peek) k_Model_string J K n) K 91 L S M := by rfl
set_option maxRecDepth 20000 in
theorem r_Model_string_92 {s_Model_peek : aS} {J : aJ} {K : aR} {n : Nat} {L : aL} {S : List Value} {M : aM} : am_run (c_Model_string s_Model_peek) k_Model_string J K (n + 1) 92 L S M = ai_const 1 93 (am_run (c_Model_string s_Model_peek) k_Model_string J K n) K 92 L S M := by rfl
set_option maxRecDepth 20000 in
theorem r_Model_string_93 {s_Model_peek : aS} {J : aJ} {K : aR} {n : Nat} {L : aL} {S : List Value} {M : aM} : am_run (c_Model_string s_Model_peek) k_Model_string J K (n + 1) 93 L S M = ai_iadd 94 (am_run (c_Model_string s_Model_peek) k_Model_string J K n) K 93 L S M := by rfl
set_option maxRecDepth 20000 in
theorem r_Model_string_94 {s_Model_peek : aS} {J : aJ} {K : aR} {n : Nat} {L : aL} {S : List Value} {M : aM} : am_run (c_Model_string s_Model_peek) k_Model_string J K (n + 1) 94 L S M = ai_putf 7 2 97 (am_run (c_Model_string s_Model_peek) k_Model_string J K n) K 94 L S M := by rfl
set_option maxRecDepth 20000 in
theorem r_Model_string_97 {s_Model_peek : aS} {J : aJ} {K : aR} {n : Nat} {L : aL} {S : List Value} {M : aM} : am_run (c_Model_string s_Model_peek) k_Model_string J K (n + 1) 97 L S M = ai_const 3 98 (am_run (c_Model_string s_Model_peek) k_Model_string J K n) K 97 L S M := by rfl
set_option maxRecDepth 20000 in
theorem r_Model_string_98 {s_Model_peek : aS} {J : aJ} {K : aR} {n : Nat} {L : aL} {S : List Value} {M : aM} : am_run (c_Model_string s_Model_peek) k_Model_string J K (n + 1) 98 L S M = ai_iret (am_run (c_Model_string s_Model_peek) k_Model_string J K n) K 98 L S M := by rfl
def c_Model_node (s_Model_fail : aS) : List (Nat × aI) := [
  (0, ai_aload 0 1),
  (1, ai_getf 7 5 4),
  (4, ai_const 200 7),
  (7, ai_cmpne 20 10),
  (10, ai_aload 0 11),
  (11, ai_aload 0 12),
  (12, ai_getf 7 3 15),
  (15, ai_callv2 7 s_Model_fail 18),
  (18, ai_const 0 19),
  (19, ai_iret),
  (20, ai_aload 0 21),
  (21, ai_getf 7 6 24),
  (24, ai_aload 0 25),
  (25, ai_getf 7 5 28),
  (28, ai_iload 1 29),
  (29, ai_iast 30),
  (30, ai_aload 0 31),
  (31, ai_getf 7 7 34),
  (34, ai_aload 0 35),
  (35, ai_getf 7 5 38),
  (38, ai_const 0 39),
  (39, ai_iast 40),
  (40, ai_aload 0 41),
  (41, ai_getf 7 9 44),
  (44, ai_aload 0 45),
  (45, ai_getf 7 5 48),
  (48, ai_const (-1) 49),
  (49, ai_iast 50),
  (50, ai_aload 0 51),
  (51, ai_getf 7 10 54),
  (54, ai_aload 0 55),
  (55, ai_getf 7 5 58),
  (58, ai_const (-1) 59),
  (59, ai_iast 60),
  (60, ai_aload 0 61),
  (61, ai_aload 0 62),
  (62, ai_getf 7 5 65),
  (65, ai_const 1 66),
  (66, ai_iadd 67),
  (67, ai_putf 7 5 70),
  (70, ai_aload 0 71),
  (71, ai_getf 7 5 74),
  (74, ai_const 1 75),
  (75, ai_isub 76),
  (76, ai_iret)]
set_option maxRecDepth 100000 in
set_option maxHeartbeats 4000000 in
theorem tb_Model_node {G : aG} {d : Nat} {s_Model_fail : aS} {d_Model_fail : Nat} (h_Model_fail : am_Sp G Y_Model_fail d_Model_fail s_Model_fail) (l_Model_fail : d_Model_fail < d) : am_tab G Y_Model_node d (c_Model_node s_Model_fail) := by
  intro K p e s m args below meth c C
  exact ⟨as_aload_n C (pc := 0) (q := 0) (by decide +kernel) rfl rfl,
    as_getf C (pc := 1) (T := T_Model) (N := 21) rfl in_Model (by decide) rfl w_522 (by decide +kernel) rfl,
    as_sipush C (pc := 4) (n := 200) (by decide +kernel) (by decide +kernel) rfl,
    as_cmpne C (pc := 7) (off := 13) (by decide +kernel) (by decide) rfl,
    as_aload_n C (pc := 10) (q := 0) (by decide +kernel) rfl rfl,
    as_aload_n C (pc := 11) (q := 0) (by decide +kernel) rfl rfl,
    as_getf C (pc := 12) (T := T_Model) (N := 21) rfl in_Model (by decide) rfl w_520 (by decide +kernel) rfl,
    as_callv2 C (pc := 15) h_Model_fail (T := T_Model) (N := 21) rfl w_617 w_78 w_616 w_54 w_614 hy_Model_fail (am_rm_of l_Model_fail (by decide)) (by decide +kernel) rfl,
    as_iconst C (pc := 18) (n := 0) (by decide +kernel) (by decide +kernel) rfl,
    as_iret C (pc := 19) rfl (by decide +kernel),
    as_aload_n C (pc := 20) (q := 0) (by decide +kernel) rfl rfl,
    as_getf C (pc := 21) (T := T_Model) (N := 21) rfl in_Model (by decide) rfl w_523 (by decide +kernel) rfl,
    as_aload_n C (pc := 24) (q := 0) (by decide +kernel) rfl rfl,
    as_getf C (pc := 25) (T := T_Model) (N := 21) rfl in_Model (by decide) rfl w_522 (by decide +kernel) rfl,
    as_iload_n C (pc := 28) (q := 1) (by decide +kernel) rfl rfl,
    as_iast C (pc := 29) (by decide +kernel) rfl,
    as_aload_n C (pc := 30) (q := 0) (by decide +kernel) rfl rfl,
    as_getf C (pc := 31) (T := T_Model) (N := 21) rfl in_Model (by decide) rfl w_524 (by decide +kernel) rfl,
    as_aload_n C (pc := 34) (q := 0) (by decide +kernel) rfl rfl,
    as_getf C (pc := 35) (T := T_Model) (N := 21) rfl in_Model (by decide) rfl w_522 (by decide +kernel) rfl,
    as_iconst C (pc := 38) (n := 0) (by decide +kernel) (by decide +kernel) rfl,
    as_iast C (pc := 39) (by decide +kernel) rfl,
    as_aload_n C (pc := 40) (q := 0) (by decide +kernel) rfl rfl,
    as_getf C (pc := 41) (T := T_Model) (N := 21) rfl in_Model (by decide) rfl w_526 (by decide +kernel) rfl,
    as_aload_n C (pc := 44) (q := 0) (by decide +kernel) rfl rfl,
    as_getf C (pc := 45) (T := T_Model) (N := 21) rfl in_Model (by decide) rfl w_522 (by decide +kernel) rfl,
    as_iconst C (pc := 48) (n := (-1)) (by decide +kernel) (by decide +kernel) rfl,
    as_iast C (pc := 49) (by decide +kernel) rfl,
    as_aload_n C (pc := 50) (q := 0) (by decide +kernel) rfl rfl,
    as_getf C (pc := 51) (T := T_Model) (N := 21) rfl in_Model (by decide) rfl w_527 (by decide +kernel) rfl,
    as_aload_n C (pc := 54) (q := 0) (by decide +kernel) rfl rfl,
    as_getf C (pc := 55) (T := T_Model) (N := 21) rfl in_Model (by decide) rfl w_522 (by decide +kernel) rfl,
    as_iconst C (pc := 58) (n := (-1)) (by decide +kernel) (by decide +kernel) rfl,
    as_iast C (pc := 59) (by decide +kernel) rfl,
    as_aload_n C (pc := 60) (q := 0) (by decide +kernel) rfl rfl,
    as_aload_n C (pc := 61) (q := 0) (by decide +kernel) rfl rfl,
    as_getf C (pc := 62) (T := T_Model) (N := 21) rfl in_Model (by decide) rfl w_522 (by decide +kernel) rfl,
    as_iconst C (pc := 65) (n := 1) (by decide +kernel) (by decide +kernel) rfl,
    as_iadd C (pc := 66) (by decide +kernel) rfl,
    as_putf C (pc := 67) t_Model (T := T_Model) (N := 21) rfl in_Model tok_Model nm_Model (by decide) rfl rfl (by decide +kernel) w_522 (by decide +kernel) rfl,
    as_aload_n C (pc := 70) (q := 0) (by decide +kernel) rfl rfl,
    as_getf C (pc := 71) (T := T_Model) (N := 21) rfl in_Model (by decide) rfl w_522 (by decide +kernel) rfl,
    as_iconst C (pc := 74) (n := 1) (by decide +kernel) (by decide +kernel) rfl,
    as_isub C (pc := 75) (by decide +kernel) rfl,
    as_iret C (pc := 76) rfl (by decide +kernel), trivial⟩
abbrev k_Model_node : List Nat := []
theorem r_Model_node_0 {s_Model_fail : aS} {J : aJ} {K : aR} {n : Nat} {L : aL} {S : List Value} {M : aM} : am_run (c_Model_node s_Model_fail) k_Model_node J K (n + 1) 0 L S M = ai_aload 0 1 (am_run (c_Model_node s_Model_fail) k_Model_node J K n) K 0 L S M := by rfl
theorem r_Model_node_1 {s_Model_fail : aS} {J : aJ} {K : aR} {n : Nat} {L : aL} {S : List Value} {M : aM} : am_run (c_Model_node s_Model_fail) k_Model_node J K (n + 1) 1 L S M = ai_getf 7 5 4 (am_run (c_Model_node s_Model_fail) k_Model_node J K n) K 1 L S M := by rfl
theorem r_Model_node_4 {s_Model_fail : aS} {J : aJ} {K : aR} {n : Nat} {L : aL} {S : List Value} {M : aM} : am_run (c_Model_node s_Model_fail) k_Model_node J K (n + 1) 4 L S M = ai_const 200 7 (am_run (c_Model_node s_Model_fail) k_Model_node J K n) K 4 L S M := by rfl
theorem r_Model_node_7 {s_Model_fail : aS} {J : aJ} {K : aR} {n : Nat} {L : aL} {S : List Value} {M : aM} : am_run (c_Model_node s_Model_fail) k_Model_node J K (n + 1) 7 L S M = ai_cmpne 20 10 (am_run (c_Model_node s_Model_fail) k_Model_node J K n) K 7 L S M := by rfl
theorem r_Model_node_10 {s_Model_fail : aS} {J : aJ} {K : aR} {n : Nat} {L : aL} {S : List Value} {M : aM} : am_run (c_Model_node s_Model_fail) k_Model_node J K (n + 1) 10 L S M = ai_aload 0 11 (am_run (c_Model_node s_Model_fail) k_Model_node J K n) K 10 L S M := by rfl
theorem r_Model_node_11 {s_Model_fail : aS} {J : aJ} {K : aR} {n : Nat} {L : aL} {S : List Value} {M : aM} : am_run (c_Model_node s_Model_fail) k_Model_node J K (n + 1) 11 L S M = ai_aload 0 12 (am_run (c_Model_node s_Model_fail) k_Model_node J K n) K 11 L S M := by rfl
theorem r_Model_node_12 {s_Model_fail : aS} {J : aJ} {K : aR} {n : Nat} {L : aL} {S : List Value} {M : aM} : am_run (c_Model_node s_Model_fail) k_Model_node J K (n + 1) 12 L S M = ai_getf 7 3 15 (am_run (c_Model_node s_Model_fail) k_Model_node J K n) K 12 L S M := by rfl
theorem r_Model_node_15 {s_Model_fail : aS} {J : aJ} {K : aR} {n : Nat} {L : aL} {S : List Value} {M : aM} : am_run (c_Model_node s_Model_fail) k_Model_node J K (n + 1) 15 L S M = ai_callv2 7 s_Model_fail 18 (am_run (c_Model_node s_Model_fail) k_Model_node J K n) K 15 L S M := by rfl
theorem r_Model_node_18 {s_Model_fail : aS} {J : aJ} {K : aR} {n : Nat} {L : aL} {S : List Value} {M : aM} : am_run (c_Model_node s_Model_fail) k_Model_node J K (n + 1) 18 L S M = ai_const 0 19 (am_run (c_Model_node s_Model_fail) k_Model_node J K n) K 18 L S M := by rfl
theorem r_Model_node_19 {s_Model_fail : aS} {J : aJ} {K : aR} {n : Nat} {L : aL} {S : List Value} {M : aM} : am_run (c_Model_node s_Model_fail) k_Model_node J K (n + 1) 19 L S M = ai_iret (am_run (c_Model_node s_Model_fail) k_Model_node J K n) K 19 L S M := by rfl
theorem r_Model_node_20 {s_Model_fail : aS} {J : aJ} {K : aR} {n : Nat} {L : aL} {S : List Value} {M : aM} : am_run (c_Model_node s_Model_fail) k_Model_node J K (n + 1) 20 L S M = ai_aload 0 21 (am_run (c_Model_node s_Model_fail) k_Model_node J K n) K 20 L S M := by rfl
theorem r_Model_node_21 {s_Model_fail : aS} {J : aJ} {K : aR} {n : Nat} {L : aL} {S : List Value} {M : aM} : am_run (c_Model_node s_Model_fail) k_Model_node J K (n + 1) 21 L S M = ai_getf 7 6 24 (am_run (c_Model_node s_Model_fail) k_Model_node J K n) K 21 L S M := by rfl
theorem r_Model_node_24 {s_Model_fail : aS} {J : aJ} {K : aR} {n : Nat} {L : aL} {S : List Value} {M : aM} : am_run (c_Model_node s_Model_fail) k_Model_node J K (n + 1) 24 L S M = ai_aload 0 25 (am_run (c_Model_node s_Model_fail) k_Model_node J K n) K 24 L S M := by rfl
theorem r_Model_node_25 {s_Model_fail : aS} {J : aJ} {K : aR} {n : Nat} {L : aL} {S : List Value} {M : aM} : am_run (c_Model_node s_Model_fail) k_Model_node J K (n + 1) 25 L S M = ai_getf 7 5 28 (am_run (c_Model_node s_Model_fail) k_Model_node J K n) K 25 L S M := by rfl
theorem r_Model_node_28 {s_Model_fail : aS} {J : aJ} {K : aR} {n : Nat} {L : aL} {S : List Value} {M : aM} : am_run (c_Model_node s_Model_fail) k_Model_node J K (n + 1) 28 L S M = ai_iload 1 29 (am_run (c_Model_node s_Model_fail) k_Model_node J K n) K 28 L S M := by rfl
theorem r_Model_node_29 {s_Model_fail : aS} {J : aJ} {K : aR} {n : Nat} {L : aL} {S : List Value} {M : aM} : am_run (c_Model_node s_Model_fail) k_Model_node J K (n + 1) 29 L S M = ai_iast 30 (am_run (c_Model_node s_Model_fail) k_Model_node J K n) K 29 L S M := by rfl
theorem r_Model_node_30 {s_Model_fail : aS} {J : aJ} {K : aR} {n : Nat} {L : aL} {S : List Value} {M : aM} : am_run (c_Model_node s_Model_fail) k_Model_node J K (n + 1) 30 L S M = ai_aload 0 31 (am_run (c_Model_node s_Model_fail) k_Model_node J K n) K 30 L S M := by rfl
theorem r_Model_node_31 {s_Model_fail : aS} {J : aJ} {K : aR} {n : Nat} {L : aL} {S : List Value} {M : aM} : am_run (c_Model_node s_Model_fail) k_Model_node J K (n + 1) 31 L S M = ai_getf 7 7 34 (am_run (c_Model_node s_Model_fail) k_Model_node J K n) K 31 L S M := by rfl
theorem r_Model_node_34 {s_Model_fail : aS} {J : aJ} {K : aR} {n : Nat} {L : aL} {S : List Value} {M : aM} : am_run (c_Model_node s_Model_fail) k_Model_node J K (n + 1) 34 L S M = ai_aload 0 35 (am_run (c_Model_node s_Model_fail) k_Model_node J K n) K 34 L S M := by rfl
theorem r_Model_node_35 {s_Model_fail : aS} {J : aJ} {K : aR} {n : Nat} {L : aL} {S : List Value} {M : aM} : am_run (c_Model_node s_Model_fail) k_Model_node J K (n + 1) 35 L S M = ai_getf 7 5 38 (am_run (c_Model_node s_Model_fail) k_Model_node J K n) K 35 L S M := by rfl
theorem r_Model_node_38 {s_Model_fail : aS} {J : aJ} {K : aR} {n : Nat} {L : aL} {S : List Value} {M : aM} : am_run (c_Model_node s_Model_fail) k_Model_node J K (n + 1) 38 L S M = ai_const 0 39 (am_run (c_Model_node s_Model_fail) k_Model_node J K n) K 38 L S M := by rfl
theorem r_Model_node_39 {s_Model_fail : aS} {J : aJ} {K : aR} {n : Nat} {L : aL} {S : List Value} {M : aM} : am_run (c_Model_node s_Model_fail) k_Model_node J K (n + 1) 39 L S M = ai_iast 40 (am_run (c_Model_node s_Model_fail) k_Model_node J K n) K 39 L S M := by rfl
theorem r_Model_node_40 {s_Model_fail : aS} {J : aJ} {K : aR} {n : Nat} {L : aL} {S : List Value} {M : aM} : am_run (c_Model_node s_Model_fail) k_Model_node J K (n + 1) 40 L S M = ai_aload 0 41 (am_run (c_Model_node s_Model_fail) k_Model_node J K n) K 40 L S M := by rfl
theorem r_Model_node_41 {s_Model_fail : aS} {J : aJ} {K : aR} {n : Nat} {L : aL} {S : List Value} {M : aM} : am_run (c_Model_node s_Model_fail) k_Model_node J K (n + 1) 41 L S M = ai_getf 7 9 44 (am_run (c_Model_node s_Model_fail) k_Model_node J K n) K 41 L S M := by rfl
theorem r_Model_node_44 {s_Model_fail : aS} {J : aJ} {K : aR} {n : Nat} {L : aL} {S : List Value} {M : aM} : am_run (c_Model_node s_Model_fail) k_Model_node J K (n + 1) 44 L S M = ai_aload 0 45 (am_run (c_Model_node s_Model_fail) k_Model_node J K n) K 44 L S M := by rfl
theorem r_Model_node_45 {s_Model_fail : aS} {J : aJ} {K : aR} {n : Nat} {L : aL} {S : List Value} {M : aM} : am_run (c_Model_node s_Model_fail) k_Model_node J K (n + 1) 45 L S M = ai_getf 7 5 48 (am_run (c_Model_node s_Model_fail) k_Model_node J K n) K 45 L S M := by rfl
theorem r_Model_node_48 {s_Model_fail : aS} {J : aJ} {K : aR} {n : Nat} {L : aL} {S : List Value} {M : aM} : am_run (c_Model_node s_Model_fail) k_Model_node J K (n + 1) 48 L S M = ai_const (-1) 49 (am_run (c_Model_node s_Model_fail) k_Model_node J K n) K 48 L S M := by rfl
theorem r_Model_node_49 {s_Model_fail : aS} {J : aJ} {K : aR} {n : Nat} {L : aL} {S : List Value} {M : aM} : am_run (c_Model_node s_Model_fail) k_Model_node J K (n + 1) 49 L S M = ai_iast 50 (am_run (c_Model_node s_Model_fail) k_Model_node J K n) K 49 L S M := by rfl
theorem r_Model_node_50 {s_Model_fail : aS} {J : aJ} {K : aR} {n : Nat} {L : aL} {S : List Value} {M : aM} : am_run (c_Model_node s_Model_fail) k_Model_node J K (n + 1) 50 L S M = ai_aload 0 51 (am_run (c_Model_node s_Model_fail) k_Model_node J K n) K 50 L S M := by rfl
theorem r_Model_node_51 {s_Model_fail : aS} {J : aJ} {K : aR} {n : Nat} {L : aL} {S : List Value} {M : aM} : am_run (c_Model_node s_Model_fail) k_Model_node J K (n + 1) 51 L S M = ai_getf 7 10 54 (am_run (c_Model_node s_Model_fail) k_Model_node J K n) K 51 L S M := by rfl
theorem r_Model_node_54 {s_Model_fail : aS} {J : aJ} {K : aR} {n : Nat} {L : aL} {S : List Value} {M : aM} : am_run (c_Model_node s_Model_fail) k_Model_node J K (n + 1) 54 L S M = ai_aload 0 55 (am_run (c_Model_node s_Model_fail) k_Model_node J K n) K 54 L S M := by rfl
theorem r_Model_node_55 {s_Model_fail : aS} {J : aJ} {K : aR} {n : Nat} {L : aL} {S : List Value} {M : aM} : am_run (c_Model_node s_Model_fail) k_Model_node J K (n + 1) 55 L S M = ai_getf 7 5 58 (am_run (c_Model_node s_Model_fail) k_Model_node J K n) K 55 L S M := by rfl
theorem r_Model_node_58 {s_Model_fail : aS} {J : aJ} {K : aR} {n : Nat} {L : aL} {S : List Value} {M : aM} : am_run (c_Model_node s_Model_fail) k_Model_node J K (n + 1) 58 L S M = ai_const (-1) 59 (am_run (c_Model_node s_Model_fail) k_Model_node J K n) K 58 L S M := by rfl
theorem r_Model_node_59 {s_Model_fail : aS} {J : aJ} {K : aR} {n : Nat} {L : aL} {S : List Value} {M : aM} : am_run (c_Model_node s_Model_fail) k_Model_node J K (n + 1) 59 L S M = ai_iast 60 (am_run (c_Model_node s_Model_fail) k_Model_node J K n) K 59 L S M := by rfl
theorem r_Model_node_60 {s_Model_fail : aS} {J : aJ} {K : aR} {n : Nat} {L : aL} {S : List Value} {M : aM} : am_run (c_Model_node s_Model_fail) k_Model_node J K (n + 1) 60 L S M = ai_aload 0 61 (am_run (c_Model_node s_Model_fail) k_Model_node J K n) K 60 L S M := by rfl
theorem r_Model_node_61 {s_Model_fail : aS} {J : aJ} {K : aR} {n : Nat} {L : aL} {S : List Value} {M : aM} : am_run (c_Model_node s_Model_fail) k_Model_node J K (n + 1) 61 L S M = ai_aload 0 62 (am_run (c_Model_node s_Model_fail) k_Model_node J K n) K 61 L S M := by rfl
theorem r_Model_node_62 {s_Model_fail : aS} {J : aJ} {K : aR} {n : Nat} {L : aL} {S : List Value} {M : aM} : am_run (c_Model_node s_Model_fail) k_Model_node J K (n + 1) 62 L S M = ai_getf 7 5 65 (am_run (c_Model_node s_Model_fail) k_Model_node J K n) K 62 L S M := by rfl
theorem r_Model_node_65 {s_Model_fail : aS} {J : aJ} {K : aR} {n : Nat} {L : aL} {S : List Value} {M : aM} : am_run (c_Model_node s_Model_fail) k_Model_node J K (n + 1) 65 L S M = ai_const 1 66 (am_run (c_Model_node s_Model_fail) k_Model_node J K n) K 65 L S M := by rfl
theorem r_Model_node_66 {s_Model_fail : aS} {J : aJ} {K : aR} {n : Nat} {L : aL} {S : List Value} {M : aM} : am_run (c_Model_node s_Model_fail) k_Model_node J K (n + 1) 66 L S M = ai_iadd 67 (am_run (c_Model_node s_Model_fail) k_Model_node J K n) K 66 L S M := by rfl
theorem r_Model_node_67 {s_Model_fail : aS} {J : aJ} {K : aR} {n : Nat} {L : aL} {S : List Value} {M : aM} : am_run (c_Model_node s_Model_fail) k_Model_node J K (n + 1) 67 L S M = ai_putf 7 5 70 (am_run (c_Model_node s_Model_fail) k_Model_node J K n) K 67 L S M := by rfl
theorem r_Model_node_70 {s_Model_fail : aS} {J : aJ} {K : aR} {n : Nat} {L : aL} {S : List Value} {M : aM} : am_run (c_Model_node s_Model_fail) k_Model_node J K (n + 1) 70 L S M = ai_aload 0 71 (am_run (c_Model_node s_Model_fail) k_Model_node J K n) K 70 L S M := by rfl
theorem r_Model_node_71 {s_Model_fail : aS} {J : aJ} {K : aR} {n : Nat} {L : aL} {S : List Value} {M : aM} : am_run (c_Model_node s_Model_fail) k_Model_node J K (n + 1) 71 L S M = ai_getf 7 5 74 (am_run (c_Model_node s_Model_fail) k_Model_node J K n) K 71 L S M := by rfl
theorem r_Model_node_74 {s_Model_fail : aS} {J : aJ} {K : aR} {n : Nat} {L : aL} {S : List Value} {M : aM} : am_run (c_Model_node s_Model_fail) k_Model_node J K (n + 1) 74 L S M = ai_const 1 75 (am_run (c_Model_node s_Model_fail) k_Model_node J K n) K 74 L S M := by rfl
theorem r_Model_node_75 {s_Model_fail : aS} {J : aJ} {K : aR} {n : Nat} {L : aL} {S : List Value} {M : aM} : am_run (c_Model_node s_Model_fail) k_Model_node J K (n + 1) 75 L S M = ai_isub 76 (am_run (c_Model_node s_Model_fail) k_Model_node J K n) K 75 L S M := by rfl
theorem r_Model_node_76 {s_Model_fail : aS} {J : aJ} {K : aR} {n : Nat} {L : aL} {S : List Value} {M : aM} : am_run (c_Model_node s_Model_fail) k_Model_node J K (n + 1) 76 L S M = ai_iret (am_run (c_Model_node s_Model_fail) k_Model_node J K n) K 76 L S M := by rfl
def c_Model_fail : List (Nat × aI) := [
  (0, ai_aload 0 1),
  (1, ai_aload 0 2),
  (2, ai_getf 7 4 5),
  (5, ai_ifge 12 8),
  (8, ai_iload 1 9),
  (9, ai_goto 16),
  (12, ai_aload 0 13),
  (13, ai_getf 7 4 16),
  (16, ai_putf 7 4 19),
  (19, ai_vret)]
set_option maxRecDepth 100000 in
set_option maxHeartbeats 4000000 in
theorem tb_Model_fail {G : aG} {d : Nat} : am_tab G Y_Model_fail d (c_Model_fail) := by
  intro K p e s m args below meth c C
  exact ⟨as_aload_n C (pc := 0) (q := 0) (by decide +kernel) rfl rfl,
    as_aload_n C (pc := 1) (q := 0) (by decide +kernel) rfl rfl,
    as_getf C (pc := 2) (T := T_Model) (N := 21) rfl in_Model (by decide) rfl w_521 (by decide +kernel) rfl,
    as_ifge C (pc := 5) (off := 7) (by decide +kernel) (by decide) rfl,
    as_iload_n C (pc := 8) (q := 1) (by decide +kernel) rfl rfl,
    as_goto C (pc := 9) (off := 7) (by decide +kernel) (by decide),
    as_aload_n C (pc := 12) (q := 0) (by decide +kernel) rfl rfl,
    as_getf C (pc := 13) (T := T_Model) (N := 21) rfl in_Model (by decide) rfl w_521 (by decide +kernel) rfl,
    as_putf C (pc := 16) t_Model (T := T_Model) (N := 21) rfl in_Model tok_Model nm_Model (by decide) rfl rfl (by decide +kernel) w_521 (by decide +kernel) rfl,
    as_vret C (pc := 19) rfl (by decide +kernel), trivial⟩
abbrev k_Model_fail : List Nat := []
theorem r_Model_fail_0 {J : aJ} {K : aR} {n : Nat} {L : aL} {S : List Value} {M : aM} : am_run (c_Model_fail) k_Model_fail J K (n + 1) 0 L S M = ai_aload 0 1 (am_run (c_Model_fail) k_Model_fail J K n) K 0 L S M := by rfl
theorem r_Model_fail_1 {J : aJ} {K : aR} {n : Nat} {L : aL} {S : List Value} {M : aM} : am_run (c_Model_fail) k_Model_fail J K (n + 1) 1 L S M = ai_aload 0 2 (am_run (c_Model_fail) k_Model_fail J K n) K 1 L S M := by rfl
theorem r_Model_fail_2 {J : aJ} {K : aR} {n : Nat} {L : aL} {S : List Value} {M : aM} : am_run (c_Model_fail) k_Model_fail J K (n + 1) 2 L S M = ai_getf 7 4 5 (am_run (c_Model_fail) k_Model_fail J K n) K 2 L S M := by rfl
theorem r_Model_fail_5 {J : aJ} {K : aR} {n : Nat} {L : aL} {S : List Value} {M : aM} : am_run (c_Model_fail) k_Model_fail J K (n + 1) 5 L S M = ai_ifge 12 8 (am_run (c_Model_fail) k_Model_fail J K n) K 5 L S M := by rfl
theorem r_Model_fail_8 {J : aJ} {K : aR} {n : Nat} {L : aL} {S : List Value} {M : aM} : am_run (c_Model_fail) k_Model_fail J K (n + 1) 8 L S M = ai_iload 1 9 (am_run (c_Model_fail) k_Model_fail J K n) K 8 L S M := by rfl
theorem r_Model_fail_9 {J : aJ} {K : aR} {n : Nat} {L : aL} {S : List Value} {M : aM} : am_run (c_Model_fail) k_Model_fail J K (n + 1) 9 L S M = ai_goto 16 (am_run (c_Model_fail) k_Model_fail J K n) K 9 L S M := by rfl
theorem r_Model_fail_12 {J : aJ} {K : aR} {n : Nat} {L : aL} {S : List Value} {M : aM} : am_run (c_Model_fail) k_Model_fail J K (n + 1) 12 L S M = ai_aload 0 13 (am_run (c_Model_fail) k_Model_fail J K n) K 12 L S M := by rfl
theorem r_Model_fail_13 {J : aJ} {K : aR} {n : Nat} {L : aL} {S : List Value} {M : aM} : am_run (c_Model_fail) k_Model_fail J K (n + 1) 13 L S M = ai_getf 7 4 16 (am_run (c_Model_fail) k_Model_fail J K n) K 13 L S M := by rfl
theorem r_Model_fail_16 {J : aJ} {K : aR} {n : Nat} {L : aL} {S : List Value} {M : aM} : am_run (c_Model_fail) k_Model_fail J K (n + 1) 16 L S M = ai_putf 7 4 19 (am_run (c_Model_fail) k_Model_fail J K n) K 16 L S M := by rfl
theorem r_Model_fail_19 {J : aJ} {K : aR} {n : Nat} {L : aL} {S : List Value} {M : aM} : am_run (c_Model_fail) k_Model_fail J K (n + 1) 19 L S M = ai_vret (am_run (c_Model_fail) k_Model_fail J K n) K 19 L S M := by rfl
def c_Model_letter : List (Nat × aI) := [
  (0, ai_aload 0 1),
  (1, ai_getf 7 8 4),
  (4, ai_const 20 6),
  (6, ai_iload 1 7),
  (7, ai_imul 8),
  (8, ai_aload 0 9),
  (9, ai_getf 7 7 12),
  (12, ai_iload 1 13),
  (13, ai_iald 14),
  (14, ai_iadd 15),
  (15, ai_iload 2 16),
  (16, ai_iast 17),
  (17, ai_aload 0 18),
  (18, ai_getf 7 7 21),
  (21, ai_iload 1 22),
  (22, ai_aload 0 23),
  (23, ai_getf 7 7 26),
  (26, ai_iload 1 27),
  (27, ai_iald 28),
  (28, ai_const 1 29),
  (29, ai_iadd 30),
  (30, ai_iast 31),
  (31, ai_vret)]
set_option maxRecDepth 100000 in
set_option maxHeartbeats 4000000 in
theorem tb_Model_letter {G : aG} {d : Nat} : am_tab G Y_Model_letter d (c_Model_letter) := by
  intro K p e s m args below meth c C
  exact ⟨as_aload_n C (pc := 0) (q := 0) (by decide +kernel) rfl rfl,
    as_getf C (pc := 1) (T := T_Model) (N := 21) rfl in_Model (by decide) rfl w_525 (by decide +kernel) rfl,
    as_bipush C (pc := 4) (n := 20) (by decide +kernel) (by decide +kernel) rfl,
    as_iload_n C (pc := 6) (q := 1) (by decide +kernel) rfl rfl,
    as_imul C (pc := 7) (by decide +kernel) rfl,
    as_aload_n C (pc := 8) (q := 0) (by decide +kernel) rfl rfl,
    as_getf C (pc := 9) (T := T_Model) (N := 21) rfl in_Model (by decide) rfl w_524 (by decide +kernel) rfl,
    as_iload_n C (pc := 12) (q := 1) (by decide +kernel) rfl rfl,
    as_iald C (pc := 13) (by decide +kernel) rfl,
    as_iadd C (pc := 14) (by decide +kernel) rfl,
    as_iload_n C (pc := 15) (q := 2) (by decide +kernel) rfl rfl,
    as_iast C (pc := 16) (by decide +kernel) rfl,
    as_aload_n C (pc := 17) (q := 0) (by decide +kernel) rfl rfl,
    as_getf C (pc := 18) (T := T_Model) (N := 21) rfl in_Model (by decide) rfl w_524 (by decide +kernel) rfl,
    as_iload_n C (pc := 21) (q := 1) (by decide +kernel) rfl rfl,
    as_aload_n C (pc := 22) (q := 0) (by decide +kernel) rfl rfl,
    as_getf C (pc := 23) (T := T_Model) (N := 21) rfl in_Model (by decide) rfl w_524 (by decide +kernel) rfl,
    as_iload_n C (pc := 26) (q := 1) (by decide +kernel) rfl rfl,
    as_iald C (pc := 27) (by decide +kernel) rfl,
    as_iconst C (pc := 28) (n := 1) (by decide +kernel) (by decide +kernel) rfl,
    as_iadd C (pc := 29) (by decide +kernel) rfl,
    as_iast C (pc := 30) (by decide +kernel) rfl,
    as_vret C (pc := 31) rfl (by decide +kernel), trivial⟩
abbrev k_Model_letter : List Nat := []
theorem r_Model_letter_0 {J : aJ} {K : aR} {n : Nat} {L : aL} {S : List Value} {M : aM} : am_run (c_Model_letter) k_Model_letter J K (n + 1) 0 L S M = ai_aload 0 1 (am_run (c_Model_letter) k_Model_letter J K n) K 0 L S M := by rfl
theorem r_Model_letter_1 {J : aJ} {K : aR} {n : Nat} {L : aL} {S : List Value} {M : aM} : am_run (c_Model_letter) k_Model_letter J K (n + 1) 1 L S M = ai_getf 7 8 4 (am_run (c_Model_letter) k_Model_letter J K n) K 1 L S M := by rfl
theorem r_Model_letter_4 {J : aJ} {K : aR} {n : Nat} {L : aL} {S : List Value} {M : aM} : am_run (c_Model_letter) k_Model_letter J K (n + 1) 4 L S M = ai_const 20 6 (am_run (c_Model_letter) k_Model_letter J K n) K 4 L S M := by rfl
theorem r_Model_letter_6 {J : aJ} {K : aR} {n : Nat} {L : aL} {S : List Value} {M : aM} : am_run (c_Model_letter) k_Model_letter J K (n + 1) 6 L S M = ai_iload 1 7 (am_run (c_Model_letter) k_Model_letter J K n) K 6 L S M := by rfl
theorem r_Model_letter_7 {J : aJ} {K : aR} {n : Nat} {L : aL} {S : List Value} {M : aM} : am_run (c_Model_letter) k_Model_letter J K (n + 1) 7 L S M = ai_imul 8 (am_run (c_Model_letter) k_Model_letter J K n) K 7 L S M := by rfl
theorem r_Model_letter_8 {J : aJ} {K : aR} {n : Nat} {L : aL} {S : List Value} {M : aM} : am_run (c_Model_letter) k_Model_letter J K (n + 1) 8 L S M = ai_aload 0 9 (am_run (c_Model_letter) k_Model_letter J K n) K 8 L S M := by rfl
theorem r_Model_letter_9 {J : aJ} {K : aR} {n : Nat} {L : aL} {S : List Value} {M : aM} : am_run (c_Model_letter) k_Model_letter J K (n + 1) 9 L S M = ai_getf 7 7 12 (am_run (c_Model_letter) k_Model_letter J K n) K 9 L S M := by rfl
theorem r_Model_letter_12 {J : aJ} {K : aR} {n : Nat} {L : aL} {S : List Value} {M : aM} : am_run (c_Model_letter) k_Model_letter J K (n + 1) 12 L S M = ai_iload 1 13 (am_run (c_Model_letter) k_Model_letter J K n) K 12 L S M := by rfl
theorem r_Model_letter_13 {J : aJ} {K : aR} {n : Nat} {L : aL} {S : List Value} {M : aM} : am_run (c_Model_letter) k_Model_letter J K (n + 1) 13 L S M = ai_iald 14 (am_run (c_Model_letter) k_Model_letter J K n) K 13 L S M := by rfl
theorem r_Model_letter_14 {J : aJ} {K : aR} {n : Nat} {L : aL} {S : List Value} {M : aM} : am_run (c_Model_letter) k_Model_letter J K (n + 1) 14 L S M = ai_iadd 15 (am_run (c_Model_letter) k_Model_letter J K n) K 14 L S M := by rfl
theorem r_Model_letter_15 {J : aJ} {K : aR} {n : Nat} {L : aL} {S : List Value} {M : aM} : am_run (c_Model_letter) k_Model_letter J K (n + 1) 15 L S M = ai_iload 2 16 (am_run (c_Model_letter) k_Model_letter J K n) K 15 L S M := by rfl
theorem r_Model_letter_16 {J : aJ} {K : aR} {n : Nat} {L : aL} {S : List Value} {M : aM} : am_run (c_Model_letter) k_Model_letter J K (n + 1) 16 L S M = ai_iast 17 (am_run (c_Model_letter) k_Model_letter J K n) K 16 L S M := by rfl
theorem r_Model_letter_17 {J : aJ} {K : aR} {n : Nat} {L : aL} {S : List Value} {M : aM} : am_run (c_Model_letter) k_Model_letter J K (n + 1) 17 L S M = ai_aload 0 18 (am_run (c_Model_letter) k_Model_letter J K n) K 17 L S M := by rfl
theorem r_Model_letter_18 {J : aJ} {K : aR} {n : Nat} {L : aL} {S : List Value} {M : aM} : am_run (c_Model_letter) k_Model_letter J K (n + 1) 18 L S M = ai_getf 7 7 21 (am_run (c_Model_letter) k_Model_letter J K n) K 18 L S M := by rfl
theorem r_Model_letter_21 {J : aJ} {K : aR} {n : Nat} {L : aL} {S : List Value} {M : aM} : am_run (c_Model_letter) k_Model_letter J K (n + 1) 21 L S M = ai_iload 1 22 (am_run (c_Model_letter) k_Model_letter J K n) K 21 L S M := by rfl
theorem r_Model_letter_22 {J : aJ} {K : aR} {n : Nat} {L : aL} {S : List Value} {M : aM} : am_run (c_Model_letter) k_Model_letter J K (n + 1) 22 L S M = ai_aload 0 23 (am_run (c_Model_letter) k_Model_letter J K n) K 22 L S M := by rfl
theorem r_Model_letter_23 {J : aJ} {K : aR} {n : Nat} {L : aL} {S : List Value} {M : aM} : am_run (c_Model_letter) k_Model_letter J K (n + 1) 23 L S M = ai_getf 7 7 26 (am_run (c_Model_letter) k_Model_letter J K n) K 23 L S M := by rfl
theorem r_Model_letter_26 {J : aJ} {K : aR} {n : Nat} {L : aL} {S : List Value} {M : aM} : am_run (c_Model_letter) k_Model_letter J K (n + 1) 26 L S M = ai_iload 1 27 (am_run (c_Model_letter) k_Model_letter J K n) K 26 L S M := by rfl
theorem r_Model_letter_27 {J : aJ} {K : aR} {n : Nat} {L : aL} {S : List Value} {M : aM} : am_run (c_Model_letter) k_Model_letter J K (n + 1) 27 L S M = ai_iald 28 (am_run (c_Model_letter) k_Model_letter J K n) K 27 L S M := by rfl
theorem r_Model_letter_28 {J : aJ} {K : aR} {n : Nat} {L : aL} {S : List Value} {M : aM} : am_run (c_Model_letter) k_Model_letter J K (n + 1) 28 L S M = ai_const 1 29 (am_run (c_Model_letter) k_Model_letter J K n) K 28 L S M := by rfl
theorem r_Model_letter_29 {J : aJ} {K : aR} {n : Nat} {L : aL} {S : List Value} {M : aM} : am_run (c_Model_letter) k_Model_letter J K (n + 1) 29 L S M = ai_iadd 30 (am_run (c_Model_letter) k_Model_letter J K n) K 29 L S M := by rfl
theorem r_Model_letter_30 {J : aJ} {K : aR} {n : Nat} {L : aL} {S : List Value} {M : aM} : am_run (c_Model_letter) k_Model_letter J K (n + 1) 30 L S M = ai_iast 31 (am_run (c_Model_letter) k_Model_letter J K n) K 30 L S M := by rfl
theorem r_Model_letter_31 {J : aJ} {K : aR} {n : Nat} {L : aL} {S : List Value} {M : aM} : am_run (c_Model_letter) k_Model_letter J K (n + 1) 31 L S M = ai_vret (am_run (c_Model_letter) k_Model_letter J K n) K 31 L S M := by rfl
def c_Model_atom (s_Model_node : aS) (s_Model_letter : aS) : List (Nat × aI) := [
  (0, ai_aload 0 1),
  (1, ai_iload 1 2),
  (2, ai_callv2 7 s_Model_node 5),
  (5, ai_istore 2 6),
  (6, ai_aload 0 7),
  (7, ai_getf 7 4 10),
  (10, ai_iflt 15 13),
  (13, ai_iload 2 14),
  (14, ai_iret),
  (15, ai_aload 0 16),
  (16, ai_getf 7 0 19),
  (19, ai_aload 0 20),
  (20, ai_getf 7 3 23),
  (23, ai_iald 24),
  (24, ai_const 45 26),
  (26, ai_cmpne 33 29),
  (29, ai_const 1 30),
  (30, ai_goto 34),
  (33, ai_const 0 34),
  (34, ai_istore 3 35),
  (35, ai_const 0 36),
  (36, ai_istore 4 38),
  (38, ai_aload 0 39),
  (39, ai_getf 7 3 42),
  (42, ai_istore 5 44),
  (44, ai_iload 5 46),
  (46, ai_aload 0 47),
  (47, ai_getf 7 2 50),
  (50, ai_cmpge 160 53),
  (53, ai_aload 0 54),
  (54, ai_getf 7 0 57),
  (57, ai_iload 5 59),
  (59, ai_iald 60),
  (60, ai_istore 6 62),
  (62, ai_iload 1 63),
  (63, ai_const 1 64),
  (64, ai_cmpne 87 67),
  (67, ai_iload 6 69),
  (69, ai_const 45 71),
  (71, ai_cmpeq 87 74),
  (74, ai_const 10 76),
  (76, ai_iload 4 78),
  (78, ai_imul 79),
  (79, ai_iload 6 81),
  (81, ai_iadd 82),
  (82, ai_const 48 84),
  (84, ai_isub 85),
  (85, ai_istore 4 87),
  (87, ai_iload 1 88),
  (88, ai_const 2 89),
  (89, ai_cmpne 99 92),
  (92, ai_aload 0 93),
  (93, ai_iload 2 94),
  (94, ai_iload 6 96),
  (96, ai_callv3 7 s_Model_letter 99),
  (99, ai_iload 1 100),
  (100, ai_const 3 101),
  (101, ai_cmpne 154 104),
  (104, ai_iload 5 106),
  (106, ai_aload 0 107),
  (107, ai_getf 7 3 110),
  (110, ai_cmple 154 113),
  (113, ai_iload 5 115),
  (115, ai_aload 0 116),
  (116, ai_getf 7 2 119),
  (119, ai_const 1 120),
  (120, ai_isub 121),
  (121, ai_cmpge 154 124),
  (124, ai_iload 6 126),
  (126, ai_const 92 128),
  (128, ai_cmpne 138 131),
  (131, ai_iload 5 133),
  (133, ai_const 1 134),
  (134, ai_iadd 135),
  (135, ai_goto 140),
  (138, ai_iload 5 140),
  (140, ai_istore 5 142),
  (142, ai_aload 0 143),
  (143, ai_iload 2 144),
  (144, ai_aload 0 145),
  (145, ai_getf 7 0 148),
  (148, ai_iload 5 150),
  (150, ai_iald 151),
  (151, ai_callv3 7 s_Model_letter 154),
  (154, ai_iinc 5 1 157),
  (157, ai_goto 44),
  (160, ai_iload 1 161),
  (161, ai_const 1 162),
  (162, ai_cmpne 183 165),
  (165, ai_aload 0 166),
  (166, ai_getf 7 7 169),
  (169, ai_iload 2 170),
  (170, ai_iload 3 171),
  (171, ai_ifeq 180 174),
  (174, ai_iload 4 176),
  (176, ai_ineg 177),
  (177, ai_goto 182),
  (180, ai_iload 4 182),
  (182, ai_iast 183),
  (183, ai_iload 2 184),
  (184, ai_iret)]
set_option maxRecDepth 100000 in
set_option maxHeartbeats 4000000 in
theorem tb_Model_atom {G : aG} {d : Nat} {s_Model_node : aS} {d_Model_node : Nat} (h_Model_node : am_Sp G Y_Model_node d_Model_node s_Model_node) (l_Model_node : d_Model_node < d) {s_Model_letter : aS} {d_Model_letter : Nat} (h_Model_letter : am_Sp G Y_Model_letter d_Model_letter s_Model_letter) (l_Model_letter : d_Model_letter < d) : am_tab G Y_Model_atom d (c_Model_atom s_Model_node s_Model_letter) := by
  intro K p e s m args below meth c C
  exact ⟨as_aload_n C (pc := 0) (q := 0) (by decide +kernel) rfl rfl,
    as_iload_n C (pc := 1) (q := 1) (by decide +kernel) rfl rfl,
    as_callv2 C (pc := 2) h_Model_node (T := T_Model) (N := 21) rfl w_629 w_78 w_628 w_57 w_626 hy_Model_node (am_rm_of l_Model_node (by decide)) (by decide +kernel) rfl,
    as_istore_n C (pc := 5) (q := 2) (by decide +kernel) rfl (by decide) rfl,
    as_aload_n C (pc := 6) (q := 0) (by decide +kernel) rfl rfl,
    as_getf C (pc := 7) (T := T_Model) (N := 21) rfl in_Model (by decide) rfl w_521 (by decide +kernel) rfl,
    as_iflt C (pc := 10) (off := 5) (by decide +kernel) (by decide) rfl,
    as_iload_n C (pc := 13) (q := 2) (by decide +kernel) rfl rfl,
    as_iret C (pc := 14) rfl (by decide +kernel),
    as_aload_n C (pc := 15) (q := 0) (by decide +kernel) rfl rfl,
    as_getf C (pc := 16) (T := T_Model) (N := 21) rfl in_Model (by decide) rfl w_517 (by decide +kernel) rfl,
    as_aload_n C (pc := 19) (q := 0) (by decide +kernel) rfl rfl,
    as_getf C (pc := 20) (T := T_Model) (N := 21) rfl in_Model (by decide) rfl w_520 (by decide +kernel) rfl,
    as_iald C (pc := 23) (by decide +kernel) rfl,
    as_bipush C (pc := 24) (n := 45) (by decide +kernel) (by decide +kernel) rfl,
    as_cmpne C (pc := 26) (off := 7) (by decide +kernel) (by decide) rfl,
    as_iconst C (pc := 29) (n := 1) (by decide +kernel) (by decide +kernel) rfl,
    as_goto C (pc := 30) (off := 4) (by decide +kernel) (by decide),
    as_iconst C (pc := 33) (n := 0) (by decide +kernel) (by decide +kernel) rfl,
    as_istore_n C (pc := 34) (q := 3) (by decide +kernel) rfl (by decide) rfl,
    as_iconst C (pc := 35) (n := 0) (by decide +kernel) (by decide +kernel) rfl,
    as_istore C (pc := 36) (k := 4) (by decide +kernel) (by decide) rfl,
    as_aload_n C (pc := 38) (q := 0) (by decide +kernel) rfl rfl,
    as_getf C (pc := 39) (T := T_Model) (N := 21) rfl in_Model (by decide) rfl w_520 (by decide +kernel) rfl,
    as_istore C (pc := 42) (k := 5) (by decide +kernel) (by decide) rfl,
    as_iload C (pc := 44) (k := 5) (by decide +kernel) rfl,
    as_aload_n C (pc := 46) (q := 0) (by decide +kernel) rfl rfl,
    as_getf C (pc := 47) (T := T_Model) (N := 21) rfl in_Model (by decide) rfl w_519 (by decide +kernel) rfl,
    as_cmpge C (pc := 50) (off := 110) (by decide +kernel) (by decide) rfl,
    as_aload_n C (pc := 53) (q := 0) (by decide +kernel) rfl rfl,
    as_getf C (pc := 54) (T := T_Model) (N := 21) rfl in_Model (by decide) rfl w_517 (by decide +kernel) rfl,
    as_iload C (pc := 57) (k := 5) (by decide +kernel) rfl,
    as_iald C (pc := 59) (by decide +kernel) rfl,
    as_istore C (pc := 60) (k := 6) (by decide +kernel) (by decide) rfl,
    as_iload_n C (pc := 62) (q := 1) (by decide +kernel) rfl rfl,
    as_iconst C (pc := 63) (n := 1) (by decide +kernel) (by decide +kernel) rfl,
    as_cmpne C (pc := 64) (off := 23) (by decide +kernel) (by decide) rfl,
    as_iload C (pc := 67) (k := 6) (by decide +kernel) rfl,
    as_bipush C (pc := 69) (n := 45) (by decide +kernel) (by decide +kernel) rfl,
    as_cmpeq C (pc := 71) (off := 16) (by decide +kernel) (by decide) rfl,
    as_bipush C (pc := 74) (n := 10) (by decide +kernel) (by decide +kernel) rfl,
    as_iload C (pc := 76) (k := 4) (by decide +kernel) rfl,
    as_imul C (pc := 78) (by decide +kernel) rfl,
    as_iload C (pc := 79) (k := 6) (by decide +kernel) rfl,
    as_iadd C (pc := 81) (by decide +kernel) rfl,
    as_bipush C (pc := 82) (n := 48) (by decide +kernel) (by decide +kernel) rfl,
    as_isub C (pc := 84) (by decide +kernel) rfl,
    as_istore C (pc := 85) (k := 4) (by decide +kernel) (by decide) rfl,
    as_iload_n C (pc := 87) (q := 1) (by decide +kernel) rfl rfl,
    as_iconst C (pc := 88) (n := 2) (by decide +kernel) (by decide +kernel) rfl,
    as_cmpne C (pc := 89) (off := 10) (by decide +kernel) (by decide) rfl,
    as_aload_n C (pc := 92) (q := 0) (by decide +kernel) rfl rfl,
    as_iload_n C (pc := 93) (q := 2) (by decide +kernel) rfl rfl,
    as_iload C (pc := 94) (k := 6) (by decide +kernel) rfl,
    as_callv3 C (pc := 96) h_Model_letter (T := T_Model) (N := 21) rfl w_674 w_78 w_673 w_58 w_671 hy_Model_letter (am_rm_of l_Model_letter (by decide)) (by decide +kernel) rfl,
    as_iload_n C (pc := 99) (q := 1) (by decide +kernel) rfl rfl,
    as_iconst C (pc := 100) (n := 3) (by decide +kernel) (by decide +kernel) rfl,
    as_cmpne C (pc := 101) (off := 53) (by decide +kernel) (by decide) rfl,
    as_iload C (pc := 104) (k := 5) (by decide +kernel) rfl,
    as_aload_n C (pc := 106) (q := 0) (by decide +kernel) rfl rfl,
    as_getf C (pc := 107) (T := T_Model) (N := 21) rfl in_Model (by decide) rfl w_520 (by decide +kernel) rfl,
    as_cmple C (pc := 110) (off := 44) (by decide +kernel) (by decide) rfl,
    as_iload C (pc := 113) (k := 5) (by decide +kernel) rfl,
    as_aload_n C (pc := 115) (q := 0) (by decide +kernel) rfl rfl,
    as_getf C (pc := 116) (T := T_Model) (N := 21) rfl in_Model (by decide) rfl w_519 (by decide +kernel) rfl,
    as_iconst C (pc := 119) (n := 1) (by decide +kernel) (by decide +kernel) rfl,
    as_isub C (pc := 120) (by decide +kernel) rfl,
    as_cmpge C (pc := 121) (off := 33) (by decide +kernel) (by decide) rfl,
    as_iload C (pc := 124) (k := 6) (by decide +kernel) rfl,
    as_bipush C (pc := 126) (n := 92) (by decide +kernel) (by decide +kernel) rfl,
    as_cmpne C (pc := 128) (off := 10) (by decide +kernel) (by decide) rfl,
    as_iload C (pc := 131) (k := 5) (by decide +kernel) rfl,
    as_iconst C (pc := 133) (n := 1) (by decide +kernel) (by decide +kernel) rfl,
    as_iadd C (pc := 134) (by decide +kernel) rfl,
    as_goto C (pc := 135) (off := 5) (by decide +kernel) (by decide),
    as_iload C (pc := 138) (k := 5) (by decide +kernel) rfl,
    as_istore C (pc := 140) (k := 5) (by decide +kernel) (by decide) rfl,
    as_aload_n C (pc := 142) (q := 0) (by decide +kernel) rfl rfl,
    as_iload_n C (pc := 143) (q := 2) (by decide +kernel) rfl rfl,
    as_aload_n C (pc := 144) (q := 0) (by decide +kernel) rfl rfl,
    as_getf C (pc := 145) (T := T_Model) (N := 21) rfl in_Model (by decide) rfl w_517 (by decide +kernel) rfl,
    as_iload C (pc := 148) (k := 5) (by decide +kernel) rfl,
    as_iald C (pc := 150) (by decide +kernel) rfl,
    as_callv3 C (pc := 151) h_Model_letter (T := T_Model) (N := 21) rfl w_674 w_78 w_673 w_58 w_671 hy_Model_letter (am_rm_of l_Model_letter (by decide)) (by decide +kernel) rfl,
    as_iinc C (pc := 154) (k := 5) (n := 1) (by decide +kernel) (by decide +kernel) (by decide) rfl,
    as_goto C (pc := 157) (off := (-113)) (by decide +kernel) (by decide),
    as_iload_n C (pc := 160) (q := 1) (by decide +kernel) rfl rfl,
    as_iconst C (pc := 161) (n := 1) (by decide +kernel) (by decide +kernel) rfl,
    as_cmpne C (pc := 162) (off := 21) (by decide +kernel) (by decide) rfl,
    as_aload_n C (pc := 165) (q := 0) (by decide +kernel) rfl rfl,
    as_getf C (pc := 166) (T := T_Model) (N := 21) rfl in_Model (by decide) rfl w_524 (by decide +kernel) rfl,
    as_iload_n C (pc := 169) (q := 2) (by decide +kernel) rfl rfl,
    as_iload_n C (pc := 170) (q := 3) (by decide +kernel) rfl rfl,
    as_ifeq C (pc := 171) (off := 9) (by decide +kernel) (by decide) rfl,
    as_iload C (pc := 174) (k := 4) (by decide +kernel) rfl,
    as_ineg C (pc := 176) (by decide +kernel) rfl,
    as_goto C (pc := 177) (off := 5) (by decide +kernel) (by decide),
    as_iload C (pc := 180) (k := 4) (by decide +kernel) rfl,
    as_iast C (pc := 182) (by decide +kernel) rfl,
    as_iload_n C (pc := 183) (q := 2) (by decide +kernel) rfl rfl,
    as_iret C (pc := 184) rfl (by decide +kernel), trivial⟩
abbrev k_Model_atom : List Nat := [44]
set_option maxRecDepth 20000 in
theorem q_Model_atom_44 {s_Model_node : aS} {s_Model_letter : aS} : am_at (c_Model_atom s_Model_node s_Model_letter) 44 = ai_iload 5 46 := by rfl
set_option maxRecDepth 20000 in
theorem r_Model_atom_0 {s_Model_node : aS} {s_Model_letter : aS} {J : aJ} {K : aR} {n : Nat} {L : aL} {S : List Value} {M : aM} : am_run (c_Model_atom s_Model_node s_Model_letter) k_Model_atom J K (n + 1) 0 L S M = ai_aload 0 1 (am_run (c_Model_atom s_Model_node s_Model_letter) k_Model_atom J K n) K 0 L S M := by rfl
set_option maxRecDepth 20000 in
theorem r_Model_atom_1 {s_Model_node : aS} {s_Model_letter : aS} {J : aJ} {K : aR} {n : Nat} {L : aL} {S : List Value} {M : aM} : am_run (c_Model_atom s_Model_node s_Model_letter) k_Model_atom J K (n + 1) 1 L S M = ai_iload 1 2 (am_run (c_Model_atom s_Model_node s_Model_letter) k_Model_atom J K n) K 1 L S M := by rfl
set_option maxRecDepth 20000 in
theorem r_Model_atom_2 {s_Model_node : aS} {s_Model_letter : aS} {J : aJ} {K : aR} {n : Nat} {L : aL} {S : List Value} {M : aM} : am_run (c_Model_atom s_Model_node s_Model_letter) k_Model_atom J K (n + 1) 2 L S M = ai_callv2 7 s_Model_node 5 (am_run (c_Model_atom s_Model_node s_Model_letter) k_Model_atom J K n) K 2 L S M := by rfl
set_option maxRecDepth 20000 in
theorem r_Model_atom_5 {s_Model_node : aS} {s_Model_letter : aS} {J : aJ} {K : aR} {n : Nat} {L : aL} {S : List Value} {M : aM} : am_run (c_Model_atom s_Model_node s_Model_letter) k_Model_atom J K (n + 1) 5 L S M = ai_istore 2 6 (am_run (c_Model_atom s_Model_node s_Model_letter) k_Model_atom J K n) K 5 L S M := by rfl
set_option maxRecDepth 20000 in
theorem r_Model_atom_6 {s_Model_node : aS} {s_Model_letter : aS} {J : aJ} {K : aR} {n : Nat} {L : aL} {S : List Value} {M : aM} : am_run (c_Model_atom s_Model_node s_Model_letter) k_Model_atom J K (n + 1) 6 L S M = ai_aload 0 7 (am_run (c_Model_atom s_Model_node s_Model_letter) k_Model_atom J K n) K 6 L S M := by rfl
set_option maxRecDepth 20000 in
theorem r_Model_atom_7 {s_Model_node : aS} {s_Model_letter : aS} {J : aJ} {K : aR} {n : Nat} {L : aL} {S : List Value} {M : aM} : am_run (c_Model_atom s_Model_node s_Model_letter) k_Model_atom J K (n + 1) 7 L S M = ai_getf 7 4 10 (am_run (c_Model_atom s_Model_node s_Model_letter) k_Model_atom J K n) K 7 L S M := by rfl
set_option maxRecDepth 20000 in
theorem r_Model_atom_10 {s_Model_node : aS} {s_Model_letter : aS} {J : aJ} {K : aR} {n : Nat} {L : aL} {S : List Value} {M : aM} : am_run (c_Model_atom s_Model_node s_Model_letter) k_Model_atom J K (n + 1) 10 L S M = ai_iflt 15 13 (am_run (c_Model_atom s_Model_node s_Model_letter) k_Model_atom J K n) K 10 L S M := by rfl
set_option maxRecDepth 20000 in
theorem r_Model_atom_13 {s_Model_node : aS} {s_Model_letter : aS} {J : aJ} {K : aR} {n : Nat} {L : aL} {S : List Value} {M : aM} : am_run (c_Model_atom s_Model_node s_Model_letter) k_Model_atom J K (n + 1) 13 L S M = ai_iload 2 14 (am_run (c_Model_atom s_Model_node s_Model_letter) k_Model_atom J K n) K 13 L S M := by rfl
set_option maxRecDepth 20000 in
theorem r_Model_atom_14 {s_Model_node : aS} {s_Model_letter : aS} {J : aJ} {K : aR} {n : Nat} {L : aL} {S : List Value} {M : aM} : am_run (c_Model_atom s_Model_node s_Model_letter) k_Model_atom J K (n + 1) 14 L S M = ai_iret (am_run (c_Model_atom s_Model_node s_Model_letter) k_Model_atom J K n) K 14 L S M := by rfl
set_option maxRecDepth 20000 in
theorem r_Model_atom_15 {s_Model_node : aS} {s_Model_letter : aS} {J : aJ} {K : aR} {n : Nat} {L : aL} {S : List Value} {M : aM} : am_run (c_Model_atom s_Model_node s_Model_letter) k_Model_atom J K (n + 1) 15 L S M = ai_aload 0 16 (am_run (c_Model_atom s_Model_node s_Model_letter) k_Model_atom J K n) K 15 L S M := by rfl
set_option maxRecDepth 20000 in
theorem r_Model_atom_16 {s_Model_node : aS} {s_Model_letter : aS} {J : aJ} {K : aR} {n : Nat} {L : aL} {S : List Value} {M : aM} : am_run (c_Model_atom s_Model_node s_Model_letter) k_Model_atom J K (n + 1) 16 L S M = ai_getf 7 0 19 (am_run (c_Model_atom s_Model_node s_Model_letter) k_Model_atom J K n) K 16 L S M := by rfl
set_option maxRecDepth 20000 in
theorem r_Model_atom_19 {s_Model_node : aS} {s_Model_letter : aS} {J : aJ} {K : aR} {n : Nat} {L : aL} {S : List Value} {M : aM} : am_run (c_Model_atom s_Model_node s_Model_letter) k_Model_atom J K (n + 1) 19 L S M = ai_aload 0 20 (am_run (c_Model_atom s_Model_node s_Model_letter) k_Model_atom J K n) K 19 L S M := by rfl
set_option maxRecDepth 20000 in
theorem r_Model_atom_20 {s_Model_node : aS} {s_Model_letter : aS} {J : aJ} {K : aR} {n : Nat} {L : aL} {S : List Value} {M : aM} : am_run (c_Model_atom s_Model_node s_Model_letter) k_Model_atom J K (n + 1) 20 L S M = ai_getf 7 3 23 (am_run (c_Model_atom s_Model_node s_Model_letter) k_Model_atom J K n) K 20 L S M := by rfl
set_option maxRecDepth 20000 in
theorem r_Model_atom_23 {s_Model_node : aS} {s_Model_letter : aS} {J : aJ} {K : aR} {n : Nat} {L : aL} {S : List Value} {M : aM} : am_run (c_Model_atom s_Model_node s_Model_letter) k_Model_atom J K (n + 1) 23 L S M = ai_iald 24 (am_run (c_Model_atom s_Model_node s_Model_letter) k_Model_atom J K n) K 23 L S M := by rfl
set_option maxRecDepth 20000 in
theorem r_Model_atom_24 {s_Model_node : aS} {s_Model_letter : aS} {J : aJ} {K : aR} {n : Nat} {L : aL} {S : List Value} {M : aM} : am_run (c_Model_atom s_Model_node s_Model_letter) k_Model_atom J K (n + 1) 24 L S M = ai_const 45 26 (am_run (c_Model_atom s_Model_node s_Model_letter) k_Model_atom J K n) K 24 L S M := by rfl
set_option maxRecDepth 20000 in
theorem r_Model_atom_26 {s_Model_node : aS} {s_Model_letter : aS} {J : aJ} {K : aR} {n : Nat} {L : aL} {S : List Value} {M : aM} : am_run (c_Model_atom s_Model_node s_Model_letter) k_Model_atom J K (n + 1) 26 L S M = ai_cmpne 33 29 (am_run (c_Model_atom s_Model_node s_Model_letter) k_Model_atom J K n) K 26 L S M := by rfl
set_option maxRecDepth 20000 in
theorem r_Model_atom_29 {s_Model_node : aS} {s_Model_letter : aS} {J : aJ} {K : aR} {n : Nat} {L : aL} {S : List Value} {M : aM} : am_run (c_Model_atom s_Model_node s_Model_letter) k_Model_atom J K (n + 1) 29 L S M = ai_const 1 30 (am_run (c_Model_atom s_Model_node s_Model_letter) k_Model_atom J K n) K 29 L S M := by rfl
set_option maxRecDepth 20000 in
theorem r_Model_atom_30 {s_Model_node : aS} {s_Model_letter : aS} {J : aJ} {K : aR} {n : Nat} {L : aL} {S : List Value} {M : aM} : am_run (c_Model_atom s_Model_node s_Model_letter) k_Model_atom J K (n + 1) 30 L S M = ai_goto 34 (am_run (c_Model_atom s_Model_node s_Model_letter) k_Model_atom J K n) K 30 L S M := by rfl
set_option maxRecDepth 20000 in
theorem r_Model_atom_33 {s_Model_node : aS} {s_Model_letter : aS} {J : aJ} {K : aR} {n : Nat} {L : aL} {S : List Value} {M : aM} : am_run (c_Model_atom s_Model_node s_Model_letter) k_Model_atom J K (n + 1) 33 L S M = ai_const 0 34 (am_run (c_Model_atom s_Model_node s_Model_letter) k_Model_atom J K n) K 33 L S M := by rfl
set_option maxRecDepth 20000 in
theorem r_Model_atom_34 {s_Model_node : aS} {s_Model_letter : aS} {J : aJ} {K : aR} {n : Nat} {L : aL} {S : List Value} {M : aM} : am_run (c_Model_atom s_Model_node s_Model_letter) k_Model_atom J K (n + 1) 34 L S M = ai_istore 3 35 (am_run (c_Model_atom s_Model_node s_Model_letter) k_Model_atom J K n) K 34 L S M := by rfl
set_option maxRecDepth 20000 in
theorem r_Model_atom_35 {s_Model_node : aS} {s_Model_letter : aS} {J : aJ} {K : aR} {n : Nat} {L : aL} {S : List Value} {M : aM} : am_run (c_Model_atom s_Model_node s_Model_letter) k_Model_atom J K (n + 1) 35 L S M = ai_const 0 36 (am_run (c_Model_atom s_Model_node s_Model_letter) k_Model_atom J K n) K 35 L S M := by rfl
set_option maxRecDepth 20000 in
theorem r_Model_atom_36 {s_Model_node : aS} {s_Model_letter : aS} {J : aJ} {K : aR} {n : Nat} {L : aL} {S : List Value} {M : aM} : am_run (c_Model_atom s_Model_node s_Model_letter) k_Model_atom J K (n + 1) 36 L S M = ai_istore 4 38 (am_run (c_Model_atom s_Model_node s_Model_letter) k_Model_atom J K n) K 36 L S M := by rfl
set_option maxRecDepth 20000 in
theorem r_Model_atom_38 {s_Model_node : aS} {s_Model_letter : aS} {J : aJ} {K : aR} {n : Nat} {L : aL} {S : List Value} {M : aM} : am_run (c_Model_atom s_Model_node s_Model_letter) k_Model_atom J K (n + 1) 38 L S M = ai_aload 0 39 (am_run (c_Model_atom s_Model_node s_Model_letter) k_Model_atom J K n) K 38 L S M := by rfl
set_option maxRecDepth 20000 in
theorem r_Model_atom_39 {s_Model_node : aS} {s_Model_letter : aS} {J : aJ} {K : aR} {n : Nat} {L : aL} {S : List Value} {M : aM} : am_run (c_Model_atom s_Model_node s_Model_letter) k_Model_atom J K (n + 1) 39 L S M = ai_getf 7 3 42 (am_run (c_Model_atom s_Model_node s_Model_letter) k_Model_atom J K n) K 39 L S M := by rfl
set_option maxRecDepth 20000 in
theorem r_Model_atom_42 {s_Model_node : aS} {s_Model_letter : aS} {J : aJ} {K : aR} {n : Nat} {L : aL} {S : List Value} {M : aM} : am_run (c_Model_atom s_Model_node s_Model_letter) k_Model_atom J K (n + 1) 42 L S M = ai_istore 5 44 (am_run (c_Model_atom s_Model_node s_Model_letter) k_Model_atom J K n) K 42 L S M := by rfl
set_option maxRecDepth 20000 in
theorem r_Model_atom_44 {s_Model_node : aS} {s_Model_letter : aS} {J : aJ} {K : aR} {n : Nat} {L : aL} {S : List Value} {M : aM} : am_run (c_Model_atom s_Model_node s_Model_letter) k_Model_atom J K (n + 1) 44 L S M = J 44 L S M := by rfl
set_option maxRecDepth 20000 in
theorem r_Model_atom_46 {s_Model_node : aS} {s_Model_letter : aS} {J : aJ} {K : aR} {n : Nat} {L : aL} {S : List Value} {M : aM} : am_run (c_Model_atom s_Model_node s_Model_letter) k_Model_atom J K (n + 1) 46 L S M = ai_aload 0 47 (am_run (c_Model_atom s_Model_node s_Model_letter) k_Model_atom J K n) K 46 L S M := by rfl
set_option maxRecDepth 20000 in
theorem r_Model_atom_47 {s_Model_node : aS} {s_Model_letter : aS} {J : aJ} {K : aR} {n : Nat} {L : aL} {S : List Value} {M : aM} : am_run (c_Model_atom s_Model_node s_Model_letter) k_Model_atom J K (n + 1) 47 L S M = ai_getf 7 2 50 (am_run (c_Model_atom s_Model_node s_Model_letter) k_Model_atom J K n) K 47 L S M := by rfl
set_option maxRecDepth 20000 in
theorem r_Model_atom_50 {s_Model_node : aS} {s_Model_letter : aS} {J : aJ} {K : aR} {n : Nat} {L : aL} {S : List Value} {M : aM} : am_run (c_Model_atom s_Model_node s_Model_letter) k_Model_atom J K (n + 1) 50 L S M = ai_cmpge 160 53 (am_run (c_Model_atom s_Model_node s_Model_letter) k_Model_atom J K n) K 50 L S M := by rfl
set_option maxRecDepth 20000 in
theorem r_Model_atom_53 {s_Model_node : aS} {s_Model_letter : aS} {J : aJ} {K : aR} {n : Nat} {L : aL} {S : List Value} {M : aM} : am_run (c_Model_atom s_Model_node s_Model_letter) k_Model_atom J K (n + 1) 53 L S M = ai_aload 0 54 (am_run (c_Model_atom s_Model_node s_Model_letter) k_Model_atom J K n) K 53 L S M := by rfl
set_option maxRecDepth 20000 in
theorem r_Model_atom_54 {s_Model_node : aS} {s_Model_letter : aS} {J : aJ} {K : aR} {n : Nat} {L : aL} {S : List Value} {M : aM} : am_run (c_Model_atom s_Model_node s_Model_letter) k_Model_atom J K (n + 1) 54 L S M = ai_getf 7 0 57 (am_run (c_Model_atom s_Model_node s_Model_letter) k_Model_atom J K n) K 54 L S M := by rfl
set_option maxRecDepth 20000 in
theorem r_Model_atom_57 {s_Model_node : aS} {s_Model_letter : aS} {J : aJ} {K : aR} {n : Nat} {L : aL} {S : List Value} {M : aM} : am_run (c_Model_atom s_Model_node s_Model_letter) k_Model_atom J K (n + 1) 57 L S M = ai_iload 5 59 (am_run (c_Model_atom s_Model_node s_Model_letter) k_Model_atom J K n) K 57 L S M := by rfl
set_option maxRecDepth 20000 in
theorem r_Model_atom_59 {s_Model_node : aS} {s_Model_letter : aS} {J : aJ} {K : aR} {n : Nat} {L : aL} {S : List Value} {M : aM} : am_run (c_Model_atom s_Model_node s_Model_letter) k_Model_atom J K (n + 1) 59 L S M = ai_iald 60 (am_run (c_Model_atom s_Model_node s_Model_letter) k_Model_atom J K n) K 59 L S M := by rfl
set_option maxRecDepth 20000 in
theorem r_Model_atom_60 {s_Model_node : aS} {s_Model_letter : aS} {J : aJ} {K : aR} {n : Nat} {L : aL} {S : List Value} {M : aM} : am_run (c_Model_atom s_Model_node s_Model_letter) k_Model_atom J K (n + 1) 60 L S M = ai_istore 6 62 (am_run (c_Model_atom s_Model_node s_Model_letter) k_Model_atom J K n) K 60 L S M := by rfl
set_option maxRecDepth 20000 in
theorem r_Model_atom_62 {s_Model_node : aS} {s_Model_letter : aS} {J : aJ} {K : aR} {n : Nat} {L : aL} {S : List Value} {M : aM} : am_run (c_Model_atom s_Model_node s_Model_letter) k_Model_atom J K (n + 1) 62 L S M = ai_iload 1 63 (am_run (c_Model_atom s_Model_node s_Model_letter) k_Model_atom J K n) K 62 L S M := by rfl
set_option maxRecDepth 20000 in
theorem r_Model_atom_63 {s_Model_node : aS} {s_Model_letter : aS} {J : aJ} {K : aR} {n : Nat} {L : aL} {S : List Value} {M : aM} : am_run (c_Model_atom s_Model_node s_Model_letter) k_Model_atom J K (n + 1) 63 L S M = ai_const 1 64 (am_run (c_Model_atom s_Model_node s_Model_letter) k_Model_atom J K n) K 63 L S M := by rfl
set_option maxRecDepth 20000 in
theorem r_Model_atom_64 {s_Model_node : aS} {s_Model_letter : aS} {J : aJ} {K : aR} {n : Nat} {L : aL} {S : List Value} {M : aM} : am_run (c_Model_atom s_Model_node s_Model_letter) k_Model_atom J K (n + 1) 64 L S M = ai_cmpne 87 67 (am_run (c_Model_atom s_Model_node s_Model_letter) k_Model_atom J K n) K 64 L S M := by rfl
set_option maxRecDepth 20000 in
theorem r_Model_atom_67 {s_Model_node : aS} {s_Model_letter : aS} {J : aJ} {K : aR} {n : Nat} {L : aL} {S : List Value} {M : aM} : am_run (c_Model_atom s_Model_node s_Model_letter) k_Model_atom J K (n + 1) 67 L S M = ai_iload 6 69 (am_run (c_Model_atom s_Model_node s_Model_letter) k_Model_atom J K n) K 67 L S M := by rfl
set_option maxRecDepth 20000 in
theorem r_Model_atom_69 {s_Model_node : aS} {s_Model_letter : aS} {J : aJ} {K : aR} {n : Nat} {L : aL} {S : List Value} {M : aM} : am_run (c_Model_atom s_Model_node s_Model_letter) k_Model_atom J K (n + 1) 69 L S M = ai_const 45 71 (am_run (c_Model_atom s_Model_node s_Model_letter) k_Model_atom J K n) K 69 L S M := by rfl
set_option maxRecDepth 20000 in
theorem r_Model_atom_71 {s_Model_node : aS} {s_Model_letter : aS} {J : aJ} {K : aR} {n : Nat} {L : aL} {S : List Value} {M : aM} : am_run (c_Model_atom s_Model_node s_Model_letter) k_Model_atom J K (n + 1) 71 L S M = ai_cmpeq 87 74 (am_run (c_Model_atom s_Model_node s_Model_letter) k_Model_atom J K n) K 71 L S M := by rfl
set_option maxRecDepth 20000 in
theorem r_Model_atom_74 {s_Model_node : aS} {s_Model_letter : aS} {J : aJ} {K : aR} {n : Nat} {L : aL} {S : List Value} {M : aM} : am_run (c_Model_atom s_Model_node s_Model_letter) k_Model_atom J K (n + 1) 74 L S M = ai_const 10 76 (am_run (c_Model_atom s_Model_node s_Model_letter) k_Model_atom J K n) K 74 L S M := by rfl
set_option maxRecDepth 20000 in
theorem r_Model_atom_76 {s_Model_node : aS} {s_Model_letter : aS} {J : aJ} {K : aR} {n : Nat} {L : aL} {S : List Value} {M : aM} : am_run (c_Model_atom s_Model_node s_Model_letter) k_Model_atom J K (n + 1) 76 L S M = ai_iload 4 78 (am_run (c_Model_atom s_Model_node s_Model_letter) k_Model_atom J K n) K 76 L S M := by rfl
set_option maxRecDepth 20000 in
theorem r_Model_atom_78 {s_Model_node : aS} {s_Model_letter : aS} {J : aJ} {K : aR} {n : Nat} {L : aL} {S : List Value} {M : aM} : am_run (c_Model_atom s_Model_node s_Model_letter) k_Model_atom J K (n + 1) 78 L S M = ai_imul 79 (am_run (c_Model_atom s_Model_node s_Model_letter) k_Model_atom J K n) K 78 L S M := by rfl
set_option maxRecDepth 20000 in
theorem r_Model_atom_79 {s_Model_node : aS} {s_Model_letter : aS} {J : aJ} {K : aR} {n : Nat} {L : aL} {S : List Value} {M : aM} : am_run (c_Model_atom s_Model_node s_Model_letter) k_Model_atom J K (n + 1) 79 L S M = ai_iload 6 81 (am_run (c_Model_atom s_Model_node s_Model_letter) k_Model_atom J K n) K 79 L S M := by rfl
set_option maxRecDepth 20000 in
theorem r_Model_atom_81 {s_Model_node : aS} {s_Model_letter : aS} {J : aJ} {K : aR} {n : Nat} {L : aL} {S : List Value} {M : aM} : am_run (c_Model_atom s_Model_node s_Model_letter) k_Model_atom J K (n + 1) 81 L S M = ai_iadd 82 (am_run (c_Model_atom s_Model_node s_Model_letter) k_Model_atom J K n) K 81 L S M := by rfl
set_option maxRecDepth 20000 in
theorem r_Model_atom_82 {s_Model_node : aS} {s_Model_letter : aS} {J : aJ} {K : aR} {n : Nat} {L : aL} {S : List Value} {M : aM} : am_run (c_Model_atom s_Model_node s_Model_letter) k_Model_atom J K (n + 1) 82 L S M = ai_const 48 84 (am_run (c_Model_atom s_Model_node s_Model_letter) k_Model_atom J K n) K 82 L S M := by rfl
set_option maxRecDepth 20000 in
theorem r_Model_atom_84 {s_Model_node : aS} {s_Model_letter : aS} {J : aJ} {K : aR} {n : Nat} {L : aL} {S : List Value} {M : aM} : am_run (c_Model_atom s_Model_node s_Model_letter) k_Model_atom J K (n + 1) 84 L S M = ai_isub 85 (am_run (c_Model_atom s_Model_node s_Model_letter) k_Model_atom J K n) K 84 L S M := by rfl
set_option maxRecDepth 20000 in
theorem r_Model_atom_85 {s_Model_node : aS} {s_Model_letter : aS} {J : aJ} {K : aR} {n : Nat} {L : aL} {S : List Value} {M : aM} : am_run (c_Model_atom s_Model_node s_Model_letter) k_Model_atom J K (n + 1) 85 L S M = ai_istore 4 87 (am_run (c_Model_atom s_Model_node s_Model_letter) k_Model_atom J K n) K 85 L S M := by rfl
set_option maxRecDepth 20000 in
theorem r_Model_atom_87 {s_Model_node : aS} {s_Model_letter : aS} {J : aJ} {K : aR} {n : Nat} {L : aL} {S : List Value} {M : aM} : am_run (c_Model_atom s_Model_node s_Model_letter) k_Model_atom J K (n + 1) 87 L S M = ai_iload 1 88 (am_run (c_Model_atom s_Model_node s_Model_letter) k_Model_atom J K n) K 87 L S M := by rfl
set_option maxRecDepth 20000 in
theorem r_Model_atom_88 {s_Model_node : aS} {s_Model_letter : aS} {J : aJ} {K : aR} {n : Nat} {L : aL} {S : List Value} {M : aM} : am_run (c_Model_atom s_Model_node s_Model_letter) k_Model_atom J K (n + 1) 88 L S M = ai_const 2 89 (am_run (c_Model_atom s_Model_node s_Model_letter) k_Model_atom J K n) K 88 L S M := by rfl
set_option maxRecDepth 20000 in
theorem r_Model_atom_89 {s_Model_node : aS} {s_Model_letter : aS} {J : aJ} {K : aR} {n : Nat} {L : aL} {S : List Value} {M : aM} : am_run (c_Model_atom s_Model_node s_Model_letter) k_Model_atom J K (n + 1) 89 L S M = ai_cmpne 99 92 (am_run (c_Model_atom s_Model_node s_Model_letter) k_Model_atom J K n) K 89 L S M := by rfl
set_option maxRecDepth 20000 in
theorem r_Model_atom_92 {s_Model_node : aS} {s_Model_letter : aS} {J : aJ} {K : aR} {n : Nat} {L : aL} {S : List Value} {M : aM} : am_run (c_Model_atom s_Model_node s_Model_letter) k_Model_atom J K (n + 1) 92 L S M = ai_aload 0 93 (am_run (c_Model_atom s_Model_node s_Model_letter) k_Model_atom J K n) K 92 L S M := by rfl
set_option maxRecDepth 20000 in
theorem r_Model_atom_93 {s_Model_node : aS} {s_Model_letter : aS} {J : aJ} {K : aR} {n : Nat} {L : aL} {S : List Value} {M : aM} : am_run (c_Model_atom s_Model_node s_Model_letter) k_Model_atom J K (n + 1) 93 L S M = ai_iload 2 94 (am_run (c_Model_atom s_Model_node s_Model_letter) k_Model_atom J K n) K 93 L S M := by rfl
set_option maxRecDepth 20000 in
theorem r_Model_atom_94 {s_Model_node : aS} {s_Model_letter : aS} {J : aJ} {K : aR} {n : Nat} {L : aL} {S : List Value} {M : aM} : am_run (c_Model_atom s_Model_node s_Model_letter) k_Model_atom J K (n + 1) 94 L S M = ai_iload 6 96 (am_run (c_Model_atom s_Model_node s_Model_letter) k_Model_atom J K n) K 94 L S M := by rfl
set_option maxRecDepth 20000 in
theorem r_Model_atom_96 {s_Model_node : aS} {s_Model_letter : aS} {J : aJ} {K : aR} {n : Nat} {L : aL} {S : List Value} {M : aM} : am_run (c_Model_atom s_Model_node s_Model_letter) k_Model_atom J K (n + 1) 96 L S M = ai_callv3 7 s_Model_letter 99 (am_run (c_Model_atom s_Model_node s_Model_letter) k_Model_atom J K n) K 96 L S M := by rfl
set_option maxRecDepth 20000 in
theorem r_Model_atom_99 {s_Model_node : aS} {s_Model_letter : aS} {J : aJ} {K : aR} {n : Nat} {L : aL} {S : List Value} {M : aM} : am_run (c_Model_atom s_Model_node s_Model_letter) k_Model_atom J K (n + 1) 99 L S M = ai_iload 1 100 (am_run (c_Model_atom s_Model_node s_Model_letter) k_Model_atom J K n) K 99 L S M := by rfl
set_option maxRecDepth 20000 in
theorem r_Model_atom_100 {s_Model_node : aS} {s_Model_letter : aS} {J : aJ} {K : aR} {n : Nat} {L : aL} {S : List Value} {M : aM} : am_run (c_Model_atom s_Model_node s_Model_letter) k_Model_atom J K (n + 1) 100 L S M = ai_const 3 101 (am_run (c_Model_atom s_Model_node s_Model_letter) k_Model_atom J K n) K 100 L S M := by rfl
set_option maxRecDepth 20000 in
theorem r_Model_atom_101 {s_Model_node : aS} {s_Model_letter : aS} {J : aJ} {K : aR} {n : Nat} {L : aL} {S : List Value} {M : aM} : am_run (c_Model_atom s_Model_node s_Model_letter) k_Model_atom J K (n + 1) 101 L S M = ai_cmpne 154 104 (am_run (c_Model_atom s_Model_node s_Model_letter) k_Model_atom J K n) K 101 L S M := by rfl
set_option maxRecDepth 20000 in
theorem r_Model_atom_104 {s_Model_node : aS} {s_Model_letter : aS} {J : aJ} {K : aR} {n : Nat} {L : aL} {S : List Value} {M : aM} : am_run (c_Model_atom s_Model_node s_Model_letter) k_Model_atom J K (n + 1) 104 L S M = ai_iload 5 106 (am_run (c_Model_atom s_Model_node s_Model_letter) k_Model_atom J K n) K 104 L S M := by rfl
set_option maxRecDepth 20000 in
theorem r_Model_atom_106 {s_Model_node : aS} {s_Model_letter : aS} {J : aJ} {K : aR} {n : Nat} {L : aL} {S : List Value} {M : aM} : am_run (c_Model_atom s_Model_node s_Model_letter) k_Model_atom J K (n + 1) 106 L S M = ai_aload 0 107 (am_run (c_Model_atom s_Model_node s_Model_letter) k_Model_atom J K n) K 106 L S M := by rfl
set_option maxRecDepth 20000 in
theorem r_Model_atom_107 {s_Model_node : aS} {s_Model_letter : aS} {J : aJ} {K : aR} {n : Nat} {L : aL} {S : List Value} {M : aM} : am_run (c_Model_atom s_Model_node s_Model_letter) k_Model_atom J K (n + 1) 107 L S M = ai_getf 7 3 110 (am_run (c_Model_atom s_Model_node s_Model_letter) k_Model_atom J K n) K 107 L S M := by rfl
set_option maxRecDepth 20000 in
theorem r_Model_atom_110 {s_Model_node : aS} {s_Model_letter : aS} {J : aJ} {K : aR} {n : Nat} {L : aL} {S : List Value} {M : aM} : am_run (c_Model_atom s_Model_node s_Model_letter) k_Model_atom J K (n + 1) 110 L S M = ai_cmple 154 113 (am_run (c_Model_atom s_Model_node s_Model_letter) k_Model_atom J K n) K 110 L S M := by rfl
set_option maxRecDepth 20000 in
theorem r_Model_atom_113 {s_Model_node : aS} {s_Model_letter : aS} {J : aJ} {K : aR} {n : Nat} {L : aL} {S : List Value} {M : aM} : am_run (c_Model_atom s_Model_node s_Model_letter) k_Model_atom J K (n + 1) 113 L S M = ai_iload 5 115 (am_run (c_Model_atom s_Model_node s_Model_letter) k_Model_atom J K n) K 113 L S M := by rfl
set_option maxRecDepth 20000 in
theorem r_Model_atom_115 {s_Model_node : aS} {s_Model_letter : aS} {J : aJ} {K : aR} {n : Nat} {L : aL} {S : List Value} {M : aM} : am_run (c_Model_atom s_Model_node s_Model_letter) k_Model_atom J K (n + 1) 115 L S M = ai_aload 0 116 (am_run (c_Model_atom s_Model_node s_Model_letter) k_Model_atom J K n) K 115 L S M := by rfl
set_option maxRecDepth 20000 in
theorem r_Model_atom_116 {s_Model_node : aS} {s_Model_letter : aS} {J : aJ} {K : aR} {n : Nat} {L : aL} {S : List Value} {M : aM} : am_run (c_Model_atom s_Model_node s_Model_letter) k_Model_atom J K (n + 1) 116 L S M = ai_getf 7 2 119 (am_run (c_Model_atom s_Model_node s_Model_letter) k_Model_atom J K n) K 116 L S M := by rfl
set_option maxRecDepth 20000 in
theorem r_Model_atom_119 {s_Model_node : aS} {s_Model_letter : aS} {J : aJ} {K : aR} {n : Nat} {L : aL} {S : List Value} {M : aM} : am_run (c_Model_atom s_Model_node s_Model_letter) k_Model_atom J K (n + 1) 119 L S M = ai_const 1 120 (am_run (c_Model_atom s_Model_node s_Model_letter) k_Model_atom J K n) K 119 L S M := by rfl
set_option maxRecDepth 20000 in
theorem r_Model_atom_120 {s_Model_node : aS} {s_Model_letter : aS} {J : aJ} {K : aR} {n : Nat} {L : aL} {S : List Value} {M : aM} : am_run (c_Model_atom s_Model_node s_Model_letter) k_Model_atom J K (n + 1) 120 L S M = ai_isub 121 (am_run (c_Model_atom s_Model_node s_Model_letter) k_Model_atom J K n) K 120 L S M := by rfl
set_option maxRecDepth 20000 in
theorem r_Model_atom_121 {s_Model_node : aS} {s_Model_letter : aS} {J : aJ} {K : aR} {n : Nat} {L : aL} {S : List Value} {M : aM} : am_run (c_Model_atom s_Model_node s_Model_letter) k_Model_atom J K (n + 1) 121 L S M = ai_cmpge 154 124 (am_run (c_Model_atom s_Model_node s_Model_letter) k_Model_atom J K n) K 121 L S M := by rfl
set_option maxRecDepth 20000 in
theorem r_Model_atom_124 {s_Model_node : aS} {s_Model_letter : aS} {J : aJ} {K : aR} {n : Nat} {L : aL} {S : List Value} {M : aM} : am_run (c_Model_atom s_Model_node s_Model_letter) k_Model_atom J K (n + 1) 124 L S M = ai_iload 6 126 (am_run (c_Model_atom s_Model_node s_Model_letter) k_Model_atom J K n) K 124 L S M := by rfl
set_option maxRecDepth 20000 in
theorem r_Model_atom_126 {s_Model_node : aS} {s_Model_letter : aS} {J : aJ} {K : aR} {n : Nat} {L : aL} {S : List Value} {M : aM} : am_run (c_Model_atom s_Model_node s_Model_letter) k_Model_atom J K (n + 1) 126 L S M = ai_const 92 128 (am_run (c_Model_atom s_Model_node s_Model_letter) k_Model_atom J K n) K 126 L S M := by rfl
set_option maxRecDepth 20000 in
theorem r_Model_atom_128 {s_Model_node : aS} {s_Model_letter : aS} {J : aJ} {K : aR} {n : Nat} {L : aL} {S : List Value} {M : aM} : am_run (c_Model_atom s_Model_node s_Model_letter) k_Model_atom J K (n + 1) 128 L S M = ai_cmpne 138 131 (am_run (c_Model_atom s_Model_node s_Model_letter) k_Model_atom J K n) K 128 L S M := by rfl
set_option maxRecDepth 20000 in
theorem r_Model_atom_131 {s_Model_node : aS} {s_Model_letter : aS} {J : aJ} {K : aR} {n : Nat} {L : aL} {S : List Value} {M : aM} : am_run (c_Model_atom s_Model_node s_Model_letter) k_Model_atom J K (n + 1) 131 L S M = ai_iload 5 133 (am_run (c_Model_atom s_Model_node s_Model_letter) k_Model_atom J K n) K 131 L S M := by rfl
set_option maxRecDepth 20000 in
theorem r_Model_atom_133 {s_Model_node : aS} {s_Model_letter : aS} {J : aJ} {K : aR} {n : Nat} {L : aL} {S : List Value} {M : aM} : am_run (c_Model_atom s_Model_node s_Model_letter) k_Model_atom J K (n + 1) 133 L S M = ai_const 1 134 (am_run (c_Model_atom s_Model_node s_Model_letter) k_Model_atom J K n) K 133 L S M := by rfl
set_option maxRecDepth 20000 in
theorem r_Model_atom_134 {s_Model_node : aS} {s_Model_letter : aS} {J : aJ} {K : aR} {n : Nat} {L : aL} {S : List Value} {M : aM} : am_run (c_Model_atom s_Model_node s_Model_letter) k_Model_atom J K (n + 1) 134 L S M = ai_iadd 135 (am_run (c_Model_atom s_Model_node s_Model_letter) k_Model_atom J K n) K 134 L S M := by rfl
set_option maxRecDepth 20000 in
theorem r_Model_atom_135 {s_Model_node : aS} {s_Model_letter : aS} {J : aJ} {K : aR} {n : Nat} {L : aL} {S : List Value} {M : aM} : am_run (c_Model_atom s_Model_node s_Model_letter) k_Model_atom J K (n + 1) 135 L S M = ai_goto 140 (am_run (c_Model_atom s_Model_node s_Model_letter) k_Model_atom J K n) K 135 L S M := by rfl
set_option maxRecDepth 20000 in
theorem r_Model_atom_138 {s_Model_node : aS} {s_Model_letter : aS} {J : aJ} {K : aR} {n : Nat} {L : aL} {S : List Value} {M : aM} : am_run (c_Model_atom s_Model_node s_Model_letter) k_Model_atom J K (n + 1) 138 L S M = ai_iload 5 140 (am_run (c_Model_atom s_Model_node s_Model_letter) k_Model_atom J K n) K 138 L S M := by rfl
set_option maxRecDepth 20000 in
theorem r_Model_atom_140 {s_Model_node : aS} {s_Model_letter : aS} {J : aJ} {K : aR} {n : Nat} {L : aL} {S : List Value} {M : aM} : am_run (c_Model_atom s_Model_node s_Model_letter) k_Model_atom J K (n + 1) 140 L S M = ai_istore 5 142 (am_run (c_Model_atom s_Model_node s_Model_letter) k_Model_atom J K n) K 140 L S M := by rfl
set_option maxRecDepth 20000 in
theorem r_Model_atom_142 {s_Model_node : aS} {s_Model_letter : aS} {J : aJ} {K : aR} {n : Nat} {L : aL} {S : List Value} {M : aM} : am_run (c_Model_atom s_Model_node s_Model_letter) k_Model_atom J K (n + 1) 142 L S M = ai_aload 0 143 (am_run (c_Model_atom s_Model_node s_Model_letter) k_Model_atom J K n) K 142 L S M := by rfl
set_option maxRecDepth 20000 in
theorem r_Model_atom_143 {s_Model_node : aS} {s_Model_letter : aS} {J : aJ} {K : aR} {n : Nat} {L : aL} {S : List Value} {M : aM} : am_run (c_Model_atom s_Model_node s_Model_letter) k_Model_atom J K (n + 1) 143 L S M = ai_iload 2 144 (am_run (c_Model_atom s_Model_node s_Model_letter) k_Model_atom J K n) K 143 L S M := by rfl
set_option maxRecDepth 20000 in
theorem r_Model_atom_144 {s_Model_node : aS} {s_Model_letter : aS} {J : aJ} {K : aR} {n : Nat} {L : aL} {S : List Value} {M : aM} : am_run (c_Model_atom s_Model_node s_Model_letter) k_Model_atom J K (n + 1) 144 L S M = ai_aload 0 145 (am_run (c_Model_atom s_Model_node s_Model_letter) k_Model_atom J K n) K 144 L S M := by rfl
set_option maxRecDepth 20000 in
theorem r_Model_atom_145 {s_Model_node : aS} {s_Model_letter : aS} {J : aJ} {K : aR} {n : Nat} {L : aL} {S : List Value} {M : aM} : am_run (c_Model_atom s_Model_node s_Model_letter) k_Model_atom J K (n + 1) 145 L S M = ai_getf 7 0 148 (am_run (c_Model_atom s_Model_node s_Model_letter) k_Model_atom J K n) K 145 L S M := by rfl
set_option maxRecDepth 20000 in
theorem r_Model_atom_148 {s_Model_node : aS} {s_Model_letter : aS} {J : aJ} {K : aR} {n : Nat} {L : aL} {S : List Value} {M : aM} : am_run (c_Model_atom s_Model_node s_Model_letter) k_Model_atom J K (n + 1) 148 L S M = ai_iload 5 150 (am_run (c_Model_atom s_Model_node s_Model_letter) k_Model_atom J K n) K 148 L S M := by rfl
set_option maxRecDepth 20000 in
theorem r_Model_atom_150 {s_Model_node : aS} {s_Model_letter : aS} {J : aJ} {K : aR} {n : Nat} {L : aL} {S : List Value} {M : aM} : am_run (c_Model_atom s_Model_node s_Model_letter) k_Model_atom J K (n + 1) 150 L S M = ai_iald 151 (am_run (c_Model_atom s_Model_node s_Model_letter) k_Model_atom J K n) K 150 L S M := by rfl
set_option maxRecDepth 20000 in
theorem r_Model_atom_151 {s_Model_node : aS} {s_Model_letter : aS} {J : aJ} {K : aR} {n : Nat} {L : aL} {S : List Value} {M : aM} : am_run (c_Model_atom s_Model_node s_Model_letter) k_Model_atom J K (n + 1) 151 L S M = ai_callv3 7 s_Model_letter 154 (am_run (c_Model_atom s_Model_node s_Model_letter) k_Model_atom J K n) K 151 L S M := by rfl
set_option maxRecDepth 20000 in
theorem r_Model_atom_154 {s_Model_node : aS} {s_Model_letter : aS} {J : aJ} {K : aR} {n : Nat} {L : aL} {S : List Value} {M : aM} : am_run (c_Model_atom s_Model_node s_Model_letter) k_Model_atom J K (n + 1) 154 L S M = ai_iinc 5 1 157 (am_run (c_Model_atom s_Model_node s_Model_letter) k_Model_atom J K n) K 154 L S M := by rfl
set_option maxRecDepth 20000 in
theorem r_Model_atom_157 {s_Model_node : aS} {s_Model_letter : aS} {J : aJ} {K : aR} {n : Nat} {L : aL} {S : List Value} {M : aM} : am_run (c_Model_atom s_Model_node s_Model_letter) k_Model_atom J K (n + 1) 157 L S M = ai_goto 44 (am_run (c_Model_atom s_Model_node s_Model_letter) k_Model_atom J K n) K 157 L S M := by rfl
set_option maxRecDepth 20000 in
theorem r_Model_atom_160 {s_Model_node : aS} {s_Model_letter : aS} {J : aJ} {K : aR} {n : Nat} {L : aL} {S : List Value} {M : aM} : am_run (c_Model_atom s_Model_node s_Model_letter) k_Model_atom J K (n + 1) 160 L S M = ai_iload 1 161 (am_run (c_Model_atom s_Model_node s_Model_letter) k_Model_atom J K n) K 160 L S M := by rfl
set_option maxRecDepth 20000 in
theorem r_Model_atom_161 {s_Model_node : aS} {s_Model_letter : aS} {J : aJ} {K : aR} {n : Nat} {L : aL} {S : List Value} {M : aM} : am_run (c_Model_atom s_Model_node s_Model_letter) k_Model_atom J K (n + 1) 161 L S M = ai_const 1 162 (am_run (c_Model_atom s_Model_node s_Model_letter) k_Model_atom J K n) K 161 L S M := by rfl
set_option maxRecDepth 20000 in
theorem r_Model_atom_162 {s_Model_node : aS} {s_Model_letter : aS} {J : aJ} {K : aR} {n : Nat} {L : aL} {S : List Value} {M : aM} : am_run (c_Model_atom s_Model_node s_Model_letter) k_Model_atom J K (n + 1) 162 L S M = ai_cmpne 183 165 (am_run (c_Model_atom s_Model_node s_Model_letter) k_Model_atom J K n) K 162 L S M := by rfl
set_option maxRecDepth 20000 in
theorem r_Model_atom_165 {s_Model_node : aS} {s_Model_letter : aS} {J : aJ} {K : aR} {n : Nat} {L : aL} {S : List Value} {M : aM} : am_run (c_Model_atom s_Model_node s_Model_letter) k_Model_atom J K (n + 1) 165 L S M = ai_aload 0 166 (am_run (c_Model_atom s_Model_node s_Model_letter) k_Model_atom J K n) K 165 L S M := by rfl
set_option maxRecDepth 20000 in
theorem r_Model_atom_166 {s_Model_node : aS} {s_Model_letter : aS} {J : aJ} {K : aR} {n : Nat} {L : aL} {S : List Value} {M : aM} : am_run (c_Model_atom s_Model_node s_Model_letter) k_Model_atom J K (n + 1) 166 L S M = ai_getf 7 7 169 (am_run (c_Model_atom s_Model_node s_Model_letter) k_Model_atom J K n) K 166 L S M := by rfl
set_option maxRecDepth 20000 in
theorem r_Model_atom_169 {s_Model_node : aS} {s_Model_letter : aS} {J : aJ} {K : aR} {n : Nat} {L : aL} {S : List Value} {M : aM} : am_run (c_Model_atom s_Model_node s_Model_letter) k_Model_atom J K (n + 1) 169 L S M = ai_iload 2 170 (am_run (c_Model_atom s_Model_node s_Model_letter) k_Model_atom J K n) K 169 L S M := by rfl
set_option maxRecDepth 20000 in
theorem r_Model_atom_170 {s_Model_node : aS} {s_Model_letter : aS} {J : aJ} {K : aR} {n : Nat} {L : aL} {S : List Value} {M : aM} : am_run (c_Model_atom s_Model_node s_Model_letter) k_Model_atom J K (n + 1) 170 L S M = ai_iload 3 171 (am_run (c_Model_atom s_Model_node s_Model_letter) k_Model_atom J K n) K 170 L S M := by rfl
set_option maxRecDepth 20000 in
theorem r_Model_atom_171 {s_Model_node : aS} {s_Model_letter : aS} {J : aJ} {K : aR} {n : Nat} {L : aL} {S : List Value} {M : aM} : am_run (c_Model_atom s_Model_node s_Model_letter) k_Model_atom J K (n + 1) 171 L S M = ai_ifeq 180 174 (am_run (c_Model_atom s_Model_node s_Model_letter) k_Model_atom J K n) K 171 L S M := by rfl
set_option maxRecDepth 20000 in
theorem r_Model_atom_174 {s_Model_node : aS} {s_Model_letter : aS} {J : aJ} {K : aR} {n : Nat} {L : aL} {S : List Value} {M : aM} : am_run (c_Model_atom s_Model_node s_Model_letter) k_Model_atom J K (n + 1) 174 L S M = ai_iload 4 176 (am_run (c_Model_atom s_Model_node s_Model_letter) k_Model_atom J K n) K 174 L S M := by rfl
set_option maxRecDepth 20000 in
theorem r_Model_atom_176 {s_Model_node : aS} {s_Model_letter : aS} {J : aJ} {K : aR} {n : Nat} {L : aL} {S : List Value} {M : aM} : am_run (c_Model_atom s_Model_node s_Model_letter) k_Model_atom J K (n + 1) 176 L S M = ai_ineg 177 (am_run (c_Model_atom s_Model_node s_Model_letter) k_Model_atom J K n) K 176 L S M := by rfl
set_option maxRecDepth 20000 in
theorem r_Model_atom_177 {s_Model_node : aS} {s_Model_letter : aS} {J : aJ} {K : aR} {n : Nat} {L : aL} {S : List Value} {M : aM} : am_run (c_Model_atom s_Model_node s_Model_letter) k_Model_atom J K (n + 1) 177 L S M = ai_goto 182 (am_run (c_Model_atom s_Model_node s_Model_letter) k_Model_atom J K n) K 177 L S M := by rfl
set_option maxRecDepth 20000 in
theorem r_Model_atom_180 {s_Model_node : aS} {s_Model_letter : aS} {J : aJ} {K : aR} {n : Nat} {L : aL} {S : List Value} {M : aM} : am_run (c_Model_atom s_Model_node s_Model_letter) k_Model_atom J K (n + 1) 180 L S M = ai_iload 4 182 (am_run (c_Model_atom s_Model_node s_Model_letter) k_Model_atom J K n) K 180 L S M := by rfl
set_option maxRecDepth 20000 in
theorem r_Model_atom_182 {s_Model_node : aS} {s_Model_letter : aS} {J : aJ} {K : aR} {n : Nat} {L : aL} {S : List Value} {M : aM} : am_run (c_Model_atom s_Model_node s_Model_letter) k_Model_atom J K (n + 1) 182 L S M = ai_iast 183 (am_run (c_Model_atom s_Model_node s_Model_letter) k_Model_atom J K n) K 182 L S M := by rfl
set_option maxRecDepth 20000 in
theorem r_Model_atom_183 {s_Model_node : aS} {s_Model_letter : aS} {J : aJ} {K : aR} {n : Nat} {L : aL} {S : List Value} {M : aM} : am_run (c_Model_atom s_Model_node s_Model_letter) k_Model_atom J K (n + 1) 183 L S M = ai_iload 2 184 (am_run (c_Model_atom s_Model_node s_Model_letter) k_Model_atom J K n) K 183 L S M := by rfl
set_option maxRecDepth 20000 in
theorem r_Model_atom_184 {s_Model_node : aS} {s_Model_letter : aS} {J : aJ} {K : aR} {n : Nat} {L : aL} {S : List Value} {M : aM} : am_run (c_Model_atom s_Model_node s_Model_letter) k_Model_atom J K (n + 1) 184 L S M = ai_iret (am_run (c_Model_atom s_Model_node s_Model_letter) k_Model_atom J K n) K 184 L S M := by rfl
def c_Model_begin (s_Model_fail : aS) (s_Model_node : aS) : List (Nat × aI) := [
  (0, ai_aload 0 1),
  (1, ai_getf 7 13 4),
  (4, ai_ifne 8 7),
  (7, ai_vret),
  (8, ai_aload 0 9),
  (9, ai_getf 7 13 12),
  (12, ai_const 1 13),
  (13, ai_isub 14),
  (14, ai_istore 1 15),
  (15, ai_aload 0 16),
  (16, ai_getf 7 16 19),
  (19, ai_iload 1 20),
  (20, ai_iald 21),
  (21, ai_const 3 22),
  (22, ai_cmpne 36 25),
  (25, ai_aload 0 26),
  (26, ai_aload 0 27),
  (27, ai_getf 7 3 30),
  (30, ai_callv2 7 s_Model_fail 33),
  (33, ai_goto 97),
  (36, ai_aload 0 37),
  (37, ai_getf 7 16 40),
  (40, ai_iload 1 41),
  (41, ai_iald 42),
  (42, ai_const 2 43),
  (43, ai_cmpge 97 46),
  (46, ai_aload 0 47),
  (47, ai_const 4 48),
  (48, ai_callv2 7 s_Model_node 51),
  (51, ai_istore 2 52),
  (52, ai_aload 0 53),
  (53, ai_getf 7 16 56),
  (56, ai_iload 1 57),
  (57, ai_iald 58),
  (58, ai_ifne 71 61),
  (61, ai_aload 0 62),
  (62, ai_getf 7 14 65),
  (65, ai_iload 1 66),
  (66, ai_iload 2 67),
  (67, ai_iast 68),
  (68, ai_goto 83),
  (71, ai_aload 0 72),
  (72, ai_getf 7 10 75),
  (75, ai_aload 0 76),
  (76, ai_getf 7 15 79),
  (79, ai_iload 1 80),
  (80, ai_iald 81),
  (81, ai_iload 2 82),
  (82, ai_iast 83),
  (83, ai_aload 0 84),
  (84, ai_getf 7 15 87),
  (87, ai_iload 1 88),
  (88, ai_iload 2 89),
  (89, ai_iast 90),
  (90, ai_aload 0 91),
  (91, ai_getf 7 16 94),
  (94, ai_iload 1 95),
  (95, ai_const 1 96),
  (96, ai_iast 97),
  (97, ai_vret)]
set_option maxRecDepth 100000 in
set_option maxHeartbeats 4000000 in
theorem tb_Model_begin {G : aG} {d : Nat} {s_Model_fail : aS} {d_Model_fail : Nat} (h_Model_fail : am_Sp G Y_Model_fail d_Model_fail s_Model_fail) (l_Model_fail : d_Model_fail < d) {s_Model_node : aS} {d_Model_node : Nat} (h_Model_node : am_Sp G Y_Model_node d_Model_node s_Model_node) (l_Model_node : d_Model_node < d) : am_tab G Y_Model_begin d (c_Model_begin s_Model_fail s_Model_node) := by
  intro K p e s m args below meth c C
  exact ⟨as_aload_n C (pc := 0) (q := 0) (by decide +kernel) rfl rfl,
    as_getf C (pc := 1) (T := T_Model) (N := 21) rfl in_Model (by decide) rfl w_530 (by decide +kernel) rfl,
    as_ifne C (pc := 4) (off := 4) (by decide +kernel) (by decide) rfl,
    as_vret C (pc := 7) rfl (by decide +kernel),
    as_aload_n C (pc := 8) (q := 0) (by decide +kernel) rfl rfl,
    as_getf C (pc := 9) (T := T_Model) (N := 21) rfl in_Model (by decide) rfl w_530 (by decide +kernel) rfl,
    as_iconst C (pc := 12) (n := 1) (by decide +kernel) (by decide +kernel) rfl,
    as_isub C (pc := 13) (by decide +kernel) rfl,
    as_istore_n C (pc := 14) (q := 1) (by decide +kernel) rfl (by decide) rfl,
    as_aload_n C (pc := 15) (q := 0) (by decide +kernel) rfl rfl,
    as_getf C (pc := 16) (T := T_Model) (N := 21) rfl in_Model (by decide) rfl w_533 (by decide +kernel) rfl,
    as_iload_n C (pc := 19) (q := 1) (by decide +kernel) rfl rfl,
    as_iald C (pc := 20) (by decide +kernel) rfl,
    as_iconst C (pc := 21) (n := 3) (by decide +kernel) (by decide +kernel) rfl,
    as_cmpne C (pc := 22) (off := 14) (by decide +kernel) (by decide) rfl,
    as_aload_n C (pc := 25) (q := 0) (by decide +kernel) rfl rfl,
    as_aload_n C (pc := 26) (q := 0) (by decide +kernel) rfl rfl,
    as_getf C (pc := 27) (T := T_Model) (N := 21) rfl in_Model (by decide) rfl w_520 (by decide +kernel) rfl,
    as_callv2 C (pc := 30) h_Model_fail (T := T_Model) (N := 21) rfl w_617 w_78 w_616 w_54 w_614 hy_Model_fail (am_rm_of l_Model_fail (by decide)) (by decide +kernel) rfl,
    as_goto C (pc := 33) (off := 64) (by decide +kernel) (by decide),
    as_aload_n C (pc := 36) (q := 0) (by decide +kernel) rfl rfl,
    as_getf C (pc := 37) (T := T_Model) (N := 21) rfl in_Model (by decide) rfl w_533 (by decide +kernel) rfl,
    as_iload_n C (pc := 40) (q := 1) (by decide +kernel) rfl rfl,
    as_iald C (pc := 41) (by decide +kernel) rfl,
    as_iconst C (pc := 42) (n := 2) (by decide +kernel) (by decide +kernel) rfl,
    as_cmpge C (pc := 43) (off := 54) (by decide +kernel) (by decide) rfl,
    as_aload_n C (pc := 46) (q := 0) (by decide +kernel) rfl rfl,
    as_iconst C (pc := 47) (n := 4) (by decide +kernel) (by decide +kernel) rfl,
    as_callv2 C (pc := 48) h_Model_node (T := T_Model) (N := 21) rfl w_629 w_78 w_628 w_57 w_626 hy_Model_node (am_rm_of l_Model_node (by decide)) (by decide +kernel) rfl,
    as_istore_n C (pc := 51) (q := 2) (by decide +kernel) rfl (by decide) rfl,
    as_aload_n C (pc := 52) (q := 0) (by decide +kernel) rfl rfl,
    as_getf C (pc := 53) (T := T_Model) (N := 21) rfl in_Model (by decide) rfl w_533 (by decide +kernel) rfl,
    as_iload_n C (pc := 56) (q := 1) (by decide +kernel) rfl rfl,
    as_iald C (pc := 57) (by decide +kernel) rfl,
    as_ifne C (pc := 58) (off := 13) (by decide +kernel) (by decide) rfl,
    as_aload_n C (pc := 61) (q := 0) (by decide +kernel) rfl rfl,
    as_getf C (pc := 62) (T := T_Model) (N := 21) rfl in_Model (by decide) rfl w_531 (by decide +kernel) rfl,
    as_iload_n C (pc := 65) (q := 1) (by decide +kernel) rfl rfl,
    as_iload_n C (pc := 66) (q := 2) (by decide +kernel) rfl rfl,
    as_iast C (pc := 67) (by decide +kernel) rfl,
    as_goto C (pc := 68) (off := 15) (by decide +kernel) (by decide),
    as_aload_n C (pc := 71) (q := 0) (by decide +kernel) rfl rfl,
    as_getf C (pc := 72) (T := T_Model) (N := 21) rfl in_Model (by decide) rfl w_527 (by decide +kernel) rfl,
    as_aload_n C (pc := 75) (q := 0) (by decide +kernel) rfl rfl,
    as_getf C (pc := 76) (T := T_Model) (N := 21) rfl in_Model (by decide) rfl w_532 (by decide +kernel) rfl,
    as_iload_n C (pc := 79) (q := 1) (by decide +kernel) rfl rfl,
    as_iald C (pc := 80) (by decide +kernel) rfl,
    as_iload_n C (pc := 81) (q := 2) (by decide +kernel) rfl rfl,
    as_iast C (pc := 82) (by decide +kernel) rfl,
    as_aload_n C (pc := 83) (q := 0) (by decide +kernel) rfl rfl,
    as_getf C (pc := 84) (T := T_Model) (N := 21) rfl in_Model (by decide) rfl w_532 (by decide +kernel) rfl,
    as_iload_n C (pc := 87) (q := 1) (by decide +kernel) rfl rfl,
    as_iload_n C (pc := 88) (q := 2) (by decide +kernel) rfl rfl,
    as_iast C (pc := 89) (by decide +kernel) rfl,
    as_aload_n C (pc := 90) (q := 0) (by decide +kernel) rfl rfl,
    as_getf C (pc := 91) (T := T_Model) (N := 21) rfl in_Model (by decide) rfl w_533 (by decide +kernel) rfl,
    as_iload_n C (pc := 94) (q := 1) (by decide +kernel) rfl rfl,
    as_iconst C (pc := 95) (n := 1) (by decide +kernel) (by decide +kernel) rfl,
    as_iast C (pc := 96) (by decide +kernel) rfl,
    as_vret C (pc := 97) rfl (by decide +kernel), trivial⟩
abbrev k_Model_begin : List Nat := []
set_option maxRecDepth 20000 in
theorem r_Model_begin_0 {s_Model_fail : aS} {s_Model_node : aS} {J : aJ} {K : aR} {n : Nat} {L : aL} {S : List Value} {M : aM} : am_run (c_Model_begin s_Model_fail s_Model_node) k_Model_begin J K (n + 1) 0 L S M = ai_aload 0 1 (am_run (c_Model_begin s_Model_fail s_Model_node) k_Model_begin J K n) K 0 L S M := by rfl
set_option maxRecDepth 20000 in
theorem r_Model_begin_1 {s_Model_fail : aS} {s_Model_node : aS} {J : aJ} {K : aR} {n : Nat} {L : aL} {S : List Value} {M : aM} : am_run (c_Model_begin s_Model_fail s_Model_node) k_Model_begin J K (n + 1) 1 L S M = ai_getf 7 13 4 (am_run (c_Model_begin s_Model_fail s_Model_node) k_Model_begin J K n) K 1 L S M := by rfl
set_option maxRecDepth 20000 in
theorem r_Model_begin_4 {s_Model_fail : aS} {s_Model_node : aS} {J : aJ} {K : aR} {n : Nat} {L : aL} {S : List Value} {M : aM} : am_run (c_Model_begin s_Model_fail s_Model_node) k_Model_begin J K (n + 1) 4 L S M = ai_ifne 8 7 (am_run (c_Model_begin s_Model_fail s_Model_node) k_Model_begin J K n) K 4 L S M := by rfl
set_option maxRecDepth 20000 in
theorem r_Model_begin_7 {s_Model_fail : aS} {s_Model_node : aS} {J : aJ} {K : aR} {n : Nat} {L : aL} {S : List Value} {M : aM} : am_run (c_Model_begin s_Model_fail s_Model_node) k_Model_begin J K (n + 1) 7 L S M = ai_vret (am_run (c_Model_begin s_Model_fail s_Model_node) k_Model_begin J K n) K 7 L S M := by rfl
set_option maxRecDepth 20000 in
theorem r_Model_begin_8 {s_Model_fail : aS} {s_Model_node : aS} {J : aJ} {K : aR} {n : Nat} {L : aL} {S : List Value} {M : aM} : am_run (c_Model_begin s_Model_fail s_Model_node) k_Model_begin J K (n + 1) 8 L S M = ai_aload 0 9 (am_run (c_Model_begin s_Model_fail s_Model_node) k_Model_begin J K n) K 8 L S M := by rfl
set_option maxRecDepth 20000 in
theorem r_Model_begin_9 {s_Model_fail : aS} {s_Model_node : aS} {J : aJ} {K : aR} {n : Nat} {L : aL} {S : List Value} {M : aM} : am_run (c_Model_begin s_Model_fail s_Model_node) k_Model_begin J K (n + 1) 9 L S M = ai_getf 7 13 12 (am_run (c_Model_begin s_Model_fail s_Model_node) k_Model_begin J K n) K 9 L S M := by rfl
set_option maxRecDepth 20000 in
theorem r_Model_begin_12 {s_Model_fail : aS} {s_Model_node : aS} {J : aJ} {K : aR} {n : Nat} {L : aL} {S : List Value} {M : aM} : am_run (c_Model_begin s_Model_fail s_Model_node) k_Model_begin J K (n + 1) 12 L S M = ai_const 1 13 (am_run (c_Model_begin s_Model_fail s_Model_node) k_Model_begin J K n) K 12 L S M := by rfl
set_option maxRecDepth 20000 in
theorem r_Model_begin_13 {s_Model_fail : aS} {s_Model_node : aS} {J : aJ} {K : aR} {n : Nat} {L : aL} {S : List Value} {M : aM} : am_run (c_Model_begin s_Model_fail s_Model_node) k_Model_begin J K (n + 1) 13 L S M = ai_isub 14 (am_run (c_Model_begin s_Model_fail s_Model_node) k_Model_begin J K n) K 13 L S M := by rfl
set_option maxRecDepth 20000 in
theorem r_Model_begin_14 {s_Model_fail : aS} {s_Model_node : aS} {J : aJ} {K : aR} {n : Nat} {L : aL} {S : List Value} {M : aM} : am_run (c_Model_begin s_Model_fail s_Model_node) k_Model_begin J K (n + 1) 14 L S M = ai_istore 1 15 (am_run (c_Model_begin s_Model_fail s_Model_node) k_Model_begin J K n) K 14 L S M := by rfl
set_option maxRecDepth 20000 in
theorem r_Model_begin_15 {s_Model_fail : aS} {s_Model_node : aS} {J : aJ} {K : aR} {n : Nat} {L : aL} {S : List Value} {M : aM} : am_run (c_Model_begin s_Model_fail s_Model_node) k_Model_begin J K (n + 1) 15 L S M = ai_aload 0 16 (am_run (c_Model_begin s_Model_fail s_Model_node) k_Model_begin J K n) K 15 L S M := by rfl
set_option maxRecDepth 20000 in
theorem r_Model_begin_16 {s_Model_fail : aS} {s_Model_node : aS} {J : aJ} {K : aR} {n : Nat} {L : aL} {S : List Value} {M : aM} : am_run (c_Model_begin s_Model_fail s_Model_node) k_Model_begin J K (n + 1) 16 L S M = ai_getf 7 16 19 (am_run (c_Model_begin s_Model_fail s_Model_node) k_Model_begin J K n) K 16 L S M := by rfl
set_option maxRecDepth 20000 in
theorem r_Model_begin_19 {s_Model_fail : aS} {s_Model_node : aS} {J : aJ} {K : aR} {n : Nat} {L : aL} {S : List Value} {M : aM} : am_run (c_Model_begin s_Model_fail s_Model_node) k_Model_begin J K (n + 1) 19 L S M = ai_iload 1 20 (am_run (c_Model_begin s_Model_fail s_Model_node) k_Model_begin J K n) K 19 L S M := by rfl
set_option maxRecDepth 20000 in
theorem r_Model_begin_20 {s_Model_fail : aS} {s_Model_node : aS} {J : aJ} {K : aR} {n : Nat} {L : aL} {S : List Value} {M : aM} : am_run (c_Model_begin s_Model_fail s_Model_node) k_Model_begin J K (n + 1) 20 L S M = ai_iald 21 (am_run (c_Model_begin s_Model_fail s_Model_node) k_Model_begin J K n) K 20 L S M := by rfl
set_option maxRecDepth 20000 in
theorem r_Model_begin_21 {s_Model_fail : aS} {s_Model_node : aS} {J : aJ} {K : aR} {n : Nat} {L : aL} {S : List Value} {M : aM} : am_run (c_Model_begin s_Model_fail s_Model_node) k_Model_begin J K (n + 1) 21 L S M = ai_const 3 22 (am_run (c_Model_begin s_Model_fail s_Model_node) k_Model_begin J K n) K 21 L S M := by rfl
set_option maxRecDepth 20000 in
theorem r_Model_begin_22 {s_Model_fail : aS} {s_Model_node : aS} {J : aJ} {K : aR} {n : Nat} {L : aL} {S : List Value} {M : aM} : am_run (c_Model_begin s_Model_fail s_Model_node) k_Model_begin J K (n + 1) 22 L S M = ai_cmpne 36 25 (am_run (c_Model_begin s_Model_fail s_Model_node) k_Model_begin J K n) K 22 L S M := by rfl
set_option maxRecDepth 20000 in
theorem r_Model_begin_25 {s_Model_fail : aS} {s_Model_node : aS} {J : aJ} {K : aR} {n : Nat} {L : aL} {S : List Value} {M : aM} : am_run (c_Model_begin s_Model_fail s_Model_node) k_Model_begin J K (n + 1) 25 L S M = ai_aload 0 26 (am_run (c_Model_begin s_Model_fail s_Model_node) k_Model_begin J K n) K 25 L S M := by rfl
set_option maxRecDepth 20000 in
theorem r_Model_begin_26 {s_Model_fail : aS} {s_Model_node : aS} {J : aJ} {K : aR} {n : Nat} {L : aL} {S : List Value} {M : aM} : am_run (c_Model_begin s_Model_fail s_Model_node) k_Model_begin J K (n + 1) 26 L S M = ai_aload 0 27 (am_run (c_Model_begin s_Model_fail s_Model_node) k_Model_begin J K n) K 26 L S M := by rfl
set_option maxRecDepth 20000 in
theorem r_Model_begin_27 {s_Model_fail : aS} {s_Model_node : aS} {J : aJ} {K : aR} {n : Nat} {L : aL} {S : List Value} {M : aM} : am_run (c_Model_begin s_Model_fail s_Model_node) k_Model_begin J K (n + 1) 27 L S M = ai_getf 7 3 30 (am_run (c_Model_begin s_Model_fail s_Model_node) k_Model_begin J K n) K 27 L S M := by rfl
set_option maxRecDepth 20000 in
theorem r_Model_begin_30 {s_Model_fail : aS} {s_Model_node : aS} {J : aJ} {K : aR} {n : Nat} {L : aL} {S : List Value} {M : aM} : am_run (c_Model_begin s_Model_fail s_Model_node) k_Model_begin J K (n + 1) 30 L S M = ai_callv2 7 s_Model_fail 33 (am_run (c_Model_begin s_Model_fail s_Model_node) k_Model_begin J K n) K 30 L S M := by rfl
set_option maxRecDepth 20000 in
theorem r_Model_begin_33 {s_Model_fail : aS} {s_Model_node : aS} {J : aJ} {K : aR} {n : Nat} {L : aL} {S : List Value} {M : aM} : am_run (c_Model_begin s_Model_fail s_Model_node) k_Model_begin J K (n + 1) 33 L S M = ai_goto 97 (am_run (c_Model_begin s_Model_fail s_Model_node) k_Model_begin J K n) K 33 L S M := by rfl
set_option maxRecDepth 20000 in
theorem r_Model_begin_36 {s_Model_fail : aS} {s_Model_node : aS} {J : aJ} {K : aR} {n : Nat} {L : aL} {S : List Value} {M : aM} : am_run (c_Model_begin s_Model_fail s_Model_node) k_Model_begin J K (n + 1) 36 L S M = ai_aload 0 37 (am_run (c_Model_begin s_Model_fail s_Model_node) k_Model_begin J K n) K 36 L S M := by rfl
set_option maxRecDepth 20000 in
theorem r_Model_begin_37 {s_Model_fail : aS} {s_Model_node : aS} {J : aJ} {K : aR} {n : Nat} {L : aL} {S : List Value} {M : aM} : am_run (c_Model_begin s_Model_fail s_Model_node) k_Model_begin J K (n + 1) 37 L S M = ai_getf 7 16 40 (am_run (c_Model_begin s_Model_fail s_Model_node) k_Model_begin J K n) K 37 L S M := by rfl
set_option maxRecDepth 20000 in
theorem r_Model_begin_40 {s_Model_fail : aS} {s_Model_node : aS} {J : aJ} {K : aR} {n : Nat} {L : aL} {S : List Value} {M : aM} : am_run (c_Model_begin s_Model_fail s_Model_node) k_Model_begin J K (n + 1) 40 L S M = ai_iload 1 41 (am_run (c_Model_begin s_Model_fail s_Model_node) k_Model_begin J K n) K 40 L S M := by rfl
set_option maxRecDepth 20000 in
theorem r_Model_begin_41 {s_Model_fail : aS} {s_Model_node : aS} {J : aJ} {K : aR} {n : Nat} {L : aL} {S : List Value} {M : aM} : am_run (c_Model_begin s_Model_fail s_Model_node) k_Model_begin J K (n + 1) 41 L S M = ai_iald 42 (am_run (c_Model_begin s_Model_fail s_Model_node) k_Model_begin J K n) K 41 L S M := by rfl
set_option maxRecDepth 20000 in
theorem r_Model_begin_42 {s_Model_fail : aS} {s_Model_node : aS} {J : aJ} {K : aR} {n : Nat} {L : aL} {S : List Value} {M : aM} : am_run (c_Model_begin s_Model_fail s_Model_node) k_Model_begin J K (n + 1) 42 L S M = ai_const 2 43 (am_run (c_Model_begin s_Model_fail s_Model_node) k_Model_begin J K n) K 42 L S M := by rfl
set_option maxRecDepth 20000 in
theorem r_Model_begin_43 {s_Model_fail : aS} {s_Model_node : aS} {J : aJ} {K : aR} {n : Nat} {L : aL} {S : List Value} {M : aM} : am_run (c_Model_begin s_Model_fail s_Model_node) k_Model_begin J K (n + 1) 43 L S M = ai_cmpge 97 46 (am_run (c_Model_begin s_Model_fail s_Model_node) k_Model_begin J K n) K 43 L S M := by rfl
set_option maxRecDepth 20000 in
theorem r_Model_begin_46 {s_Model_fail : aS} {s_Model_node : aS} {J : aJ} {K : aR} {n : Nat} {L : aL} {S : List Value} {M : aM} : am_run (c_Model_begin s_Model_fail s_Model_node) k_Model_begin J K (n + 1) 46 L S M = ai_aload 0 47 (am_run (c_Model_begin s_Model_fail s_Model_node) k_Model_begin J K n) K 46 L S M := by rfl
set_option maxRecDepth 20000 in
theorem r_Model_begin_47 {s_Model_fail : aS} {s_Model_node : aS} {J : aJ} {K : aR} {n : Nat} {L : aL} {S : List Value} {M : aM} : am_run (c_Model_begin s_Model_fail s_Model_node) k_Model_begin J K (n + 1) 47 L S M = ai_const 4 48 (am_run (c_Model_begin s_Model_fail s_Model_node) k_Model_begin J K n) K 47 L S M := by rfl
set_option maxRecDepth 20000 in
theorem r_Model_begin_48 {s_Model_fail : aS} {s_Model_node : aS} {J : aJ} {K : aR} {n : Nat} {L : aL} {S : List Value} {M : aM} : am_run (c_Model_begin s_Model_fail s_Model_node) k_Model_begin J K (n + 1) 48 L S M = ai_callv2 7 s_Model_node 51 (am_run (c_Model_begin s_Model_fail s_Model_node) k_Model_begin J K n) K 48 L S M := by rfl
set_option maxRecDepth 20000 in
theorem r_Model_begin_51 {s_Model_fail : aS} {s_Model_node : aS} {J : aJ} {K : aR} {n : Nat} {L : aL} {S : List Value} {M : aM} : am_run (c_Model_begin s_Model_fail s_Model_node) k_Model_begin J K (n + 1) 51 L S M = ai_istore 2 52 (am_run (c_Model_begin s_Model_fail s_Model_node) k_Model_begin J K n) K 51 L S M := by rfl
set_option maxRecDepth 20000 in
theorem r_Model_begin_52 {s_Model_fail : aS} {s_Model_node : aS} {J : aJ} {K : aR} {n : Nat} {L : aL} {S : List Value} {M : aM} : am_run (c_Model_begin s_Model_fail s_Model_node) k_Model_begin J K (n + 1) 52 L S M = ai_aload 0 53 (am_run (c_Model_begin s_Model_fail s_Model_node) k_Model_begin J K n) K 52 L S M := by rfl
set_option maxRecDepth 20000 in
theorem r_Model_begin_53 {s_Model_fail : aS} {s_Model_node : aS} {J : aJ} {K : aR} {n : Nat} {L : aL} {S : List Value} {M : aM} : am_run (c_Model_begin s_Model_fail s_Model_node) k_Model_begin J K (n + 1) 53 L S M = ai_getf 7 16 56 (am_run (c_Model_begin s_Model_fail s_Model_node) k_Model_begin J K n) K 53 L S M := by rfl
set_option maxRecDepth 20000 in
theorem r_Model_begin_56 {s_Model_fail : aS} {s_Model_node : aS} {J : aJ} {K : aR} {n : Nat} {L : aL} {S : List Value} {M : aM} : am_run (c_Model_begin s_Model_fail s_Model_node) k_Model_begin J K (n + 1) 56 L S M = ai_iload 1 57 (am_run (c_Model_begin s_Model_fail s_Model_node) k_Model_begin J K n) K 56 L S M := by rfl
set_option maxRecDepth 20000 in
theorem r_Model_begin_57 {s_Model_fail : aS} {s_Model_node : aS} {J : aJ} {K : aR} {n : Nat} {L : aL} {S : List Value} {M : aM} : am_run (c_Model_begin s_Model_fail s_Model_node) k_Model_begin J K (n + 1) 57 L S M = ai_iald 58 (am_run (c_Model_begin s_Model_fail s_Model_node) k_Model_begin J K n) K 57 L S M := by rfl
set_option maxRecDepth 20000 in
theorem r_Model_begin_58 {s_Model_fail : aS} {s_Model_node : aS} {J : aJ} {K : aR} {n : Nat} {L : aL} {S : List Value} {M : aM} : am_run (c_Model_begin s_Model_fail s_Model_node) k_Model_begin J K (n + 1) 58 L S M = ai_ifne 71 61 (am_run (c_Model_begin s_Model_fail s_Model_node) k_Model_begin J K n) K 58 L S M := by rfl
set_option maxRecDepth 20000 in
theorem r_Model_begin_61 {s_Model_fail : aS} {s_Model_node : aS} {J : aJ} {K : aR} {n : Nat} {L : aL} {S : List Value} {M : aM} : am_run (c_Model_begin s_Model_fail s_Model_node) k_Model_begin J K (n + 1) 61 L S M = ai_aload 0 62 (am_run (c_Model_begin s_Model_fail s_Model_node) k_Model_begin J K n) K 61 L S M := by rfl
set_option maxRecDepth 20000 in
theorem r_Model_begin_62 {s_Model_fail : aS} {s_Model_node : aS} {J : aJ} {K : aR} {n : Nat} {L : aL} {S : List Value} {M : aM} : am_run (c_Model_begin s_Model_fail s_Model_node) k_Model_begin J K (n + 1) 62 L S M = ai_getf 7 14 65 (am_run (c_Model_begin s_Model_fail s_Model_node) k_Model_begin J K n) K 62 L S M := by rfl
set_option maxRecDepth 20000 in
theorem r_Model_begin_65 {s_Model_fail : aS} {s_Model_node : aS} {J : aJ} {K : aR} {n : Nat} {L : aL} {S : List Value} {M : aM} : am_run (c_Model_begin s_Model_fail s_Model_node) k_Model_begin J K (n + 1) 65 L S M = ai_iload 1 66 (am_run (c_Model_begin s_Model_fail s_Model_node) k_Model_begin J K n) K 65 L S M := by rfl
set_option maxRecDepth 20000 in
theorem r_Model_begin_66 {s_Model_fail : aS} {s_Model_node : aS} {J : aJ} {K : aR} {n : Nat} {L : aL} {S : List Value} {M : aM} : am_run (c_Model_begin s_Model_fail s_Model_node) k_Model_begin J K (n + 1) 66 L S M = ai_iload 2 67 (am_run (c_Model_begin s_Model_fail s_Model_node) k_Model_begin J K n) K 66 L S M := by rfl
set_option maxRecDepth 20000 in
theorem r_Model_begin_67 {s_Model_fail : aS} {s_Model_node : aS} {J : aJ} {K : aR} {n : Nat} {L : aL} {S : List Value} {M : aM} : am_run (c_Model_begin s_Model_fail s_Model_node) k_Model_begin J K (n + 1) 67 L S M = ai_iast 68 (am_run (c_Model_begin s_Model_fail s_Model_node) k_Model_begin J K n) K 67 L S M := by rfl
set_option maxRecDepth 20000 in
theorem r_Model_begin_68 {s_Model_fail : aS} {s_Model_node : aS} {J : aJ} {K : aR} {n : Nat} {L : aL} {S : List Value} {M : aM} : am_run (c_Model_begin s_Model_fail s_Model_node) k_Model_begin J K (n + 1) 68 L S M = ai_goto 83 (am_run (c_Model_begin s_Model_fail s_Model_node) k_Model_begin J K n) K 68 L S M := by rfl
set_option maxRecDepth 20000 in
theorem r_Model_begin_71 {s_Model_fail : aS} {s_Model_node : aS} {J : aJ} {K : aR} {n : Nat} {L : aL} {S : List Value} {M : aM} : am_run (c_Model_begin s_Model_fail s_Model_node) k_Model_begin J K (n + 1) 71 L S M = ai_aload 0 72 (am_run (c_Model_begin s_Model_fail s_Model_node) k_Model_begin J K n) K 71 L S M := by rfl
set_option maxRecDepth 20000 in
theorem r_Model_begin_72 {s_Model_fail : aS} {s_Model_node : aS} {J : aJ} {K : aR} {n : Nat} {L : aL} {S : List Value} {M : aM} : am_run (c_Model_begin s_Model_fail s_Model_node) k_Model_begin J K (n + 1) 72 L S M = ai_getf 7 10 75 (am_run (c_Model_begin s_Model_fail s_Model_node) k_Model_begin J K n) K 72 L S M := by rfl
set_option maxRecDepth 20000 in
theorem r_Model_begin_75 {s_Model_fail : aS} {s_Model_node : aS} {J : aJ} {K : aR} {n : Nat} {L : aL} {S : List Value} {M : aM} : am_run (c_Model_begin s_Model_fail s_Model_node) k_Model_begin J K (n + 1) 75 L S M = ai_aload 0 76 (am_run (c_Model_begin s_Model_fail s_Model_node) k_Model_begin J K n) K 75 L S M := by rfl
set_option maxRecDepth 20000 in
theorem r_Model_begin_76 {s_Model_fail : aS} {s_Model_node : aS} {J : aJ} {K : aR} {n : Nat} {L : aL} {S : List Value} {M : aM} : am_run (c_Model_begin s_Model_fail s_Model_node) k_Model_begin J K (n + 1) 76 L S M = ai_getf 7 15 79 (am_run (c_Model_begin s_Model_fail s_Model_node) k_Model_begin J K n) K 76 L S M := by rfl
set_option maxRecDepth 20000 in
theorem r_Model_begin_79 {s_Model_fail : aS} {s_Model_node : aS} {J : aJ} {K : aR} {n : Nat} {L : aL} {S : List Value} {M : aM} : am_run (c_Model_begin s_Model_fail s_Model_node) k_Model_begin J K (n + 1) 79 L S M = ai_iload 1 80 (am_run (c_Model_begin s_Model_fail s_Model_node) k_Model_begin J K n) K 79 L S M := by rfl
set_option maxRecDepth 20000 in
theorem r_Model_begin_80 {s_Model_fail : aS} {s_Model_node : aS} {J : aJ} {K : aR} {n : Nat} {L : aL} {S : List Value} {M : aM} : am_run (c_Model_begin s_Model_fail s_Model_node) k_Model_begin J K (n + 1) 80 L S M = ai_iald 81 (am_run (c_Model_begin s_Model_fail s_Model_node) k_Model_begin J K n) K 80 L S M := by rfl
set_option maxRecDepth 20000 in
theorem r_Model_begin_81 {s_Model_fail : aS} {s_Model_node : aS} {J : aJ} {K : aR} {n : Nat} {L : aL} {S : List Value} {M : aM} : am_run (c_Model_begin s_Model_fail s_Model_node) k_Model_begin J K (n + 1) 81 L S M = ai_iload 2 82 (am_run (c_Model_begin s_Model_fail s_Model_node) k_Model_begin J K n) K 81 L S M := by rfl
set_option maxRecDepth 20000 in
theorem r_Model_begin_82 {s_Model_fail : aS} {s_Model_node : aS} {J : aJ} {K : aR} {n : Nat} {L : aL} {S : List Value} {M : aM} : am_run (c_Model_begin s_Model_fail s_Model_node) k_Model_begin J K (n + 1) 82 L S M = ai_iast 83 (am_run (c_Model_begin s_Model_fail s_Model_node) k_Model_begin J K n) K 82 L S M := by rfl
set_option maxRecDepth 20000 in
theorem r_Model_begin_83 {s_Model_fail : aS} {s_Model_node : aS} {J : aJ} {K : aR} {n : Nat} {L : aL} {S : List Value} {M : aM} : am_run (c_Model_begin s_Model_fail s_Model_node) k_Model_begin J K (n + 1) 83 L S M = ai_aload 0 84 (am_run (c_Model_begin s_Model_fail s_Model_node) k_Model_begin J K n) K 83 L S M := by rfl
set_option maxRecDepth 20000 in
theorem r_Model_begin_84 {s_Model_fail : aS} {s_Model_node : aS} {J : aJ} {K : aR} {n : Nat} {L : aL} {S : List Value} {M : aM} : am_run (c_Model_begin s_Model_fail s_Model_node) k_Model_begin J K (n + 1) 84 L S M = ai_getf 7 15 87 (am_run (c_Model_begin s_Model_fail s_Model_node) k_Model_begin J K n) K 84 L S M := by rfl
set_option maxRecDepth 20000 in
theorem r_Model_begin_87 {s_Model_fail : aS} {s_Model_node : aS} {J : aJ} {K : aR} {n : Nat} {L : aL} {S : List Value} {M : aM} : am_run (c_Model_begin s_Model_fail s_Model_node) k_Model_begin J K (n + 1) 87 L S M = ai_iload 1 88 (am_run (c_Model_begin s_Model_fail s_Model_node) k_Model_begin J K n) K 87 L S M := by rfl
set_option maxRecDepth 20000 in
theorem r_Model_begin_88 {s_Model_fail : aS} {s_Model_node : aS} {J : aJ} {K : aR} {n : Nat} {L : aL} {S : List Value} {M : aM} : am_run (c_Model_begin s_Model_fail s_Model_node) k_Model_begin J K (n + 1) 88 L S M = ai_iload 2 89 (am_run (c_Model_begin s_Model_fail s_Model_node) k_Model_begin J K n) K 88 L S M := by rfl
set_option maxRecDepth 20000 in
theorem r_Model_begin_89 {s_Model_fail : aS} {s_Model_node : aS} {J : aJ} {K : aR} {n : Nat} {L : aL} {S : List Value} {M : aM} : am_run (c_Model_begin s_Model_fail s_Model_node) k_Model_begin J K (n + 1) 89 L S M = ai_iast 90 (am_run (c_Model_begin s_Model_fail s_Model_node) k_Model_begin J K n) K 89 L S M := by rfl
set_option maxRecDepth 20000 in
theorem r_Model_begin_90 {s_Model_fail : aS} {s_Model_node : aS} {J : aJ} {K : aR} {n : Nat} {L : aL} {S : List Value} {M : aM} : am_run (c_Model_begin s_Model_fail s_Model_node) k_Model_begin J K (n + 1) 90 L S M = ai_aload 0 91 (am_run (c_Model_begin s_Model_fail s_Model_node) k_Model_begin J K n) K 90 L S M := by rfl
set_option maxRecDepth 20000 in
theorem r_Model_begin_91 {s_Model_fail : aS} {s_Model_node : aS} {J : aJ} {K : aR} {n : Nat} {L : aL} {S : List Value} {M : aM} : am_run (c_Model_begin s_Model_fail s_Model_node) k_Model_begin J K (n + 1) 91 L S M = ai_getf 7 16 94 (am_run (c_Model_begin s_Model_fail s_Model_node) k_Model_begin J K n) K 91 L S M := by rfl
set_option maxRecDepth 20000 in
theorem r_Model_begin_94 {s_Model_fail : aS} {s_Model_node : aS} {J : aJ} {K : aR} {n : Nat} {L : aL} {S : List Value} {M : aM} : am_run (c_Model_begin s_Model_fail s_Model_node) k_Model_begin J K (n + 1) 94 L S M = ai_iload 1 95 (am_run (c_Model_begin s_Model_fail s_Model_node) k_Model_begin J K n) K 94 L S M := by rfl
set_option maxRecDepth 20000 in
theorem r_Model_begin_95 {s_Model_fail : aS} {s_Model_node : aS} {J : aJ} {K : aR} {n : Nat} {L : aL} {S : List Value} {M : aM} : am_run (c_Model_begin s_Model_fail s_Model_node) k_Model_begin J K (n + 1) 95 L S M = ai_const 1 96 (am_run (c_Model_begin s_Model_fail s_Model_node) k_Model_begin J K n) K 95 L S M := by rfl
set_option maxRecDepth 20000 in
theorem r_Model_begin_96 {s_Model_fail : aS} {s_Model_node : aS} {J : aJ} {K : aR} {n : Nat} {L : aL} {S : List Value} {M : aM} : am_run (c_Model_begin s_Model_fail s_Model_node) k_Model_begin J K (n + 1) 96 L S M = ai_iast 97 (am_run (c_Model_begin s_Model_fail s_Model_node) k_Model_begin J K n) K 96 L S M := by rfl
set_option maxRecDepth 20000 in
theorem r_Model_begin_97 {s_Model_fail : aS} {s_Model_node : aS} {J : aJ} {K : aR} {n : Nat} {L : aL} {S : List Value} {M : aM} : am_run (c_Model_begin s_Model_fail s_Model_node) k_Model_begin J K (n + 1) 97 L S M = ai_vret (am_run (c_Model_begin s_Model_fail s_Model_node) k_Model_begin J K n) K 97 L S M := by rfl
def c_Model_end (s_Model_node : aS) : List (Nat × aI) := [
  (0, ai_iload 1 1),
  (1, ai_istore 2 2),
  (2, ai_const 1 3),
  (3, ai_istore 3 4),
  (4, ai_iload 3 5),
  (5, ai_ifeq 192 8),
  (8, ai_aload 0 9),
  (9, ai_getf 7 4 12),
  (12, ai_ifge 192 15),
  (15, ai_const 0 16),
  (16, ai_istore 3 17),
  (17, ai_aload 0 18),
  (18, ai_getf 7 13 21),
  (21, ai_ifne 47 24),
  (24, ai_aload 0 25),
  (25, ai_getf 7 12 28),
  (28, ai_aload 0 29),
  (29, ai_getf 7 11 32),
  (32, ai_iload 2 33),
  (33, ai_iast 34),
  (34, ai_aload 0 35),
  (35, ai_aload 0 36),
  (36, ai_getf 7 11 39),
  (39, ai_const 1 40),
  (40, ai_iadd 41),
  (41, ai_putf 7 11 44),
  (44, ai_goto 4),
  (47, ai_aload 0 48),
  (48, ai_getf 7 16 51),
  (51, ai_aload 0 52),
  (52, ai_getf 7 13 55),
  (55, ai_const 1 56),
  (56, ai_isub 57),
  (57, ai_iald 58),
  (58, ai_const 4 59),
  (59, ai_cmpne 125 62),
  (62, ai_aload 0 63),
  (63, ai_getf 7 9 66),
  (66, ai_aload 0 67),
  (67, ai_getf 7 15 70),
  (70, ai_aload 0 71),
  (71, ai_getf 7 13 74),
  (74, ai_const 1 75),
  (75, ai_isub 76),
  (76, ai_iald 77),
  (77, ai_iload 2 78),
  (78, ai_iast 79),
  (79, ai_aload 0 80),
  (80, ai_getf 7 10 83),
  (83, ai_aload 0 84),
  (84, ai_getf 7 15 87),
  (87, ai_aload 0 88),
  (88, ai_getf 7 13 91),
  (91, ai_const 1 92),
  (92, ai_isub 93),
  (93, ai_iald 94),
  (94, ai_aload 0 95),
  (95, ai_const 5 96),
  (96, ai_callv2 7 s_Model_node 99),
  (99, ai_iast 100),
  (100, ai_aload 0 101),
  (101, ai_aload 0 102),
  (102, ai_getf 7 13 105),
  (105, ai_const 1 106),
  (106, ai_isub 107),
  (107, ai_putf 7 13 110),
  (110, ai_aload 0 111),
  (111, ai_getf 7 14 114),
  (114, ai_aload 0 115),
  (115, ai_getf 7 13 118),
  (118, ai_iald 119),
  (119, ai_istore 2 120),
  (120, ai_const 1 121),
  (121, ai_istore 3 122),
  (122, ai_goto 4),
  (125, ai_aload 0 126),
  (126, ai_getf 7 16 129),
  (129, ai_aload 0 130),
  (130, ai_getf 7 13 133),
  (133, ai_const 1 134),
  (134, ai_isub 135),
  (135, ai_iald 136),
  (136, ai_const 2 137),
  (137, ai_cmpne 172 140),
  (140, ai_aload 0 141),
  (141, ai_getf 7 10 144),
  (144, ai_aload 0 145),
  (145, ai_getf 7 15 148),
  (148, ai_aload 0 149),
  (149, ai_getf 7 13 152),
  (152, ai_const 1 153),
  (153, ai_isub 154),
  (154, ai_iald 155),
  (155, ai_iload 2 156),
  (156, ai_iast 157),
  (157, ai_aload 0 158),
  (158, ai_getf 7 16 161),
  (161, ai_aload 0 162),
  (162, ai_getf 7 13 165),
  (165, ai_const 1 166),
  (166, ai_isub 167),
  (167, ai_const 3 168),
  (168, ai_iast 169),
  (169, ai_goto 4),
  (172, ai_aload 0 173),
  (173, ai_getf 7 9 176),
  (176, ai_aload 0 177),
  (177, ai_getf 7 15 180),
  (180, ai_aload 0 181),
  (181, ai_getf 7 13 184),
  (184, ai_const 1 185),
  (185, ai_isub 186),
  (186, ai_iald 187),
  (187, ai_iload 2 188),
  (188, ai_iast 189),
  (189, ai_goto 4),
  (192, ai_vret)]
set_option maxRecDepth 100000 in
set_option maxHeartbeats 4000000 in
theorem tb_Model_end {G : aG} {d : Nat} {s_Model_node : aS} {d_Model_node : Nat} (h_Model_node : am_Sp G Y_Model_node d_Model_node s_Model_node) (l_Model_node : d_Model_node < d) : am_tab G Y_Model_end d (c_Model_end s_Model_node) := by
  intro K p e s m args below meth c C
  exact ⟨as_iload_n C (pc := 0) (q := 1) (by decide +kernel) rfl rfl,
    as_istore_n C (pc := 1) (q := 2) (by decide +kernel) rfl (by decide) rfl,
    as_iconst C (pc := 2) (n := 1) (by decide +kernel) (by decide +kernel) rfl,
    as_istore_n C (pc := 3) (q := 3) (by decide +kernel) rfl (by decide) rfl,
    as_iload_n C (pc := 4) (q := 3) (by decide +kernel) rfl rfl,
    as_ifeq C (pc := 5) (off := 187) (by decide +kernel) (by decide) rfl,
    as_aload_n C (pc := 8) (q := 0) (by decide +kernel) rfl rfl,
    as_getf C (pc := 9) (T := T_Model) (N := 21) rfl in_Model (by decide) rfl w_521 (by decide +kernel) rfl,
    as_ifge C (pc := 12) (off := 180) (by decide +kernel) (by decide) rfl,
    as_iconst C (pc := 15) (n := 0) (by decide +kernel) (by decide +kernel) rfl,
    as_istore_n C (pc := 16) (q := 3) (by decide +kernel) rfl (by decide) rfl,
    as_aload_n C (pc := 17) (q := 0) (by decide +kernel) rfl rfl,
    as_getf C (pc := 18) (T := T_Model) (N := 21) rfl in_Model (by decide) rfl w_530 (by decide +kernel) rfl,
    as_ifne C (pc := 21) (off := 26) (by decide +kernel) (by decide) rfl,
    as_aload_n C (pc := 24) (q := 0) (by decide +kernel) rfl rfl,
    as_getf C (pc := 25) (T := T_Model) (N := 21) rfl in_Model (by decide) rfl w_529 (by decide +kernel) rfl,
    as_aload_n C (pc := 28) (q := 0) (by decide +kernel) rfl rfl,
    as_getf C (pc := 29) (T := T_Model) (N := 21) rfl in_Model (by decide) rfl w_528 (by decide +kernel) rfl,
    as_iload_n C (pc := 32) (q := 2) (by decide +kernel) rfl rfl,
    as_iast C (pc := 33) (by decide +kernel) rfl,
    as_aload_n C (pc := 34) (q := 0) (by decide +kernel) rfl rfl,
    as_aload_n C (pc := 35) (q := 0) (by decide +kernel) rfl rfl,
    as_getf C (pc := 36) (T := T_Model) (N := 21) rfl in_Model (by decide) rfl w_528 (by decide +kernel) rfl,
    as_iconst C (pc := 39) (n := 1) (by decide +kernel) (by decide +kernel) rfl,
    as_iadd C (pc := 40) (by decide +kernel) rfl,
    as_putf C (pc := 41) t_Model (T := T_Model) (N := 21) rfl in_Model tok_Model nm_Model (by decide) rfl rfl (by decide +kernel) w_528 (by decide +kernel) rfl,
    as_goto C (pc := 44) (off := (-40)) (by decide +kernel) (by decide),
    as_aload_n C (pc := 47) (q := 0) (by decide +kernel) rfl rfl,
    as_getf C (pc := 48) (T := T_Model) (N := 21) rfl in_Model (by decide) rfl w_533 (by decide +kernel) rfl,
    as_aload_n C (pc := 51) (q := 0) (by decide +kernel) rfl rfl,
    as_getf C (pc := 52) (T := T_Model) (N := 21) rfl in_Model (by decide) rfl w_530 (by decide +kernel) rfl,
    as_iconst C (pc := 55) (n := 1) (by decide +kernel) (by decide +kernel) rfl,
    as_isub C (pc := 56) (by decide +kernel) rfl,
    as_iald C (pc := 57) (by decide +kernel) rfl,
    as_iconst C (pc := 58) (n := 4) (by decide +kernel) (by decide +kernel) rfl,
    as_cmpne C (pc := 59) (off := 66) (by decide +kernel) (by decide) rfl,
    as_aload_n C (pc := 62) (q := 0) (by decide +kernel) rfl rfl,
    as_getf C (pc := 63) (T := T_Model) (N := 21) rfl in_Model (by decide) rfl w_526 (by decide +kernel) rfl,
    as_aload_n C (pc := 66) (q := 0) (by decide +kernel) rfl rfl,
    as_getf C (pc := 67) (T := T_Model) (N := 21) rfl in_Model (by decide) rfl w_532 (by decide +kernel) rfl,
    as_aload_n C (pc := 70) (q := 0) (by decide +kernel) rfl rfl,
    as_getf C (pc := 71) (T := T_Model) (N := 21) rfl in_Model (by decide) rfl w_530 (by decide +kernel) rfl,
    as_iconst C (pc := 74) (n := 1) (by decide +kernel) (by decide +kernel) rfl,
    as_isub C (pc := 75) (by decide +kernel) rfl,
    as_iald C (pc := 76) (by decide +kernel) rfl,
    as_iload_n C (pc := 77) (q := 2) (by decide +kernel) rfl rfl,
    as_iast C (pc := 78) (by decide +kernel) rfl,
    as_aload_n C (pc := 79) (q := 0) (by decide +kernel) rfl rfl,
    as_getf C (pc := 80) (T := T_Model) (N := 21) rfl in_Model (by decide) rfl w_527 (by decide +kernel) rfl,
    as_aload_n C (pc := 83) (q := 0) (by decide +kernel) rfl rfl,
    as_getf C (pc := 84) (T := T_Model) (N := 21) rfl in_Model (by decide) rfl w_532 (by decide +kernel) rfl,
    as_aload_n C (pc := 87) (q := 0) (by decide +kernel) rfl rfl,
    as_getf C (pc := 88) (T := T_Model) (N := 21) rfl in_Model (by decide) rfl w_530 (by decide +kernel) rfl,
    as_iconst C (pc := 91) (n := 1) (by decide +kernel) (by decide +kernel) rfl,
    as_isub C (pc := 92) (by decide +kernel) rfl,
    as_iald C (pc := 93) (by decide +kernel) rfl,
    as_aload_n C (pc := 94) (q := 0) (by decide +kernel) rfl rfl,
    as_iconst C (pc := 95) (n := 5) (by decide +kernel) (by decide +kernel) rfl,
    as_callv2 C (pc := 96) h_Model_node (T := T_Model) (N := 21) rfl w_629 w_78 w_628 w_57 w_626 hy_Model_node (am_rm_of l_Model_node (by decide)) (by decide +kernel) rfl,
    as_iast C (pc := 99) (by decide +kernel) rfl,
    as_aload_n C (pc := 100) (q := 0) (by decide +kernel) rfl rfl,
    as_aload_n C (pc := 101) (q := 0) (by decide +kernel) rfl rfl,
    as_getf C (pc := 102) (T := T_Model) (N := 21) rfl in_Model (by decide) rfl w_530 (by decide +kernel) rfl,
    as_iconst C (pc := 105) (n := 1) (by decide +kernel) (by decide +kernel) rfl,
    as_isub C (pc := 106) (by decide +kernel) rfl,
    as_putf C (pc := 107) t_Model (T := T_Model) (N := 21) rfl in_Model tok_Model nm_Model (by decide) rfl rfl (by decide +kernel) w_530 (by decide +kernel) rfl,
    as_aload_n C (pc := 110) (q := 0) (by decide +kernel) rfl rfl,
    as_getf C (pc := 111) (T := T_Model) (N := 21) rfl in_Model (by decide) rfl w_531 (by decide +kernel) rfl,
    as_aload_n C (pc := 114) (q := 0) (by decide +kernel) rfl rfl,
    as_getf C (pc := 115) (T := T_Model) (N := 21) rfl in_Model (by decide) rfl w_530 (by decide +kernel) rfl,
    as_iald C (pc := 118) (by decide +kernel) rfl,
    as_istore_n C (pc := 119) (q := 2) (by decide +kernel) rfl (by decide) rfl,
    as_iconst C (pc := 120) (n := 1) (by decide +kernel) (by decide +kernel) rfl,
    as_istore_n C (pc := 121) (q := 3) (by decide +kernel) rfl (by decide) rfl,
    as_goto C (pc := 122) (off := (-118)) (by decide +kernel) (by decide),
    as_aload_n C (pc := 125) (q := 0) (by decide +kernel) rfl rfl,
    as_getf C (pc := 126) (T := T_Model) (N := 21) rfl in_Model (by decide) rfl w_533 (by decide +kernel) rfl,
    as_aload_n C (pc := 129) (q := 0) (by decide +kernel) rfl rfl,
    as_getf C (pc := 130) (T := T_Model) (N := 21) rfl in_Model (by decide) rfl w_530 (by decide +kernel) rfl,
    as_iconst C (pc := 133) (n := 1) (by decide +kernel) (by decide +kernel) rfl,
    as_isub C (pc := 134) (by decide +kernel) rfl,
    as_iald C (pc := 135) (by decide +kernel) rfl,
    as_iconst C (pc := 136) (n := 2) (by decide +kernel) (by decide +kernel) rfl,
    as_cmpne C (pc := 137) (off := 35) (by decide +kernel) (by decide) rfl,
    as_aload_n C (pc := 140) (q := 0) (by decide +kernel) rfl rfl,
    as_getf C (pc := 141) (T := T_Model) (N := 21) rfl in_Model (by decide) rfl w_527 (by decide +kernel) rfl,
    as_aload_n C (pc := 144) (q := 0) (by decide +kernel) rfl rfl,
    as_getf C (pc := 145) (T := T_Model) (N := 21) rfl in_Model (by decide) rfl w_532 (by decide +kernel) rfl,
    as_aload_n C (pc := 148) (q := 0) (by decide +kernel) rfl rfl,
    as_getf C (pc := 149) (T := T_Model) (N := 21) rfl in_Model (by decide) rfl w_530 (by decide +kernel) rfl,
    as_iconst C (pc := 152) (n := 1) (by decide +kernel) (by decide +kernel) rfl,
    as_isub C (pc := 153) (by decide +kernel) rfl,
    as_iald C (pc := 154) (by decide +kernel) rfl,
    as_iload_n C (pc := 155) (q := 2) (by decide +kernel) rfl rfl,
    as_iast C (pc := 156) (by decide +kernel) rfl,
    as_aload_n C (pc := 157) (q := 0) (by decide +kernel) rfl rfl,
    as_getf C (pc := 158) (T := T_Model) (N := 21) rfl in_Model (by decide) rfl w_533 (by decide +kernel) rfl,
    as_aload_n C (pc := 161) (q := 0) (by decide +kernel) rfl rfl,
    as_getf C (pc := 162) (T := T_Model) (N := 21) rfl in_Model (by decide) rfl w_530 (by decide +kernel) rfl,
    as_iconst C (pc := 165) (n := 1) (by decide +kernel) (by decide +kernel) rfl,
    as_isub C (pc := 166) (by decide +kernel) rfl,
    as_iconst C (pc := 167) (n := 3) (by decide +kernel) (by decide +kernel) rfl,
    as_iast C (pc := 168) (by decide +kernel) rfl,
    as_goto C (pc := 169) (off := (-165)) (by decide +kernel) (by decide),
    as_aload_n C (pc := 172) (q := 0) (by decide +kernel) rfl rfl,
    as_getf C (pc := 173) (T := T_Model) (N := 21) rfl in_Model (by decide) rfl w_526 (by decide +kernel) rfl,
    as_aload_n C (pc := 176) (q := 0) (by decide +kernel) rfl rfl,
    as_getf C (pc := 177) (T := T_Model) (N := 21) rfl in_Model (by decide) rfl w_532 (by decide +kernel) rfl,
    as_aload_n C (pc := 180) (q := 0) (by decide +kernel) rfl rfl,
    as_getf C (pc := 181) (T := T_Model) (N := 21) rfl in_Model (by decide) rfl w_530 (by decide +kernel) rfl,
    as_iconst C (pc := 184) (n := 1) (by decide +kernel) (by decide +kernel) rfl,
    as_isub C (pc := 185) (by decide +kernel) rfl,
    as_iald C (pc := 186) (by decide +kernel) rfl,
    as_iload_n C (pc := 187) (q := 2) (by decide +kernel) rfl rfl,
    as_iast C (pc := 188) (by decide +kernel) rfl,
    as_goto C (pc := 189) (off := (-185)) (by decide +kernel) (by decide),
    as_vret C (pc := 192) rfl (by decide +kernel), trivial⟩
abbrev k_Model_end : List Nat := [4]
set_option maxRecDepth 20000 in
theorem q_Model_end_4 {s_Model_node : aS} : am_at (c_Model_end s_Model_node) 4 = ai_iload 3 5 := by rfl
set_option maxRecDepth 20000 in
theorem r_Model_end_0 {s_Model_node : aS} {J : aJ} {K : aR} {n : Nat} {L : aL} {S : List Value} {M : aM} : am_run (c_Model_end s_Model_node) k_Model_end J K (n + 1) 0 L S M = ai_iload 1 1 (am_run (c_Model_end s_Model_node) k_Model_end J K n) K 0 L S M := by rfl
set_option maxRecDepth 20000 in
theorem r_Model_end_1 {s_Model_node : aS} {J : aJ} {K : aR} {n : Nat} {L : aL} {S : List Value} {M : aM} : am_run (c_Model_end s_Model_node) k_Model_end J K (n + 1) 1 L S M = ai_istore 2 2 (am_run (c_Model_end s_Model_node) k_Model_end J K n) K 1 L S M := by rfl
set_option maxRecDepth 20000 in
theorem r_Model_end_2 {s_Model_node : aS} {J : aJ} {K : aR} {n : Nat} {L : aL} {S : List Value} {M : aM} : am_run (c_Model_end s_Model_node) k_Model_end J K (n + 1) 2 L S M = ai_const 1 3 (am_run (c_Model_end s_Model_node) k_Model_end J K n) K 2 L S M := by rfl
set_option maxRecDepth 20000 in
theorem r_Model_end_3 {s_Model_node : aS} {J : aJ} {K : aR} {n : Nat} {L : aL} {S : List Value} {M : aM} : am_run (c_Model_end s_Model_node) k_Model_end J K (n + 1) 3 L S M = ai_istore 3 4 (am_run (c_Model_end s_Model_node) k_Model_end J K n) K 3 L S M := by rfl
set_option maxRecDepth 20000 in
theorem r_Model_end_4 {s_Model_node : aS} {J : aJ} {K : aR} {n : Nat} {L : aL} {S : List Value} {M : aM} : am_run (c_Model_end s_Model_node) k_Model_end J K (n + 1) 4 L S M = J 4 L S M := by rfl
set_option maxRecDepth 20000 in
theorem r_Model_end_5 {s_Model_node : aS} {J : aJ} {K : aR} {n : Nat} {L : aL} {S : List Value} {M : aM} : am_run (c_Model_end s_Model_node) k_Model_end J K (n + 1) 5 L S M = ai_ifeq 192 8 (am_run (c_Model_end s_Model_node) k_Model_end J K n) K 5 L S M := by rfl
set_option maxRecDepth 20000 in
theorem r_Model_end_8 {s_Model_node : aS} {J : aJ} {K : aR} {n : Nat} {L : aL} {S : List Value} {M : aM} : am_run (c_Model_end s_Model_node) k_Model_end J K (n + 1) 8 L S M = ai_aload 0 9 (am_run (c_Model_end s_Model_node) k_Model_end J K n) K 8 L S M := by rfl
set_option maxRecDepth 20000 in
theorem r_Model_end_9 {s_Model_node : aS} {J : aJ} {K : aR} {n : Nat} {L : aL} {S : List Value} {M : aM} : am_run (c_Model_end s_Model_node) k_Model_end J K (n + 1) 9 L S M = ai_getf 7 4 12 (am_run (c_Model_end s_Model_node) k_Model_end J K n) K 9 L S M := by rfl
set_option maxRecDepth 20000 in
theorem r_Model_end_12 {s_Model_node : aS} {J : aJ} {K : aR} {n : Nat} {L : aL} {S : List Value} {M : aM} : am_run (c_Model_end s_Model_node) k_Model_end J K (n + 1) 12 L S M = ai_ifge 192 15 (am_run (c_Model_end s_Model_node) k_Model_end J K n) K 12 L S M := by rfl
set_option maxRecDepth 20000 in
theorem r_Model_end_15 {s_Model_node : aS} {J : aJ} {K : aR} {n : Nat} {L : aL} {S : List Value} {M : aM} : am_run (c_Model_end s_Model_node) k_Model_end J K (n + 1) 15 L S M = ai_const 0 16 (am_run (c_Model_end s_Model_node) k_Model_end J K n) K 15 L S M := by rfl
set_option maxRecDepth 20000 in
theorem r_Model_end_16 {s_Model_node : aS} {J : aJ} {K : aR} {n : Nat} {L : aL} {S : List Value} {M : aM} : am_run (c_Model_end s_Model_node) k_Model_end J K (n + 1) 16 L S M = ai_istore 3 17 (am_run (c_Model_end s_Model_node) k_Model_end J K n) K 16 L S M := by rfl
set_option maxRecDepth 20000 in
theorem r_Model_end_17 {s_Model_node : aS} {J : aJ} {K : aR} {n : Nat} {L : aL} {S : List Value} {M : aM} : am_run (c_Model_end s_Model_node) k_Model_end J K (n + 1) 17 L S M = ai_aload 0 18 (am_run (c_Model_end s_Model_node) k_Model_end J K n) K 17 L S M := by rfl
set_option maxRecDepth 20000 in
theorem r_Model_end_18 {s_Model_node : aS} {J : aJ} {K : aR} {n : Nat} {L : aL} {S : List Value} {M : aM} : am_run (c_Model_end s_Model_node) k_Model_end J K (n + 1) 18 L S M = ai_getf 7 13 21 (am_run (c_Model_end s_Model_node) k_Model_end J K n) K 18 L S M := by rfl
set_option maxRecDepth 20000 in
theorem r_Model_end_21 {s_Model_node : aS} {J : aJ} {K : aR} {n : Nat} {L : aL} {S : List Value} {M : aM} : am_run (c_Model_end s_Model_node) k_Model_end J K (n + 1) 21 L S M = ai_ifne 47 24 (am_run (c_Model_end s_Model_node) k_Model_end J K n) K 21 L S M := by rfl
set_option maxRecDepth 20000 in
theorem r_Model_end_24 {s_Model_node : aS} {J : aJ} {K : aR} {n : Nat} {L : aL} {S : List Value} {M : aM} : am_run (c_Model_end s_Model_node) k_Model_end J K (n + 1) 24 L S M = ai_aload 0 25 (am_run (c_Model_end s_Model_node) k_Model_end J K n) K 24 L S M := by rfl
set_option maxRecDepth 20000 in
theorem r_Model_end_25 {s_Model_node : aS} {J : aJ} {K : aR} {n : Nat} {L : aL} {S : List Value} {M : aM} : am_run (c_Model_end s_Model_node) k_Model_end J K (n + 1) 25 L S M = ai_getf 7 12 28 (am_run (c_Model_end s_Model_node) k_Model_end J K n) K 25 L S M := by rfl
set_option maxRecDepth 20000 in
theorem r_Model_end_28 {s_Model_node : aS} {J : aJ} {K : aR} {n : Nat} {L : aL} {S : List Value} {M : aM} : am_run (c_Model_end s_Model_node) k_Model_end J K (n + 1) 28 L S M = ai_aload 0 29 (am_run (c_Model_end s_Model_node) k_Model_end J K n) K 28 L S M := by rfl
set_option maxRecDepth 20000 in
theorem r_Model_end_29 {s_Model_node : aS} {J : aJ} {K : aR} {n : Nat} {L : aL} {S : List Value} {M : aM} : am_run (c_Model_end s_Model_node) k_Model_end J K (n + 1) 29 L S M = ai_getf 7 11 32 (am_run (c_Model_end s_Model_node) k_Model_end J K n) K 29 L S M := by rfl
set_option maxRecDepth 20000 in
theorem r_Model_end_32 {s_Model_node : aS} {J : aJ} {K : aR} {n : Nat} {L : aL} {S : List Value} {M : aM} : am_run (c_Model_end s_Model_node) k_Model_end J K (n + 1) 32 L S M = ai_iload 2 33 (am_run (c_Model_end s_Model_node) k_Model_end J K n) K 32 L S M := by rfl
set_option maxRecDepth 20000 in
theorem r_Model_end_33 {s_Model_node : aS} {J : aJ} {K : aR} {n : Nat} {L : aL} {S : List Value} {M : aM} : am_run (c_Model_end s_Model_node) k_Model_end J K (n + 1) 33 L S M = ai_iast 34 (am_run (c_Model_end s_Model_node) k_Model_end J K n) K 33 L S M := by rfl
set_option maxRecDepth 20000 in
theorem r_Model_end_34 {s_Model_node : aS} {J : aJ} {K : aR} {n : Nat} {L : aL} {S : List Value} {M : aM} : am_run (c_Model_end s_Model_node) k_Model_end J K (n + 1) 34 L S M = ai_aload 0 35 (am_run (c_Model_end s_Model_node) k_Model_end J K n) K 34 L S M := by rfl
set_option maxRecDepth 20000 in
theorem r_Model_end_35 {s_Model_node : aS} {J : aJ} {K : aR} {n : Nat} {L : aL} {S : List Value} {M : aM} : am_run (c_Model_end s_Model_node) k_Model_end J K (n + 1) 35 L S M = ai_aload 0 36 (am_run (c_Model_end s_Model_node) k_Model_end J K n) K 35 L S M := by rfl
set_option maxRecDepth 20000 in
theorem r_Model_end_36 {s_Model_node : aS} {J : aJ} {K : aR} {n : Nat} {L : aL} {S : List Value} {M : aM} : am_run (c_Model_end s_Model_node) k_Model_end J K (n + 1) 36 L S M = ai_getf 7 11 39 (am_run (c_Model_end s_Model_node) k_Model_end J K n) K 36 L S M := by rfl
set_option maxRecDepth 20000 in
theorem r_Model_end_39 {s_Model_node : aS} {J : aJ} {K : aR} {n : Nat} {L : aL} {S : List Value} {M : aM} : am_run (c_Model_end s_Model_node) k_Model_end J K (n + 1) 39 L S M = ai_const 1 40 (am_run (c_Model_end s_Model_node) k_Model_end J K n) K 39 L S M := by rfl
set_option maxRecDepth 20000 in
theorem r_Model_end_40 {s_Model_node : aS} {J : aJ} {K : aR} {n : Nat} {L : aL} {S : List Value} {M : aM} : am_run (c_Model_end s_Model_node) k_Model_end J K (n + 1) 40 L S M = ai_iadd 41 (am_run (c_Model_end s_Model_node) k_Model_end J K n) K 40 L S M := by rfl
set_option maxRecDepth 20000 in
theorem r_Model_end_41 {s_Model_node : aS} {J : aJ} {K : aR} {n : Nat} {L : aL} {S : List Value} {M : aM} : am_run (c_Model_end s_Model_node) k_Model_end J K (n + 1) 41 L S M = ai_putf 7 11 44 (am_run (c_Model_end s_Model_node) k_Model_end J K n) K 41 L S M := by rfl
set_option maxRecDepth 20000 in
theorem r_Model_end_44 {s_Model_node : aS} {J : aJ} {K : aR} {n : Nat} {L : aL} {S : List Value} {M : aM} : am_run (c_Model_end s_Model_node) k_Model_end J K (n + 1) 44 L S M = ai_goto 4 (am_run (c_Model_end s_Model_node) k_Model_end J K n) K 44 L S M := by rfl
set_option maxRecDepth 20000 in
theorem r_Model_end_47 {s_Model_node : aS} {J : aJ} {K : aR} {n : Nat} {L : aL} {S : List Value} {M : aM} : am_run (c_Model_end s_Model_node) k_Model_end J K (n + 1) 47 L S M = ai_aload 0 48 (am_run (c_Model_end s_Model_node) k_Model_end J K n) K 47 L S M := by rfl
set_option maxRecDepth 20000 in
theorem r_Model_end_48 {s_Model_node : aS} {J : aJ} {K : aR} {n : Nat} {L : aL} {S : List Value} {M : aM} : am_run (c_Model_end s_Model_node) k_Model_end J K (n + 1) 48 L S M = ai_getf 7 16 51 (am_run (c_Model_end s_Model_node) k_Model_end J K n) K 48 L S M := by rfl
set_option maxRecDepth 20000 in
theorem r_Model_end_51 {s_Model_node : aS} {J : aJ} {K : aR} {n : Nat} {L : aL} {S : List Value} {M : aM} : am_run (c_Model_end s_Model_node) k_Model_end J K (n + 1) 51 L S M = ai_aload 0 52 (am_run (c_Model_end s_Model_node) k_Model_end J K n) K 51 L S M := by rfl
set_option maxRecDepth 20000 in
theorem r_Model_end_52 {s_Model_node : aS} {J : aJ} {K : aR} {n : Nat} {L : aL} {S : List Value} {M : aM} : am_run (c_Model_end s_Model_node) k_Model_end J K (n + 1) 52 L S M = ai_getf 7 13 55 (am_run (c_Model_end s_Model_node) k_Model_end J K n) K 52 L S M := by rfl
set_option maxRecDepth 20000 in
theorem r_Model_end_55 {s_Model_node : aS} {J : aJ} {K : aR} {n : Nat} {L : aL} {S : List Value} {M : aM} : am_run (c_Model_end s_Model_node) k_Model_end J K (n + 1) 55 L S M = ai_const 1 56 (am_run (c_Model_end s_Model_node) k_Model_end J K n) K 55 L S M := by rfl
set_option maxRecDepth 20000 in
theorem r_Model_end_56 {s_Model_node : aS} {J : aJ} {K : aR} {n : Nat} {L : aL} {S : List Value} {M : aM} : am_run (c_Model_end s_Model_node) k_Model_end J K (n + 1) 56 L S M = ai_isub 57 (am_run (c_Model_end s_Model_node) k_Model_end J K n) K 56 L S M := by rfl
set_option maxRecDepth 20000 in
theorem r_Model_end_57 {s_Model_node : aS} {J : aJ} {K : aR} {n : Nat} {L : aL} {S : List Value} {M : aM} : am_run (c_Model_end s_Model_node) k_Model_end J K (n + 1) 57 L S M = ai_iald 58 (am_run (c_Model_end s_Model_node) k_Model_end J K n) K 57 L S M := by rfl
set_option maxRecDepth 20000 in
theorem r_Model_end_58 {s_Model_node : aS} {J : aJ} {K : aR} {n : Nat} {L : aL} {S : List Value} {M : aM} : am_run (c_Model_end s_Model_node) k_Model_end J K (n + 1) 58 L S M = ai_const 4 59 (am_run (c_Model_end s_Model_node) k_Model_end J K n) K 58 L S M := by rfl
set_option maxRecDepth 20000 in
theorem r_Model_end_59 {s_Model_node : aS} {J : aJ} {K : aR} {n : Nat} {L : aL} {S : List Value} {M : aM} : am_run (c_Model_end s_Model_node) k_Model_end J K (n + 1) 59 L S M = ai_cmpne 125 62 (am_run (c_Model_end s_Model_node) k_Model_end J K n) K 59 L S M := by rfl
set_option maxRecDepth 20000 in
theorem r_Model_end_62 {s_Model_node : aS} {J : aJ} {K : aR} {n : Nat} {L : aL} {S : List Value} {M : aM} : am_run (c_Model_end s_Model_node) k_Model_end J K (n + 1) 62 L S M = ai_aload 0 63 (am_run (c_Model_end s_Model_node) k_Model_end J K n) K 62 L S M := by rfl
set_option maxRecDepth 20000 in
theorem r_Model_end_63 {s_Model_node : aS} {J : aJ} {K : aR} {n : Nat} {L : aL} {S : List Value} {M : aM} : am_run (c_Model_end s_Model_node) k_Model_end J K (n + 1) 63 L S M = ai_getf 7 9 66 (am_run (c_Model_end s_Model_node) k_Model_end J K n) K 63 L S M := by rfl
set_option maxRecDepth 20000 in
theorem r_Model_end_66 {s_Model_node : aS} {J : aJ} {K : aR} {n : Nat} {L : aL} {S : List Value} {M : aM} : am_run (c_Model_end s_Model_node) k_Model_end J K (n + 1) 66 L S M = ai_aload 0 67 (am_run (c_Model_end s_Model_node) k_Model_end J K n) K 66 L S M := by rfl
set_option maxRecDepth 20000 in
theorem r_Model_end_67 {s_Model_node : aS} {J : aJ} {K : aR} {n : Nat} {L : aL} {S : List Value} {M : aM} : am_run (c_Model_end s_Model_node) k_Model_end J K (n + 1) 67 L S M = ai_getf 7 15 70 (am_run (c_Model_end s_Model_node) k_Model_end J K n) K 67 L S M := by rfl
set_option maxRecDepth 20000 in
theorem r_Model_end_70 {s_Model_node : aS} {J : aJ} {K : aR} {n : Nat} {L : aL} {S : List Value} {M : aM} : am_run (c_Model_end s_Model_node) k_Model_end J K (n + 1) 70 L S M = ai_aload 0 71 (am_run (c_Model_end s_Model_node) k_Model_end J K n) K 70 L S M := by rfl
set_option maxRecDepth 20000 in
theorem r_Model_end_71 {s_Model_node : aS} {J : aJ} {K : aR} {n : Nat} {L : aL} {S : List Value} {M : aM} : am_run (c_Model_end s_Model_node) k_Model_end J K (n + 1) 71 L S M = ai_getf 7 13 74 (am_run (c_Model_end s_Model_node) k_Model_end J K n) K 71 L S M := by rfl
set_option maxRecDepth 20000 in
theorem r_Model_end_74 {s_Model_node : aS} {J : aJ} {K : aR} {n : Nat} {L : aL} {S : List Value} {M : aM} : am_run (c_Model_end s_Model_node) k_Model_end J K (n + 1) 74 L S M = ai_const 1 75 (am_run (c_Model_end s_Model_node) k_Model_end J K n) K 74 L S M := by rfl
set_option maxRecDepth 20000 in
theorem r_Model_end_75 {s_Model_node : aS} {J : aJ} {K : aR} {n : Nat} {L : aL} {S : List Value} {M : aM} : am_run (c_Model_end s_Model_node) k_Model_end J K (n + 1) 75 L S M = ai_isub 76 (am_run (c_Model_end s_Model_node) k_Model_end J K n) K 75 L S M := by rfl
set_option maxRecDepth 20000 in
theorem r_Model_end_76 {s_Model_node : aS} {J : aJ} {K : aR} {n : Nat} {L : aL} {S : List Value} {M : aM} : am_run (c_Model_end s_Model_node) k_Model_end J K (n + 1) 76 L S M = ai_iald 77 (am_run (c_Model_end s_Model_node) k_Model_end J K n) K 76 L S M := by rfl
set_option maxRecDepth 20000 in
theorem r_Model_end_77 {s_Model_node : aS} {J : aJ} {K : aR} {n : Nat} {L : aL} {S : List Value} {M : aM} : am_run (c_Model_end s_Model_node) k_Model_end J K (n + 1) 77 L S M = ai_iload 2 78 (am_run (c_Model_end s_Model_node) k_Model_end J K n) K 77 L S M := by rfl
set_option maxRecDepth 20000 in
theorem r_Model_end_78 {s_Model_node : aS} {J : aJ} {K : aR} {n : Nat} {L : aL} {S : List Value} {M : aM} : am_run (c_Model_end s_Model_node) k_Model_end J K (n + 1) 78 L S M = ai_iast 79 (am_run (c_Model_end s_Model_node) k_Model_end J K n) K 78 L S M := by rfl
set_option maxRecDepth 20000 in
theorem r_Model_end_79 {s_Model_node : aS} {J : aJ} {K : aR} {n : Nat} {L : aL} {S : List Value} {M : aM} : am_run (c_Model_end s_Model_node) k_Model_end J K (n + 1) 79 L S M = ai_aload 0 80 (am_run (c_Model_end s_Model_node) k_Model_end J K n) K 79 L S M := by rfl
set_option maxRecDepth 20000 in
theorem r_Model_end_80 {s_Model_node : aS} {J : aJ} {K : aR} {n : Nat} {L : aL} {S : List Value} {M : aM} : am_run (c_Model_end s_Model_node) k_Model_end J K (n + 1) 80 L S M = ai_getf 7 10 83 (am_run (c_Model_end s_Model_node) k_Model_end J K n) K 80 L S M := by rfl
set_option maxRecDepth 20000 in
theorem r_Model_end_83 {s_Model_node : aS} {J : aJ} {K : aR} {n : Nat} {L : aL} {S : List Value} {M : aM} : am_run (c_Model_end s_Model_node) k_Model_end J K (n + 1) 83 L S M = ai_aload 0 84 (am_run (c_Model_end s_Model_node) k_Model_end J K n) K 83 L S M := by rfl
set_option maxRecDepth 20000 in
theorem r_Model_end_84 {s_Model_node : aS} {J : aJ} {K : aR} {n : Nat} {L : aL} {S : List Value} {M : aM} : am_run (c_Model_end s_Model_node) k_Model_end J K (n + 1) 84 L S M = ai_getf 7 15 87 (am_run (c_Model_end s_Model_node) k_Model_end J K n) K 84 L S M := by rfl
set_option maxRecDepth 20000 in
theorem r_Model_end_87 {s_Model_node : aS} {J : aJ} {K : aR} {n : Nat} {L : aL} {S : List Value} {M : aM} : am_run (c_Model_end s_Model_node) k_Model_end J K (n + 1) 87 L S M = ai_aload 0 88 (am_run (c_Model_end s_Model_node) k_Model_end J K n) K 87 L S M := by rfl
set_option maxRecDepth 20000 in
theorem r_Model_end_88 {s_Model_node : aS} {J : aJ} {K : aR} {n : Nat} {L : aL} {S : List Value} {M : aM} : am_run (c_Model_end s_Model_node) k_Model_end J K (n + 1) 88 L S M = ai_getf 7 13 91 (am_run (c_Model_end s_Model_node) k_Model_end J K n) K 88 L S M := by rfl
set_option maxRecDepth 20000 in
theorem r_Model_end_91 {s_Model_node : aS} {J : aJ} {K : aR} {n : Nat} {L : aL} {S : List Value} {M : aM} : am_run (c_Model_end s_Model_node) k_Model_end J K (n + 1) 91 L S M = ai_const 1 92 (am_run (c_Model_end s_Model_node) k_Model_end J K n) K 91 L S M := by rfl
set_option maxRecDepth 20000 in
theorem r_Model_end_92 {s_Model_node : aS} {J : aJ} {K : aR} {n : Nat} {L : aL} {S : List Value} {M : aM} : am_run (c_Model_end s_Model_node) k_Model_end J K (n + 1) 92 L S M = ai_isub 93 (am_run (c_Model_end s_Model_node) k_Model_end J K n) K 92 L S M := by rfl
set_option maxRecDepth 20000 in
theorem r_Model_end_93 {s_Model_node : aS} {J : aJ} {K : aR} {n : Nat} {L : aL} {S : List Value} {M : aM} : am_run (c_Model_end s_Model_node) k_Model_end J K (n + 1) 93 L S M = ai_iald 94 (am_run (c_Model_end s_Model_node) k_Model_end J K n) K 93 L S M := by rfl
set_option maxRecDepth 20000 in
theorem r_Model_end_94 {s_Model_node : aS} {J : aJ} {K : aR} {n : Nat} {L : aL} {S : List Value} {M : aM} : am_run (c_Model_end s_Model_node) k_Model_end J K (n + 1) 94 L S M = ai_aload 0 95 (am_run (c_Model_end s_Model_node) k_Model_end J K n) K 94 L S M := by rfl
set_option maxRecDepth 20000 in
theorem r_Model_end_95 {s_Model_node : aS} {J : aJ} {K : aR} {n : Nat} {L : aL} {S : List Value} {M : aM} : am_run (c_Model_end s_Model_node) k_Model_end J K (n + 1) 95 L S M = ai_const 5 96 (am_run (c_Model_end s_Model_node) k_Model_end J K n) K 95 L S M := by rfl
set_option maxRecDepth 20000 in
theorem r_Model_end_96 {s_Model_node : aS} {J : aJ} {K : aR} {n : Nat} {L : aL} {S : List Value} {M : aM} : am_run (c_Model_end s_Model_node) k_Model_end J K (n + 1) 96 L S M = ai_callv2 7 s_Model_node 99 (am_run (c_Model_end s_Model_node) k_Model_end J K n) K 96 L S M := by rfl
set_option maxRecDepth 20000 in
theorem r_Model_end_99 {s_Model_node : aS} {J : aJ} {K : aR} {n : Nat} {L : aL} {S : List Value} {M : aM} : am_run (c_Model_end s_Model_node) k_Model_end J K (n + 1) 99 L S M = ai_iast 100 (am_run (c_Model_end s_Model_node) k_Model_end J K n) K 99 L S M := by rfl
set_option maxRecDepth 20000 in
theorem r_Model_end_100 {s_Model_node : aS} {J : aJ} {K : aR} {n : Nat} {L : aL} {S : List Value} {M : aM} : am_run (c_Model_end s_Model_node) k_Model_end J K (n + 1) 100 L S M = ai_aload 0 101 (am_run (c_Model_end s_Model_node) k_Model_end J K n) K 100 L S M := by rfl
set_option maxRecDepth 20000 in
theorem r_Model_end_101 {s_Model_node : aS} {J : aJ} {K : aR} {n : Nat} {L : aL} {S : List Value} {M : aM} : am_run (c_Model_end s_Model_node) k_Model_end J K (n + 1) 101 L S M = ai_aload 0 102 (am_run (c_Model_end s_Model_node) k_Model_end J K n) K 101 L S M := by rfl
set_option maxRecDepth 20000 in
theorem r_Model_end_102 {s_Model_node : aS} {J : aJ} {K : aR} {n : Nat} {L : aL} {S : List Value} {M : aM} : am_run (c_Model_end s_Model_node) k_Model_end J K (n + 1) 102 L S M = ai_getf 7 13 105 (am_run (c_Model_end s_Model_node) k_Model_end J K n) K 102 L S M := by rfl
set_option maxRecDepth 20000 in
theorem r_Model_end_105 {s_Model_node : aS} {J : aJ} {K : aR} {n : Nat} {L : aL} {S : List Value} {M : aM} : am_run (c_Model_end s_Model_node) k_Model_end J K (n + 1) 105 L S M = ai_const 1 106 (am_run (c_Model_end s_Model_node) k_Model_end J K n) K 105 L S M := by rfl
set_option maxRecDepth 20000 in
theorem r_Model_end_106 {s_Model_node : aS} {J : aJ} {K : aR} {n : Nat} {L : aL} {S : List Value} {M : aM} : am_run (c_Model_end s_Model_node) k_Model_end J K (n + 1) 106 L S M = ai_isub 107 (am_run (c_Model_end s_Model_node) k_Model_end J K n) K 106 L S M := by rfl
set_option maxRecDepth 20000 in
theorem r_Model_end_107 {s_Model_node : aS} {J : aJ} {K : aR} {n : Nat} {L : aL} {S : List Value} {M : aM} : am_run (c_Model_end s_Model_node) k_Model_end J K (n + 1) 107 L S M = ai_putf 7 13 110 (am_run (c_Model_end s_Model_node) k_Model_end J K n) K 107 L S M := by rfl
set_option maxRecDepth 20000 in
theorem r_Model_end_110 {s_Model_node : aS} {J : aJ} {K : aR} {n : Nat} {L : aL} {S : List Value} {M : aM} : am_run (c_Model_end s_Model_node) k_Model_end J K (n + 1) 110 L S M = ai_aload 0 111 (am_run (c_Model_end s_Model_node) k_Model_end J K n) K 110 L S M := by rfl
set_option maxRecDepth 20000 in
theorem r_Model_end_111 {s_Model_node : aS} {J : aJ} {K : aR} {n : Nat} {L : aL} {S : List Value} {M : aM} : am_run (c_Model_end s_Model_node) k_Model_end J K (n + 1) 111 L S M = ai_getf 7 14 114 (am_run (c_Model_end s_Model_node) k_Model_end J K n) K 111 L S M := by rfl
set_option maxRecDepth 20000 in
theorem r_Model_end_114 {s_Model_node : aS} {J : aJ} {K : aR} {n : Nat} {L : aL} {S : List Value} {M : aM} : am_run (c_Model_end s_Model_node) k_Model_end J K (n + 1) 114 L S M = ai_aload 0 115 (am_run (c_Model_end s_Model_node) k_Model_end J K n) K 114 L S M := by rfl
set_option maxRecDepth 20000 in
theorem r_Model_end_115 {s_Model_node : aS} {J : aJ} {K : aR} {n : Nat} {L : aL} {S : List Value} {M : aM} : am_run (c_Model_end s_Model_node) k_Model_end J K (n + 1) 115 L S M = ai_getf 7 13 118 (am_run (c_Model_end s_Model_node) k_Model_end J K n) K 115 L S M := by rfl
set_option maxRecDepth 20000 in
theorem r_Model_end_118 {s_Model_node : aS} {J : aJ} {K : aR} {n : Nat} {L : aL} {S : List Value} {M : aM} : am_run (c_Model_end s_Model_node) k_Model_end J K (n + 1) 118 L S M = ai_iald 119 (am_run (c_Model_end s_Model_node) k_Model_end J K n) K 118 L S M := by rfl
set_option maxRecDepth 20000 in
theorem r_Model_end_119 {s_Model_node : aS} {J : aJ} {K : aR} {n : Nat} {L : aL} {S : List Value} {M : aM} : am_run (c_Model_end s_Model_node) k_Model_end J K (n + 1) 119 L S M = ai_istore 2 120 (am_run (c_Model_end s_Model_node) k_Model_end J K n) K 119 L S M := by rfl
set_option maxRecDepth 20000 in
theorem r_Model_end_120 {s_Model_node : aS} {J : aJ} {K : aR} {n : Nat} {L : aL} {S : List Value} {M : aM} : am_run (c_Model_end s_Model_node) k_Model_end J K (n + 1) 120 L S M = ai_const 1 121 (am_run (c_Model_end s_Model_node) k_Model_end J K n) K 120 L S M := by rfl
set_option maxRecDepth 20000 in
theorem r_Model_end_121 {s_Model_node : aS} {J : aJ} {K : aR} {n : Nat} {L : aL} {S : List Value} {M : aM} : am_run (c_Model_end s_Model_node) k_Model_end J K (n + 1) 121 L S M = ai_istore 3 122 (am_run (c_Model_end s_Model_node) k_Model_end J K n) K 121 L S M := by rfl
set_option maxRecDepth 20000 in
theorem r_Model_end_122 {s_Model_node : aS} {J : aJ} {K : aR} {n : Nat} {L : aL} {S : List Value} {M : aM} : am_run (c_Model_end s_Model_node) k_Model_end J K (n + 1) 122 L S M = ai_goto 4 (am_run (c_Model_end s_Model_node) k_Model_end J K n) K 122 L S M := by rfl
set_option maxRecDepth 20000 in
theorem r_Model_end_125 {s_Model_node : aS} {J : aJ} {K : aR} {n : Nat} {L : aL} {S : List Value} {M : aM} : am_run (c_Model_end s_Model_node) k_Model_end J K (n + 1) 125 L S M = ai_aload 0 126 (am_run (c_Model_end s_Model_node) k_Model_end J K n) K 125 L S M := by rfl
set_option maxRecDepth 20000 in
theorem r_Model_end_126 {s_Model_node : aS} {J : aJ} {K : aR} {n : Nat} {L : aL} {S : List Value} {M : aM} : am_run (c_Model_end s_Model_node) k_Model_end J K (n + 1) 126 L S M = ai_getf 7 16 129 (am_run (c_Model_end s_Model_node) k_Model_end J K n) K 126 L S M := by rfl
set_option maxRecDepth 20000 in
theorem r_Model_end_129 {s_Model_node : aS} {J : aJ} {K : aR} {n : Nat} {L : aL} {S : List Value} {M : aM} : am_run (c_Model_end s_Model_node) k_Model_end J K (n + 1) 129 L S M = ai_aload 0 130 (am_run (c_Model_end s_Model_node) k_Model_end J K n) K 129 L S M := by rfl
set_option maxRecDepth 20000 in
theorem r_Model_end_130 {s_Model_node : aS} {J : aJ} {K : aR} {n : Nat} {L : aL} {S : List Value} {M : aM} : am_run (c_Model_end s_Model_node) k_Model_end J K (n + 1) 130 L S M = ai_getf 7 13 133 (am_run (c_Model_end s_Model_node) k_Model_end J K n) K 130 L S M := by rfl
set_option maxRecDepth 20000 in
theorem r_Model_end_133 {s_Model_node : aS} {J : aJ} {K : aR} {n : Nat} {L : aL} {S : List Value} {M : aM} : am_run (c_Model_end s_Model_node) k_Model_end J K (n + 1) 133 L S M = ai_const 1 134 (am_run (c_Model_end s_Model_node) k_Model_end J K n) K 133 L S M := by rfl
set_option maxRecDepth 20000 in
theorem r_Model_end_134 {s_Model_node : aS} {J : aJ} {K : aR} {n : Nat} {L : aL} {S : List Value} {M : aM} : am_run (c_Model_end s_Model_node) k_Model_end J K (n + 1) 134 L S M = ai_isub 135 (am_run (c_Model_end s_Model_node) k_Model_end J K n) K 134 L S M := by rfl
set_option maxRecDepth 20000 in
theorem r_Model_end_135 {s_Model_node : aS} {J : aJ} {K : aR} {n : Nat} {L : aL} {S : List Value} {M : aM} : am_run (c_Model_end s_Model_node) k_Model_end J K (n + 1) 135 L S M = ai_iald 136 (am_run (c_Model_end s_Model_node) k_Model_end J K n) K 135 L S M := by rfl
set_option maxRecDepth 20000 in
theorem r_Model_end_136 {s_Model_node : aS} {J : aJ} {K : aR} {n : Nat} {L : aL} {S : List Value} {M : aM} : am_run (c_Model_end s_Model_node) k_Model_end J K (n + 1) 136 L S M = ai_const 2 137 (am_run (c_Model_end s_Model_node) k_Model_end J K n) K 136 L S M := by rfl
set_option maxRecDepth 20000 in
theorem r_Model_end_137 {s_Model_node : aS} {J : aJ} {K : aR} {n : Nat} {L : aL} {S : List Value} {M : aM} : am_run (c_Model_end s_Model_node) k_Model_end J K (n + 1) 137 L S M = ai_cmpne 172 140 (am_run (c_Model_end s_Model_node) k_Model_end J K n) K 137 L S M := by rfl
set_option maxRecDepth 20000 in
theorem r_Model_end_140 {s_Model_node : aS} {J : aJ} {K : aR} {n : Nat} {L : aL} {S : List Value} {M : aM} : am_run (c_Model_end s_Model_node) k_Model_end J K (n + 1) 140 L S M = ai_aload 0 141 (am_run (c_Model_end s_Model_node) k_Model_end J K n) K 140 L S M := by rfl
set_option maxRecDepth 20000 in
theorem r_Model_end_141 {s_Model_node : aS} {J : aJ} {K : aR} {n : Nat} {L : aL} {S : List Value} {M : aM} : am_run (c_Model_end s_Model_node) k_Model_end J K (n + 1) 141 L S M = ai_getf 7 10 144 (am_run (c_Model_end s_Model_node) k_Model_end J K n) K 141 L S M := by rfl
set_option maxRecDepth 20000 in
theorem r_Model_end_144 {s_Model_node : aS} {J : aJ} {K : aR} {n : Nat} {L : aL} {S : List Value} {M : aM} : am_run (c_Model_end s_Model_node) k_Model_end J K (n + 1) 144 L S M = ai_aload 0 145 (am_run (c_Model_end s_Model_node) k_Model_end J K n) K 144 L S M := by rfl
set_option maxRecDepth 20000 in
theorem r_Model_end_145 {s_Model_node : aS} {J : aJ} {K : aR} {n : Nat} {L : aL} {S : List Value} {M : aM} : am_run (c_Model_end s_Model_node) k_Model_end J K (n + 1) 145 L S M = ai_getf 7 15 148 (am_run (c_Model_end s_Model_node) k_Model_end J K n) K 145 L S M := by rfl
set_option maxRecDepth 20000 in
theorem r_Model_end_148 {s_Model_node : aS} {J : aJ} {K : aR} {n : Nat} {L : aL} {S : List Value} {M : aM} : am_run (c_Model_end s_Model_node) k_Model_end J K (n + 1) 148 L S M = ai_aload 0 149 (am_run (c_Model_end s_Model_node) k_Model_end J K n) K 148 L S M := by rfl
set_option maxRecDepth 20000 in
theorem r_Model_end_149 {s_Model_node : aS} {J : aJ} {K : aR} {n : Nat} {L : aL} {S : List Value} {M : aM} : am_run (c_Model_end s_Model_node) k_Model_end J K (n + 1) 149 L S M = ai_getf 7 13 152 (am_run (c_Model_end s_Model_node) k_Model_end J K n) K 149 L S M := by rfl
set_option maxRecDepth 20000 in
theorem r_Model_end_152 {s_Model_node : aS} {J : aJ} {K : aR} {n : Nat} {L : aL} {S : List Value} {M : aM} : am_run (c_Model_end s_Model_node) k_Model_end J K (n + 1) 152 L S M = ai_const 1 153 (am_run (c_Model_end s_Model_node) k_Model_end J K n) K 152 L S M := by rfl
set_option maxRecDepth 20000 in
theorem r_Model_end_153 {s_Model_node : aS} {J : aJ} {K : aR} {n : Nat} {L : aL} {S : List Value} {M : aM} : am_run (c_Model_end s_Model_node) k_Model_end J K (n + 1) 153 L S M = ai_isub 154 (am_run (c_Model_end s_Model_node) k_Model_end J K n) K 153 L S M := by rfl
set_option maxRecDepth 20000 in
theorem r_Model_end_154 {s_Model_node : aS} {J : aJ} {K : aR} {n : Nat} {L : aL} {S : List Value} {M : aM} : am_run (c_Model_end s_Model_node) k_Model_end J K (n + 1) 154 L S M = ai_iald 155 (am_run (c_Model_end s_Model_node) k_Model_end J K n) K 154 L S M := by rfl
set_option maxRecDepth 20000 in
theorem r_Model_end_155 {s_Model_node : aS} {J : aJ} {K : aR} {n : Nat} {L : aL} {S : List Value} {M : aM} : am_run (c_Model_end s_Model_node) k_Model_end J K (n + 1) 155 L S M = ai_iload 2 156 (am_run (c_Model_end s_Model_node) k_Model_end J K n) K 155 L S M := by rfl
set_option maxRecDepth 20000 in
theorem r_Model_end_156 {s_Model_node : aS} {J : aJ} {K : aR} {n : Nat} {L : aL} {S : List Value} {M : aM} : am_run (c_Model_end s_Model_node) k_Model_end J K (n + 1) 156 L S M = ai_iast 157 (am_run (c_Model_end s_Model_node) k_Model_end J K n) K 156 L S M := by rfl
set_option maxRecDepth 20000 in
theorem r_Model_end_157 {s_Model_node : aS} {J : aJ} {K : aR} {n : Nat} {L : aL} {S : List Value} {M : aM} : am_run (c_Model_end s_Model_node) k_Model_end J K (n + 1) 157 L S M = ai_aload 0 158 (am_run (c_Model_end s_Model_node) k_Model_end J K n) K 157 L S M := by rfl
set_option maxRecDepth 20000 in
theorem r_Model_end_158 {s_Model_node : aS} {J : aJ} {K : aR} {n : Nat} {L : aL} {S : List Value} {M : aM} : am_run (c_Model_end s_Model_node) k_Model_end J K (n + 1) 158 L S M = ai_getf 7 16 161 (am_run (c_Model_end s_Model_node) k_Model_end J K n) K 158 L S M := by rfl
set_option maxRecDepth 20000 in
theorem r_Model_end_161 {s_Model_node : aS} {J : aJ} {K : aR} {n : Nat} {L : aL} {S : List Value} {M : aM} : am_run (c_Model_end s_Model_node) k_Model_end J K (n + 1) 161 L S M = ai_aload 0 162 (am_run (c_Model_end s_Model_node) k_Model_end J K n) K 161 L S M := by rfl
set_option maxRecDepth 20000 in
theorem r_Model_end_162 {s_Model_node : aS} {J : aJ} {K : aR} {n : Nat} {L : aL} {S : List Value} {M : aM} : am_run (c_Model_end s_Model_node) k_Model_end J K (n + 1) 162 L S M = ai_getf 7 13 165 (am_run (c_Model_end s_Model_node) k_Model_end J K n) K 162 L S M := by rfl
set_option maxRecDepth 20000 in
theorem r_Model_end_165 {s_Model_node : aS} {J : aJ} {K : aR} {n : Nat} {L : aL} {S : List Value} {M : aM} : am_run (c_Model_end s_Model_node) k_Model_end J K (n + 1) 165 L S M = ai_const 1 166 (am_run (c_Model_end s_Model_node) k_Model_end J K n) K 165 L S M := by rfl
set_option maxRecDepth 20000 in
theorem r_Model_end_166 {s_Model_node : aS} {J : aJ} {K : aR} {n : Nat} {L : aL} {S : List Value} {M : aM} : am_run (c_Model_end s_Model_node) k_Model_end J K (n + 1) 166 L S M = ai_isub 167 (am_run (c_Model_end s_Model_node) k_Model_end J K n) K 166 L S M := by rfl
set_option maxRecDepth 20000 in
theorem r_Model_end_167 {s_Model_node : aS} {J : aJ} {K : aR} {n : Nat} {L : aL} {S : List Value} {M : aM} : am_run (c_Model_end s_Model_node) k_Model_end J K (n + 1) 167 L S M = ai_const 3 168 (am_run (c_Model_end s_Model_node) k_Model_end J K n) K 167 L S M := by rfl
set_option maxRecDepth 20000 in
theorem r_Model_end_168 {s_Model_node : aS} {J : aJ} {K : aR} {n : Nat} {L : aL} {S : List Value} {M : aM} : am_run (c_Model_end s_Model_node) k_Model_end J K (n + 1) 168 L S M = ai_iast 169 (am_run (c_Model_end s_Model_node) k_Model_end J K n) K 168 L S M := by rfl
set_option maxRecDepth 20000 in
theorem r_Model_end_169 {s_Model_node : aS} {J : aJ} {K : aR} {n : Nat} {L : aL} {S : List Value} {M : aM} : am_run (c_Model_end s_Model_node) k_Model_end J K (n + 1) 169 L S M = ai_goto 4 (am_run (c_Model_end s_Model_node) k_Model_end J K n) K 169 L S M := by rfl
set_option maxRecDepth 20000 in
theorem r_Model_end_172 {s_Model_node : aS} {J : aJ} {K : aR} {n : Nat} {L : aL} {S : List Value} {M : aM} : am_run (c_Model_end s_Model_node) k_Model_end J K (n + 1) 172 L S M = ai_aload 0 173 (am_run (c_Model_end s_Model_node) k_Model_end J K n) K 172 L S M := by rfl
set_option maxRecDepth 20000 in
theorem r_Model_end_173 {s_Model_node : aS} {J : aJ} {K : aR} {n : Nat} {L : aL} {S : List Value} {M : aM} : am_run (c_Model_end s_Model_node) k_Model_end J K (n + 1) 173 L S M = ai_getf 7 9 176 (am_run (c_Model_end s_Model_node) k_Model_end J K n) K 173 L S M := by rfl
set_option maxRecDepth 20000 in
theorem r_Model_end_176 {s_Model_node : aS} {J : aJ} {K : aR} {n : Nat} {L : aL} {S : List Value} {M : aM} : am_run (c_Model_end s_Model_node) k_Model_end J K (n + 1) 176 L S M = ai_aload 0 177 (am_run (c_Model_end s_Model_node) k_Model_end J K n) K 176 L S M := by rfl
set_option maxRecDepth 20000 in
theorem r_Model_end_177 {s_Model_node : aS} {J : aJ} {K : aR} {n : Nat} {L : aL} {S : List Value} {M : aM} : am_run (c_Model_end s_Model_node) k_Model_end J K (n + 1) 177 L S M = ai_getf 7 15 180 (am_run (c_Model_end s_Model_node) k_Model_end J K n) K 177 L S M := by rfl
set_option maxRecDepth 20000 in
theorem r_Model_end_180 {s_Model_node : aS} {J : aJ} {K : aR} {n : Nat} {L : aL} {S : List Value} {M : aM} : am_run (c_Model_end s_Model_node) k_Model_end J K (n + 1) 180 L S M = ai_aload 0 181 (am_run (c_Model_end s_Model_node) k_Model_end J K n) K 180 L S M := by rfl
set_option maxRecDepth 20000 in
theorem r_Model_end_181 {s_Model_node : aS} {J : aJ} {K : aR} {n : Nat} {L : aL} {S : List Value} {M : aM} : am_run (c_Model_end s_Model_node) k_Model_end J K (n + 1) 181 L S M = ai_getf 7 13 184 (am_run (c_Model_end s_Model_node) k_Model_end J K n) K 181 L S M := by rfl
set_option maxRecDepth 20000 in
theorem r_Model_end_184 {s_Model_node : aS} {J : aJ} {K : aR} {n : Nat} {L : aL} {S : List Value} {M : aM} : am_run (c_Model_end s_Model_node) k_Model_end J K (n + 1) 184 L S M = ai_const 1 185 (am_run (c_Model_end s_Model_node) k_Model_end J K n) K 184 L S M := by rfl
set_option maxRecDepth 20000 in
theorem r_Model_end_185 {s_Model_node : aS} {J : aJ} {K : aR} {n : Nat} {L : aL} {S : List Value} {M : aM} : am_run (c_Model_end s_Model_node) k_Model_end J K (n + 1) 185 L S M = ai_isub 186 (am_run (c_Model_end s_Model_node) k_Model_end J K n) K 185 L S M := by rfl
set_option maxRecDepth 20000 in
theorem r_Model_end_186 {s_Model_node : aS} {J : aJ} {K : aR} {n : Nat} {L : aL} {S : List Value} {M : aM} : am_run (c_Model_end s_Model_node) k_Model_end J K (n + 1) 186 L S M = ai_iald 187 (am_run (c_Model_end s_Model_node) k_Model_end J K n) K 186 L S M := by rfl
set_option maxRecDepth 20000 in
theorem r_Model_end_187 {s_Model_node : aS} {J : aJ} {K : aR} {n : Nat} {L : aL} {S : List Value} {M : aM} : am_run (c_Model_end s_Model_node) k_Model_end J K (n + 1) 187 L S M = ai_iload 2 188 (am_run (c_Model_end s_Model_node) k_Model_end J K n) K 187 L S M := by rfl
set_option maxRecDepth 20000 in
theorem r_Model_end_188 {s_Model_node : aS} {J : aJ} {K : aR} {n : Nat} {L : aL} {S : List Value} {M : aM} : am_run (c_Model_end s_Model_node) k_Model_end J K (n + 1) 188 L S M = ai_iast 189 (am_run (c_Model_end s_Model_node) k_Model_end J K n) K 188 L S M := by rfl
set_option maxRecDepth 20000 in
theorem r_Model_end_189 {s_Model_node : aS} {J : aJ} {K : aR} {n : Nat} {L : aL} {S : List Value} {M : aM} : am_run (c_Model_end s_Model_node) k_Model_end J K (n + 1) 189 L S M = ai_goto 4 (am_run (c_Model_end s_Model_node) k_Model_end J K n) K 189 L S M := by rfl
set_option maxRecDepth 20000 in
theorem r_Model_end_192 {s_Model_node : aS} {J : aJ} {K : aR} {n : Nat} {L : aL} {S : List Value} {M : aM} : am_run (c_Model_end s_Model_node) k_Model_end J K (n + 1) 192 L S M = ai_vret (am_run (c_Model_end s_Model_node) k_Model_end J K n) K 192 L S M := by rfl
def c_Model_opens (s_Model_begin : aS) (s_Model_fail : aS) (s_Model_node : aS) (s_Str_charAt : aS) (s_Model_letter : aS) : List (Nat × aI) := [
  (0, ai_aload 0 1),
  (1, ai_callv1 7 s_Model_begin 4),
  (4, ai_aload 0 5),
  (5, ai_getf 7 13 8),
  (8, ai_const 15 10),
  (10, ai_cmpne 21 13),
  (13, ai_aload 0 14),
  (14, ai_aload 0 15),
  (15, ai_getf 7 3 18),
  (18, ai_callv2 7 s_Model_fail 21),
  (21, ai_aload 0 22),
  (22, ai_getf 7 4 25),
  (25, ai_iflt 29 28),
  (28, ai_vret),
  (29, ai_aload 0 30),
  (30, ai_getf 7 16 33),
  (33, ai_aload 0 34),
  (34, ai_getf 7 13 37),
  (37, ai_iload 1 38),
  (38, ai_ifeq 45 41),
  (41, ai_const 4 42),
  (42, ai_goto 46),
  (45, ai_const 0 46),
  (46, ai_iast 47),
  (47, ai_aload 0 48),
  (48, ai_aload 0 49),
  (49, ai_getf 7 13 52),
  (52, ai_const 1 53),
  (53, ai_iadd 54),
  (54, ai_putf 7 13 57),
  (57, ai_iload 1 58),
  (58, ai_ifne 62 61),
  (61, ai_vret),
  (62, ai_aload 0 63),
  (63, ai_const 4 64),
  (64, ai_callv2 7 s_Model_node 67),
  (67, ai_istore 2 68),
  (68, ai_aload 0 69),
  (69, ai_const 2 70),
  (70, ai_callv2 7 s_Model_node 73),
  (73, ai_istore 3 74),
  (74, ai_aload 0 75),
  (75, ai_const 4 76),
  (76, ai_callv2 7 s_Model_node 79),
  (79, ai_istore 4 81),
  (81, ai_aload 0 82),
  (82, ai_getf 7 4 85),
  (85, ai_iflt 89 88),
  (88, ai_vret),
  (89, ai_const 0 90),
  (90, ai_istore 5 92),
  (92, ai_iload 5 94),
  (94, ai_const 5 95),
  (95, ai_cmpge 116 98),
  (98, ai_aload 0 99),
  (99, ai_iload 3 100),
  (100, ai_gets (.ref 1002) 102),
  (102, ai_iload 5 104),
  (104, ai_callx2 s_Str_charAt 107),
  (107, ai_callv3 7 s_Model_letter 110),
  (110, ai_iinc 5 1 113),
  (113, ai_goto 92),
  (116, ai_aload 0 117),
  (117, ai_getf 7 9 120),
  (120, ai_iload 2 121),
  (121, ai_iload 3 122),
  (122, ai_iast 123),
  (123, ai_aload 0 124),
  (124, ai_getf 7 10 127),
  (127, ai_iload 2 128),
  (128, ai_iload 4 130),
  (130, ai_iast 131),
  (131, ai_aload 0 132),
  (132, ai_getf 7 14 135),
  (135, ai_aload 0 136),
  (136, ai_getf 7 13 139),
  (139, ai_const 1 140),
  (140, ai_isub 141),
  (141, ai_iload 2 142),
  (142, ai_iast 143),
  (143, ai_aload 0 144),
  (144, ai_getf 7 15 147),
  (147, ai_aload 0 148),
  (148, ai_getf 7 13 151),
  (151, ai_const 1 152),
  (152, ai_isub 153),
  (153, ai_iload 4 155),
  (155, ai_iast 156),
  (156, ai_vret)]
set_option maxRecDepth 100000 in
set_option maxHeartbeats 4000000 in
theorem tb_Model_opens {G : aG} {d : Nat} {s_Model_begin : aS} {d_Model_begin : Nat} (h_Model_begin : am_Sp G Y_Model_begin d_Model_begin s_Model_begin) (l_Model_begin : d_Model_begin < d) {s_Model_fail : aS} {d_Model_fail : Nat} (h_Model_fail : am_Sp G Y_Model_fail d_Model_fail s_Model_fail) (l_Model_fail : d_Model_fail < d) {s_Model_node : aS} {d_Model_node : Nat} (h_Model_node : am_Sp G Y_Model_node d_Model_node s_Model_node) (l_Model_node : d_Model_node < d) {s_Str_charAt : aS} {d_Str_charAt : Nat} (h_Str_charAt : am_Sp G Y_Str_charAt d_Str_charAt s_Str_charAt) (l_Str_charAt : d_Str_charAt < d) {s_Model_letter : aS} {d_Model_letter : Nat} (h_Model_letter : am_Sp G Y_Model_letter d_Model_letter s_Model_letter) (l_Model_letter : d_Model_letter < d) : am_tab G Y_Model_opens d (c_Model_opens s_Model_begin s_Model_fail s_Model_node s_Str_charAt s_Model_letter) := by
  intro K p e s m args below meth c C
  exact ⟨as_aload_n C (pc := 0) (q := 0) (by decide +kernel) rfl rfl,
    as_callv1 C (pc := 1) h_Model_begin (T := T_Model) (N := 21) rfl w_625 w_78 w_624 w_56 w_622 hy_Model_begin (am_rm_of l_Model_begin (by decide)) (by decide +kernel) rfl,
    as_aload_n C (pc := 4) (q := 0) (by decide +kernel) rfl rfl,
    as_getf C (pc := 5) (T := T_Model) (N := 21) rfl in_Model (by decide) rfl w_530 (by decide +kernel) rfl,
    as_bipush C (pc := 8) (n := 15) (by decide +kernel) (by decide +kernel) rfl,
    as_cmpne C (pc := 10) (off := 11) (by decide +kernel) (by decide) rfl,
    as_aload_n C (pc := 13) (q := 0) (by decide +kernel) rfl rfl,
    as_aload_n C (pc := 14) (q := 0) (by decide +kernel) rfl rfl,
    as_getf C (pc := 15) (T := T_Model) (N := 21) rfl in_Model (by decide) rfl w_520 (by decide +kernel) rfl,
    as_callv2 C (pc := 18) h_Model_fail (T := T_Model) (N := 21) rfl w_617 w_78 w_616 w_54 w_614 hy_Model_fail (am_rm_of l_Model_fail (by decide)) (by decide +kernel) rfl,
    as_aload_n C (pc := 21) (q := 0) (by decide +kernel) rfl rfl,
    as_getf C (pc := 22) (T := T_Model) (N := 21) rfl in_Model (by decide) rfl w_521 (by decide +kernel) rfl,
    as_iflt C (pc := 25) (off := 4) (by decide +kernel) (by decide) rfl,
    as_vret C (pc := 28) rfl (by decide +kernel),
    as_aload_n C (pc := 29) (q := 0) (by decide +kernel) rfl rfl,
    as_getf C (pc := 30) (T := T_Model) (N := 21) rfl in_Model (by decide) rfl w_533 (by decide +kernel) rfl,
    as_aload_n C (pc := 33) (q := 0) (by decide +kernel) rfl rfl,
    as_getf C (pc := 34) (T := T_Model) (N := 21) rfl in_Model (by decide) rfl w_530 (by decide +kernel) rfl,
    as_iload_n C (pc := 37) (q := 1) (by decide +kernel) rfl rfl,
    as_ifeq C (pc := 38) (off := 7) (by decide +kernel) (by decide) rfl,
    as_iconst C (pc := 41) (n := 4) (by decide +kernel) (by decide +kernel) rfl,
    as_goto C (pc := 42) (off := 4) (by decide +kernel) (by decide),
    as_iconst C (pc := 45) (n := 0) (by decide +kernel) (by decide +kernel) rfl,
    as_iast C (pc := 46) (by decide +kernel) rfl,
    as_aload_n C (pc := 47) (q := 0) (by decide +kernel) rfl rfl,
    as_aload_n C (pc := 48) (q := 0) (by decide +kernel) rfl rfl,
    as_getf C (pc := 49) (T := T_Model) (N := 21) rfl in_Model (by decide) rfl w_530 (by decide +kernel) rfl,
    as_iconst C (pc := 52) (n := 1) (by decide +kernel) (by decide +kernel) rfl,
    as_iadd C (pc := 53) (by decide +kernel) rfl,
    as_putf C (pc := 54) t_Model (T := T_Model) (N := 21) rfl in_Model tok_Model nm_Model (by decide) rfl rfl (by decide +kernel) w_530 (by decide +kernel) rfl,
    as_iload_n C (pc := 57) (q := 1) (by decide +kernel) rfl rfl,
    as_ifne C (pc := 58) (off := 4) (by decide +kernel) (by decide) rfl,
    as_vret C (pc := 61) rfl (by decide +kernel),
    as_aload_n C (pc := 62) (q := 0) (by decide +kernel) rfl rfl,
    as_iconst C (pc := 63) (n := 4) (by decide +kernel) (by decide +kernel) rfl,
    as_callv2 C (pc := 64) h_Model_node (T := T_Model) (N := 21) rfl w_629 w_78 w_628 w_57 w_626 hy_Model_node (am_rm_of l_Model_node (by decide)) (by decide +kernel) rfl,
    as_istore_n C (pc := 67) (q := 2) (by decide +kernel) rfl (by decide) rfl,
    as_aload_n C (pc := 68) (q := 0) (by decide +kernel) rfl rfl,
    as_iconst C (pc := 69) (n := 2) (by decide +kernel) (by decide +kernel) rfl,
    as_callv2 C (pc := 70) h_Model_node (T := T_Model) (N := 21) rfl w_629 w_78 w_628 w_57 w_626 hy_Model_node (am_rm_of l_Model_node (by decide)) (by decide +kernel) rfl,
    as_istore_n C (pc := 73) (q := 3) (by decide +kernel) rfl (by decide) rfl,
    as_aload_n C (pc := 74) (q := 0) (by decide +kernel) rfl rfl,
    as_iconst C (pc := 75) (n := 4) (by decide +kernel) (by decide +kernel) rfl,
    as_callv2 C (pc := 76) h_Model_node (T := T_Model) (N := 21) rfl w_629 w_78 w_628 w_57 w_626 hy_Model_node (am_rm_of l_Model_node (by decide)) (by decide +kernel) rfl,
    as_istore C (pc := 79) (k := 4) (by decide +kernel) (by decide) rfl,
    as_aload_n C (pc := 81) (q := 0) (by decide +kernel) rfl rfl,
    as_getf C (pc := 82) (T := T_Model) (N := 21) rfl in_Model (by decide) rfl w_521 (by decide +kernel) rfl,
    as_iflt C (pc := 85) (off := 4) (by decide +kernel) (by decide) rfl,
    as_vret C (pc := 88) rfl (by decide +kernel),
    as_iconst C (pc := 89) (n := 0) (by decide +kernel) (by decide +kernel) rfl,
    as_istore C (pc := 90) (k := 5) (by decide +kernel) (by decide) rfl,
    as_iload C (pc := 92) (k := 5) (by decide +kernel) rfl,
    as_iconst C (pc := 94) (n := 5) (by decide +kernel) (by decide +kernel) rfl,
    as_cmpge C (pc := 95) (off := 21) (by decide +kernel) (by decide) rfl,
    as_aload_n C (pc := 98) (q := 0) (by decide +kernel) rfl rfl,
    as_iload_n C (pc := 99) (q := 3) (by decide +kernel) rfl rfl,
    as_ldcs C (pc := 100) rfl (by decide +kernel) rfl,
    as_iload C (pc := 102) (k := 5) (by decide +kernel) rfl,
    as_callx2 C (pc := 104) h_Str_charAt w_634 w_79 w_632 w_633 w_631 hy_Str_charAt (am_rm_of l_Str_charAt (by decide)) (by decide +kernel) rfl,
    as_callv3 C (pc := 107) h_Model_letter (T := T_Model) (N := 21) rfl w_674 w_78 w_673 w_58 w_671 hy_Model_letter (am_rm_of l_Model_letter (by decide)) (by decide +kernel) rfl,
    as_iinc C (pc := 110) (k := 5) (n := 1) (by decide +kernel) (by decide +kernel) (by decide) rfl,
    as_goto C (pc := 113) (off := (-21)) (by decide +kernel) (by decide),
    as_aload_n C (pc := 116) (q := 0) (by decide +kernel) rfl rfl,
    as_getf C (pc := 117) (T := T_Model) (N := 21) rfl in_Model (by decide) rfl w_526 (by decide +kernel) rfl,
    as_iload_n C (pc := 120) (q := 2) (by decide +kernel) rfl rfl,
    as_iload_n C (pc := 121) (q := 3) (by decide +kernel) rfl rfl,
    as_iast C (pc := 122) (by decide +kernel) rfl,
    as_aload_n C (pc := 123) (q := 0) (by decide +kernel) rfl rfl,
    as_getf C (pc := 124) (T := T_Model) (N := 21) rfl in_Model (by decide) rfl w_527 (by decide +kernel) rfl,
    as_iload_n C (pc := 127) (q := 2) (by decide +kernel) rfl rfl,
    as_iload C (pc := 128) (k := 4) (by decide +kernel) rfl,
    as_iast C (pc := 130) (by decide +kernel) rfl,
    as_aload_n C (pc := 131) (q := 0) (by decide +kernel) rfl rfl,
    as_getf C (pc := 132) (T := T_Model) (N := 21) rfl in_Model (by decide) rfl w_531 (by decide +kernel) rfl,
    as_aload_n C (pc := 135) (q := 0) (by decide +kernel) rfl rfl,
    as_getf C (pc := 136) (T := T_Model) (N := 21) rfl in_Model (by decide) rfl w_530 (by decide +kernel) rfl,
    as_iconst C (pc := 139) (n := 1) (by decide +kernel) (by decide +kernel) rfl,
    as_isub C (pc := 140) (by decide +kernel) rfl,
    as_iload_n C (pc := 141) (q := 2) (by decide +kernel) rfl rfl,
    as_iast C (pc := 142) (by decide +kernel) rfl,
    as_aload_n C (pc := 143) (q := 0) (by decide +kernel) rfl rfl,
    as_getf C (pc := 144) (T := T_Model) (N := 21) rfl in_Model (by decide) rfl w_532 (by decide +kernel) rfl,
    as_aload_n C (pc := 147) (q := 0) (by decide +kernel) rfl rfl,
    as_getf C (pc := 148) (T := T_Model) (N := 21) rfl in_Model (by decide) rfl w_530 (by decide +kernel) rfl,
    as_iconst C (pc := 151) (n := 1) (by decide +kernel) (by decide +kernel) rfl,
    as_isub C (pc := 152) (by decide +kernel) rfl,
    as_iload C (pc := 153) (k := 4) (by decide +kernel) rfl,
    as_iast C (pc := 155) (by decide +kernel) rfl,
    as_vret C (pc := 156) rfl (by decide +kernel), trivial⟩
abbrev k_Model_opens : List Nat := [92]
set_option maxRecDepth 20000 in
theorem q_Model_opens_92 {s_Model_begin : aS} {s_Model_fail : aS} {s_Model_node : aS} {s_Str_charAt : aS} {s_Model_letter : aS} : am_at (c_Model_opens s_Model_begin s_Model_fail s_Model_node s_Str_charAt s_Model_letter) 92 = ai_iload 5 94 := by rfl
set_option maxRecDepth 20000 in
theorem r_Model_opens_0 {s_Model_begin : aS} {s_Model_fail : aS} {s_Model_node : aS} {s_Str_charAt : aS} {s_Model_letter : aS} {J : aJ} {K : aR} {n : Nat} {L : aL} {S : List Value} {M : aM} : am_run (c_Model_opens s_Model_begin s_Model_fail s_Model_node s_Str_charAt s_Model_letter) k_Model_opens J K (n + 1) 0 L S M = ai_aload 0 1 (am_run (c_Model_opens s_Model_begin s_Model_fail s_Model_node s_Str_charAt s_Model_letter) k_Model_opens J K n) K 0 L S M := by rfl
set_option maxRecDepth 20000 in
theorem r_Model_opens_1 {s_Model_begin : aS} {s_Model_fail : aS} {s_Model_node : aS} {s_Str_charAt : aS} {s_Model_letter : aS} {J : aJ} {K : aR} {n : Nat} {L : aL} {S : List Value} {M : aM} : am_run (c_Model_opens s_Model_begin s_Model_fail s_Model_node s_Str_charAt s_Model_letter) k_Model_opens J K (n + 1) 1 L S M = ai_callv1 7 s_Model_begin 4 (am_run (c_Model_opens s_Model_begin s_Model_fail s_Model_node s_Str_charAt s_Model_letter) k_Model_opens J K n) K 1 L S M := by rfl
set_option maxRecDepth 20000 in
theorem r_Model_opens_4 {s_Model_begin : aS} {s_Model_fail : aS} {s_Model_node : aS} {s_Str_charAt : aS} {s_Model_letter : aS} {J : aJ} {K : aR} {n : Nat} {L : aL} {S : List Value} {M : aM} : am_run (c_Model_opens s_Model_begin s_Model_fail s_Model_node s_Str_charAt s_Model_letter) k_Model_opens J K (n + 1) 4 L S M = ai_aload 0 5 (am_run (c_Model_opens s_Model_begin s_Model_fail s_Model_node s_Str_charAt s_Model_letter) k_Model_opens J K n) K 4 L S M := by rfl
set_option maxRecDepth 20000 in
theorem r_Model_opens_5 {s_Model_begin : aS} {s_Model_fail : aS} {s_Model_node : aS} {s_Str_charAt : aS} {s_Model_letter : aS} {J : aJ} {K : aR} {n : Nat} {L : aL} {S : List Value} {M : aM} : am_run (c_Model_opens s_Model_begin s_Model_fail s_Model_node s_Str_charAt s_Model_letter) k_Model_opens J K (n + 1) 5 L S M = ai_getf 7 13 8 (am_run (c_Model_opens s_Model_begin s_Model_fail s_Model_node s_Str_charAt s_Model_letter) k_Model_opens J K n) K 5 L S M := by rfl
set_option maxRecDepth 20000 in
theorem r_Model_opens_8 {s_Model_begin : aS} {s_Model_fail : aS} {s_Model_node : aS} {s_Str_charAt : aS} {s_Model_letter : aS} {J : aJ} {K : aR} {n : Nat} {L : aL} {S : List Value} {M : aM} : am_run (c_Model_opens s_Model_begin s_Model_fail s_Model_node s_Str_charAt s_Model_letter) k_Model_opens J K (n + 1) 8 L S M = ai_const 15 10 (am_run (c_Model_opens s_Model_begin s_Model_fail s_Model_node s_Str_charAt s_Model_letter) k_Model_opens J K n) K 8 L S M := by rfl
set_option maxRecDepth 20000 in
theorem r_Model_opens_10 {s_Model_begin : aS} {s_Model_fail : aS} {s_Model_node : aS} {s_Str_charAt : aS} {s_Model_letter : aS} {J : aJ} {K : aR} {n : Nat} {L : aL} {S : List Value} {M : aM} : am_run (c_Model_opens s_Model_begin s_Model_fail s_Model_node s_Str_charAt s_Model_letter) k_Model_opens J K (n + 1) 10 L S M = ai_cmpne 21 13 (am_run (c_Model_opens s_Model_begin s_Model_fail s_Model_node s_Str_charAt s_Model_letter) k_Model_opens J K n) K 10 L S M := by rfl
set_option maxRecDepth 20000 in
theorem r_Model_opens_13 {s_Model_begin : aS} {s_Model_fail : aS} {s_Model_node : aS} {s_Str_charAt : aS} {s_Model_letter : aS} {J : aJ} {K : aR} {n : Nat} {L : aL} {S : List Value} {M : aM} : am_run (c_Model_opens s_Model_begin s_Model_fail s_Model_node s_Str_charAt s_Model_letter) k_Model_opens J K (n + 1) 13 L S M = ai_aload 0 14 (am_run (c_Model_opens s_Model_begin s_Model_fail s_Model_node s_Str_charAt s_Model_letter) k_Model_opens J K n) K 13 L S M := by rfl
set_option maxRecDepth 20000 in
theorem r_Model_opens_14 {s_Model_begin : aS} {s_Model_fail : aS} {s_Model_node : aS} {s_Str_charAt : aS} {s_Model_letter : aS} {J : aJ} {K : aR} {n : Nat} {L : aL} {S : List Value} {M : aM} : am_run (c_Model_opens s_Model_begin s_Model_fail s_Model_node s_Str_charAt s_Model_letter) k_Model_opens J K (n + 1) 14 L S M = ai_aload 0 15 (am_run (c_Model_opens s_Model_begin s_Model_fail s_Model_node s_Str_charAt s_Model_letter) k_Model_opens J K n) K 14 L S M := by rfl
set_option maxRecDepth 20000 in
theorem r_Model_opens_15 {s_Model_begin : aS} {s_Model_fail : aS} {s_Model_node : aS} {s_Str_charAt : aS} {s_Model_letter : aS} {J : aJ} {K : aR} {n : Nat} {L : aL} {S : List Value} {M : aM} : am_run (c_Model_opens s_Model_begin s_Model_fail s_Model_node s_Str_charAt s_Model_letter) k_Model_opens J K (n + 1) 15 L S M = ai_getf 7 3 18 (am_run (c_Model_opens s_Model_begin s_Model_fail s_Model_node s_Str_charAt s_Model_letter) k_Model_opens J K n) K 15 L S M := by rfl
set_option maxRecDepth 20000 in
theorem r_Model_opens_18 {s_Model_begin : aS} {s_Model_fail : aS} {s_Model_node : aS} {s_Str_charAt : aS} {s_Model_letter : aS} {J : aJ} {K : aR} {n : Nat} {L : aL} {S : List Value} {M : aM} : am_run (c_Model_opens s_Model_begin s_Model_fail s_Model_node s_Str_charAt s_Model_letter) k_Model_opens J K (n + 1) 18 L S M = ai_callv2 7 s_Model_fail 21 (am_run (c_Model_opens s_Model_begin s_Model_fail s_Model_node s_Str_charAt s_Model_letter) k_Model_opens J K n) K 18 L S M := by rfl
set_option maxRecDepth 20000 in
theorem r_Model_opens_21 {s_Model_begin : aS} {s_Model_fail : aS} {s_Model_node : aS} {s_Str_charAt : aS} {s_Model_letter : aS} {J : aJ} {K : aR} {n : Nat} {L : aL} {S : List Value} {M : aM} : am_run (c_Model_opens s_Model_begin s_Model_fail s_Model_node s_Str_charAt s_Model_letter) k_Model_opens J K (n + 1) 21 L S M = ai_aload 0 22 (am_run (c_Model_opens s_Model_begin s_Model_fail s_Model_node s_Str_charAt s_Model_letter) k_Model_opens J K n) K 21 L S M := by rfl
set_option maxRecDepth 20000 in
theorem r_Model_opens_22 {s_Model_begin : aS} {s_Model_fail : aS} {s_Model_node : aS} {s_Str_charAt : aS} {s_Model_letter : aS} {J : aJ} {K : aR} {n : Nat} {L : aL} {S : List Value} {M : aM} : am_run (c_Model_opens s_Model_begin s_Model_fail s_Model_node s_Str_charAt s_Model_letter) k_Model_opens J K (n + 1) 22 L S M = ai_getf 7 4 25 (am_run (c_Model_opens s_Model_begin s_Model_fail s_Model_node s_Str_charAt s_Model_letter) k_Model_opens J K n) K 22 L S M := by rfl
set_option maxRecDepth 20000 in
theorem r_Model_opens_25 {s_Model_begin : aS} {s_Model_fail : aS} {s_Model_node : aS} {s_Str_charAt : aS} {s_Model_letter : aS} {J : aJ} {K : aR} {n : Nat} {L : aL} {S : List Value} {M : aM} : am_run (c_Model_opens s_Model_begin s_Model_fail s_Model_node s_Str_charAt s_Model_letter) k_Model_opens J K (n + 1) 25 L S M = ai_iflt 29 28 (am_run (c_Model_opens s_Model_begin s_Model_fail s_Model_node s_Str_charAt s_Model_letter) k_Model_opens J K n) K 25 L S M := by rfl
set_option maxRecDepth 20000 in
theorem r_Model_opens_28 {s_Model_begin : aS} {s_Model_fail : aS} {s_Model_node : aS} {s_Str_charAt : aS} {s_Model_letter : aS} {J : aJ} {K : aR} {n : Nat} {L : aL} {S : List Value} {M : aM} : am_run (c_Model_opens s_Model_begin s_Model_fail s_Model_node s_Str_charAt s_Model_letter) k_Model_opens J K (n + 1) 28 L S M = ai_vret (am_run (c_Model_opens s_Model_begin s_Model_fail s_Model_node s_Str_charAt s_Model_letter) k_Model_opens J K n) K 28 L S M := by rfl
set_option maxRecDepth 20000 in
theorem r_Model_opens_29 {s_Model_begin : aS} {s_Model_fail : aS} {s_Model_node : aS} {s_Str_charAt : aS} {s_Model_letter : aS} {J : aJ} {K : aR} {n : Nat} {L : aL} {S : List Value} {M : aM} : am_run (c_Model_opens s_Model_begin s_Model_fail s_Model_node s_Str_charAt s_Model_letter) k_Model_opens J K (n + 1) 29 L S M = ai_aload 0 30 (am_run (c_Model_opens s_Model_begin s_Model_fail s_Model_node s_Str_charAt s_Model_letter) k_Model_opens J K n) K 29 L S M := by rfl
set_option maxRecDepth 20000 in
theorem r_Model_opens_30 {s_Model_begin : aS} {s_Model_fail : aS} {s_Model_node : aS} {s_Str_charAt : aS} {s_Model_letter : aS} {J : aJ} {K : aR} {n : Nat} {L : aL} {S : List Value} {M : aM} : am_run (c_Model_opens s_Model_begin s_Model_fail s_Model_node s_Str_charAt s_Model_letter) k_Model_opens J K (n + 1) 30 L S M = ai_getf 7 16 33 (am_run (c_Model_opens s_Model_begin s_Model_fail s_Model_node s_Str_charAt s_Model_letter) k_Model_opens J K n) K 30 L S M := by rfl
set_option maxRecDepth 20000 in
theorem r_Model_opens_33 {s_Model_begin : aS} {s_Model_fail : aS} {s_Model_node : aS} {s_Str_charAt : aS} {s_Model_letter : aS} {J : aJ} {K : aR} {n : Nat} {L : aL} {S : List Value} {M : aM} : am_run (c_Model_opens s_Model_begin s_Model_fail s_Model_node s_Str_charAt s_Model_letter) k_Model_opens J K (n + 1) 33 L S M = ai_aload 0 34 (am_run (c_Model_opens s_Model_begin s_Model_fail s_Model_node s_Str_charAt s_Model_letter) k_Model_opens J K n) K 33 L S M := by rfl
set_option maxRecDepth 20000 in
theorem r_Model_opens_34 {s_Model_begin : aS} {s_Model_fail : aS} {s_Model_node : aS} {s_Str_charAt : aS} {s_Model_letter : aS} {J : aJ} {K : aR} {n : Nat} {L : aL} {S : List Value} {M : aM} : am_run (c_Model_opens s_Model_begin s_Model_fail s_Model_node s_Str_charAt s_Model_letter) k_Model_opens J K (n + 1) 34 L S M = ai_getf 7 13 37 (am_run (c_Model_opens s_Model_begin s_Model_fail s_Model_node s_Str_charAt s_Model_letter) k_Model_opens J K n) K 34 L S M := by rfl
set_option maxRecDepth 20000 in
theorem r_Model_opens_37 {s_Model_begin : aS} {s_Model_fail : aS} {s_Model_node : aS} {s_Str_charAt : aS} {s_Model_letter : aS} {J : aJ} {K : aR} {n : Nat} {L : aL} {S : List Value} {M : aM} : am_run (c_Model_opens s_Model_begin s_Model_fail s_Model_node s_Str_charAt s_Model_letter) k_Model_opens J K (n + 1) 37 L S M = ai_iload 1 38 (am_run (c_Model_opens s_Model_begin s_Model_fail s_Model_node s_Str_charAt s_Model_letter) k_Model_opens J K n) K 37 L S M := by rfl
set_option maxRecDepth 20000 in
theorem r_Model_opens_38 {s_Model_begin : aS} {s_Model_fail : aS} {s_Model_node : aS} {s_Str_charAt : aS} {s_Model_letter : aS} {J : aJ} {K : aR} {n : Nat} {L : aL} {S : List Value} {M : aM} : am_run (c_Model_opens s_Model_begin s_Model_fail s_Model_node s_Str_charAt s_Model_letter) k_Model_opens J K (n + 1) 38 L S M = ai_ifeq 45 41 (am_run (c_Model_opens s_Model_begin s_Model_fail s_Model_node s_Str_charAt s_Model_letter) k_Model_opens J K n) K 38 L S M := by rfl
set_option maxRecDepth 20000 in
theorem r_Model_opens_41 {s_Model_begin : aS} {s_Model_fail : aS} {s_Model_node : aS} {s_Str_charAt : aS} {s_Model_letter : aS} {J : aJ} {K : aR} {n : Nat} {L : aL} {S : List Value} {M : aM} : am_run (c_Model_opens s_Model_begin s_Model_fail s_Model_node s_Str_charAt s_Model_letter) k_Model_opens J K (n + 1) 41 L S M = ai_const 4 42 (am_run (c_Model_opens s_Model_begin s_Model_fail s_Model_node s_Str_charAt s_Model_letter) k_Model_opens J K n) K 41 L S M := by rfl
set_option maxRecDepth 20000 in
theorem r_Model_opens_42 {s_Model_begin : aS} {s_Model_fail : aS} {s_Model_node : aS} {s_Str_charAt : aS} {s_Model_letter : aS} {J : aJ} {K : aR} {n : Nat} {L : aL} {S : List Value} {M : aM} : am_run (c_Model_opens s_Model_begin s_Model_fail s_Model_node s_Str_charAt s_Model_letter) k_Model_opens J K (n + 1) 42 L S M = ai_goto 46 (am_run (c_Model_opens s_Model_begin s_Model_fail s_Model_node s_Str_charAt s_Model_letter) k_Model_opens J K n) K 42 L S M := by rfl
set_option maxRecDepth 20000 in
theorem r_Model_opens_45 {s_Model_begin : aS} {s_Model_fail : aS} {s_Model_node : aS} {s_Str_charAt : aS} {s_Model_letter : aS} {J : aJ} {K : aR} {n : Nat} {L : aL} {S : List Value} {M : aM} : am_run (c_Model_opens s_Model_begin s_Model_fail s_Model_node s_Str_charAt s_Model_letter) k_Model_opens J K (n + 1) 45 L S M = ai_const 0 46 (am_run (c_Model_opens s_Model_begin s_Model_fail s_Model_node s_Str_charAt s_Model_letter) k_Model_opens J K n) K 45 L S M := by rfl
set_option maxRecDepth 20000 in
theorem r_Model_opens_46 {s_Model_begin : aS} {s_Model_fail : aS} {s_Model_node : aS} {s_Str_charAt : aS} {s_Model_letter : aS} {J : aJ} {K : aR} {n : Nat} {L : aL} {S : List Value} {M : aM} : am_run (c_Model_opens s_Model_begin s_Model_fail s_Model_node s_Str_charAt s_Model_letter) k_Model_opens J K (n + 1) 46 L S M = ai_iast 47 (am_run (c_Model_opens s_Model_begin s_Model_fail s_Model_node s_Str_charAt s_Model_letter) k_Model_opens J K n) K 46 L S M := by rfl
set_option maxRecDepth 20000 in
theorem r_Model_opens_47 {s_Model_begin : aS} {s_Model_fail : aS} {s_Model_node : aS} {s_Str_charAt : aS} {s_Model_letter : aS} {J : aJ} {K : aR} {n : Nat} {L : aL} {S : List Value} {M : aM} : am_run (c_Model_opens s_Model_begin s_Model_fail s_Model_node s_Str_charAt s_Model_letter) k_Model_opens J K (n + 1) 47 L S M = ai_aload 0 48 (am_run (c_Model_opens s_Model_begin s_Model_fail s_Model_node s_Str_charAt s_Model_letter) k_Model_opens J K n) K 47 L S M := by rfl
set_option maxRecDepth 20000 in
theorem r_Model_opens_48 {s_Model_begin : aS} {s_Model_fail : aS} {s_Model_node : aS} {s_Str_charAt : aS} {s_Model_letter : aS} {J : aJ} {K : aR} {n : Nat} {L : aL} {S : List Value} {M : aM} : am_run (c_Model_opens s_Model_begin s_Model_fail s_Model_node s_Str_charAt s_Model_letter) k_Model_opens J K (n + 1) 48 L S M = ai_aload 0 49 (am_run (c_Model_opens s_Model_begin s_Model_fail s_Model_node s_Str_charAt s_Model_letter) k_Model_opens J K n) K 48 L S M := by rfl
set_option maxRecDepth 20000 in
theorem r_Model_opens_49 {s_Model_begin : aS} {s_Model_fail : aS} {s_Model_node : aS} {s_Str_charAt : aS} {s_Model_letter : aS} {J : aJ} {K : aR} {n : Nat} {L : aL} {S : List Value} {M : aM} : am_run (c_Model_opens s_Model_begin s_Model_fail s_Model_node s_Str_charAt s_Model_letter) k_Model_opens J K (n + 1) 49 L S M = ai_getf 7 13 52 (am_run (c_Model_opens s_Model_begin s_Model_fail s_Model_node s_Str_charAt s_Model_letter) k_Model_opens J K n) K 49 L S M := by rfl
set_option maxRecDepth 20000 in
theorem r_Model_opens_52 {s_Model_begin : aS} {s_Model_fail : aS} {s_Model_node : aS} {s_Str_charAt : aS} {s_Model_letter : aS} {J : aJ} {K : aR} {n : Nat} {L : aL} {S : List Value} {M : aM} : am_run (c_Model_opens s_Model_begin s_Model_fail s_Model_node s_Str_charAt s_Model_letter) k_Model_opens J K (n + 1) 52 L S M = ai_const 1 53 (am_run (c_Model_opens s_Model_begin s_Model_fail s_Model_node s_Str_charAt s_Model_letter) k_Model_opens J K n) K 52 L S M := by rfl
set_option maxRecDepth 20000 in
theorem r_Model_opens_53 {s_Model_begin : aS} {s_Model_fail : aS} {s_Model_node : aS} {s_Str_charAt : aS} {s_Model_letter : aS} {J : aJ} {K : aR} {n : Nat} {L : aL} {S : List Value} {M : aM} : am_run (c_Model_opens s_Model_begin s_Model_fail s_Model_node s_Str_charAt s_Model_letter) k_Model_opens J K (n + 1) 53 L S M = ai_iadd 54 (am_run (c_Model_opens s_Model_begin s_Model_fail s_Model_node s_Str_charAt s_Model_letter) k_Model_opens J K n) K 53 L S M := by rfl
set_option maxRecDepth 20000 in
theorem r_Model_opens_54 {s_Model_begin : aS} {s_Model_fail : aS} {s_Model_node : aS} {s_Str_charAt : aS} {s_Model_letter : aS} {J : aJ} {K : aR} {n : Nat} {L : aL} {S : List Value} {M : aM} : am_run (c_Model_opens s_Model_begin s_Model_fail s_Model_node s_Str_charAt s_Model_letter) k_Model_opens J K (n + 1) 54 L S M = ai_putf 7 13 57 (am_run (c_Model_opens s_Model_begin s_Model_fail s_Model_node s_Str_charAt s_Model_letter) k_Model_opens J K n) K 54 L S M := by rfl
set_option maxRecDepth 20000 in
theorem r_Model_opens_57 {s_Model_begin : aS} {s_Model_fail : aS} {s_Model_node : aS} {s_Str_charAt : aS} {s_Model_letter : aS} {J : aJ} {K : aR} {n : Nat} {L : aL} {S : List Value} {M : aM} : am_run (c_Model_opens s_Model_begin s_Model_fail s_Model_node s_Str_charAt s_Model_letter) k_Model_opens J K (n + 1) 57 L S M = ai_iload 1 58 (am_run (c_Model_opens s_Model_begin s_Model_fail s_Model_node s_Str_charAt s_Model_letter) k_Model_opens J K n) K 57 L S M := by rfl
set_option maxRecDepth 20000 in
theorem r_Model_opens_58 {s_Model_begin : aS} {s_Model_fail : aS} {s_Model_node : aS} {s_Str_charAt : aS} {s_Model_letter : aS} {J : aJ} {K : aR} {n : Nat} {L : aL} {S : List Value} {M : aM} : am_run (c_Model_opens s_Model_begin s_Model_fail s_Model_node s_Str_charAt s_Model_letter) k_Model_opens J K (n + 1) 58 L S M = ai_ifne 62 61 (am_run (c_Model_opens s_Model_begin s_Model_fail s_Model_node s_Str_charAt s_Model_letter) k_Model_opens J K n) K 58 L S M := by rfl
set_option maxRecDepth 20000 in
theorem r_Model_opens_61 {s_Model_begin : aS} {s_Model_fail : aS} {s_Model_node : aS} {s_Str_charAt : aS} {s_Model_letter : aS} {J : aJ} {K : aR} {n : Nat} {L : aL} {S : List Value} {M : aM} : am_run (c_Model_opens s_Model_begin s_Model_fail s_Model_node s_Str_charAt s_Model_letter) k_Model_opens J K (n + 1) 61 L S M = ai_vret (am_run (c_Model_opens s_Model_begin s_Model_fail s_Model_node s_Str_charAt s_Model_letter) k_Model_opens J K n) K 61 L S M := by rfl
set_option maxRecDepth 20000 in
theorem r_Model_opens_62 {s_Model_begin : aS} {s_Model_fail : aS} {s_Model_node : aS} {s_Str_charAt : aS} {s_Model_letter : aS} {J : aJ} {K : aR} {n : Nat} {L : aL} {S : List Value} {M : aM} : am_run (c_Model_opens s_Model_begin s_Model_fail s_Model_node s_Str_charAt s_Model_letter) k_Model_opens J K (n + 1) 62 L S M = ai_aload 0 63 (am_run (c_Model_opens s_Model_begin s_Model_fail s_Model_node s_Str_charAt s_Model_letter) k_Model_opens J K n) K 62 L S M := by rfl
set_option maxRecDepth 20000 in
theorem r_Model_opens_63 {s_Model_begin : aS} {s_Model_fail : aS} {s_Model_node : aS} {s_Str_charAt : aS} {s_Model_letter : aS} {J : aJ} {K : aR} {n : Nat} {L : aL} {S : List Value} {M : aM} : am_run (c_Model_opens s_Model_begin s_Model_fail s_Model_node s_Str_charAt s_Model_letter) k_Model_opens J K (n + 1) 63 L S M = ai_const 4 64 (am_run (c_Model_opens s_Model_begin s_Model_fail s_Model_node s_Str_charAt s_Model_letter) k_Model_opens J K n) K 63 L S M := by rfl
set_option maxRecDepth 20000 in
theorem r_Model_opens_64 {s_Model_begin : aS} {s_Model_fail : aS} {s_Model_node : aS} {s_Str_charAt : aS} {s_Model_letter : aS} {J : aJ} {K : aR} {n : Nat} {L : aL} {S : List Value} {M : aM} : am_run (c_Model_opens s_Model_begin s_Model_fail s_Model_node s_Str_charAt s_Model_letter) k_Model_opens J K (n + 1) 64 L S M = ai_callv2 7 s_Model_node 67 (am_run (c_Model_opens s_Model_begin s_Model_fail s_Model_node s_Str_charAt s_Model_letter) k_Model_opens J K n) K 64 L S M := by rfl
set_option maxRecDepth 20000 in
theorem r_Model_opens_67 {s_Model_begin : aS} {s_Model_fail : aS} {s_Model_node : aS} {s_Str_charAt : aS} {s_Model_letter : aS} {J : aJ} {K : aR} {n : Nat} {L : aL} {S : List Value} {M : aM} : am_run (c_Model_opens s_Model_begin s_Model_fail s_Model_node s_Str_charAt s_Model_letter) k_Model_opens J K (n + 1) 67 L S M = ai_istore 2 68 (am_run (c_Model_opens s_Model_begin s_Model_fail s_Model_node s_Str_charAt s_Model_letter) k_Model_opens J K n) K 67 L S M := by rfl
set_option maxRecDepth 20000 in
theorem r_Model_opens_68 {s_Model_begin : aS} {s_Model_fail : aS} {s_Model_node : aS} {s_Str_charAt : aS} {s_Model_letter : aS} {J : aJ} {K : aR} {n : Nat} {L : aL} {S : List Value} {M : aM} : am_run (c_Model_opens s_Model_begin s_Model_fail s_Model_node s_Str_charAt s_Model_letter) k_Model_opens J K (n + 1) 68 L S M = ai_aload 0 69 (am_run (c_Model_opens s_Model_begin s_Model_fail s_Model_node s_Str_charAt s_Model_letter) k_Model_opens J K n) K 68 L S M := by rfl
set_option maxRecDepth 20000 in
theorem r_Model_opens_69 {s_Model_begin : aS} {s_Model_fail : aS} {s_Model_node : aS} {s_Str_charAt : aS} {s_Model_letter : aS} {J : aJ} {K : aR} {n : Nat} {L : aL} {S : List Value} {M : aM} : am_run (c_Model_opens s_Model_begin s_Model_fail s_Model_node s_Str_charAt s_Model_letter) k_Model_opens J K (n + 1) 69 L S M = ai_const 2 70 (am_run (c_Model_opens s_Model_begin s_Model_fail s_Model_node s_Str_charAt s_Model_letter) k_Model_opens J K n) K 69 L S M := by rfl
set_option maxRecDepth 20000 in
theorem r_Model_opens_70 {s_Model_begin : aS} {s_Model_fail : aS} {s_Model_node : aS} {s_Str_charAt : aS} {s_Model_letter : aS} {J : aJ} {K : aR} {n : Nat} {L : aL} {S : List Value} {M : aM} : am_run (c_Model_opens s_Model_begin s_Model_fail s_Model_node s_Str_charAt s_Model_letter) k_Model_opens J K (n + 1) 70 L S M = ai_callv2 7 s_Model_node 73 (am_run (c_Model_opens s_Model_begin s_Model_fail s_Model_node s_Str_charAt s_Model_letter) k_Model_opens J K n) K 70 L S M := by rfl
set_option maxRecDepth 20000 in
theorem r_Model_opens_73 {s_Model_begin : aS} {s_Model_fail : aS} {s_Model_node : aS} {s_Str_charAt : aS} {s_Model_letter : aS} {J : aJ} {K : aR} {n : Nat} {L : aL} {S : List Value} {M : aM} : am_run (c_Model_opens s_Model_begin s_Model_fail s_Model_node s_Str_charAt s_Model_letter) k_Model_opens J K (n + 1) 73 L S M = ai_istore 3 74 (am_run (c_Model_opens s_Model_begin s_Model_fail s_Model_node s_Str_charAt s_Model_letter) k_Model_opens J K n) K 73 L S M := by rfl
set_option maxRecDepth 20000 in
theorem r_Model_opens_74 {s_Model_begin : aS} {s_Model_fail : aS} {s_Model_node : aS} {s_Str_charAt : aS} {s_Model_letter : aS} {J : aJ} {K : aR} {n : Nat} {L : aL} {S : List Value} {M : aM} : am_run (c_Model_opens s_Model_begin s_Model_fail s_Model_node s_Str_charAt s_Model_letter) k_Model_opens J K (n + 1) 74 L S M = ai_aload 0 75 (am_run (c_Model_opens s_Model_begin s_Model_fail s_Model_node s_Str_charAt s_Model_letter) k_Model_opens J K n) K 74 L S M := by rfl
set_option maxRecDepth 20000 in
theorem r_Model_opens_75 {s_Model_begin : aS} {s_Model_fail : aS} {s_Model_node : aS} {s_Str_charAt : aS} {s_Model_letter : aS} {J : aJ} {K : aR} {n : Nat} {L : aL} {S : List Value} {M : aM} : am_run (c_Model_opens s_Model_begin s_Model_fail s_Model_node s_Str_charAt s_Model_letter) k_Model_opens J K (n + 1) 75 L S M = ai_const 4 76 (am_run (c_Model_opens s_Model_begin s_Model_fail s_Model_node s_Str_charAt s_Model_letter) k_Model_opens J K n) K 75 L S M := by rfl
set_option maxRecDepth 20000 in
theorem r_Model_opens_76 {s_Model_begin : aS} {s_Model_fail : aS} {s_Model_node : aS} {s_Str_charAt : aS} {s_Model_letter : aS} {J : aJ} {K : aR} {n : Nat} {L : aL} {S : List Value} {M : aM} : am_run (c_Model_opens s_Model_begin s_Model_fail s_Model_node s_Str_charAt s_Model_letter) k_Model_opens J K (n + 1) 76 L S M = ai_callv2 7 s_Model_node 79 (am_run (c_Model_opens s_Model_begin s_Model_fail s_Model_node s_Str_charAt s_Model_letter) k_Model_opens J K n) K 76 L S M := by rfl
set_option maxRecDepth 20000 in
theorem r_Model_opens_79 {s_Model_begin : aS} {s_Model_fail : aS} {s_Model_node : aS} {s_Str_charAt : aS} {s_Model_letter : aS} {J : aJ} {K : aR} {n : Nat} {L : aL} {S : List Value} {M : aM} : am_run (c_Model_opens s_Model_begin s_Model_fail s_Model_node s_Str_charAt s_Model_letter) k_Model_opens J K (n + 1) 79 L S M = ai_istore 4 81 (am_run (c_Model_opens s_Model_begin s_Model_fail s_Model_node s_Str_charAt s_Model_letter) k_Model_opens J K n) K 79 L S M := by rfl
set_option maxRecDepth 20000 in
theorem r_Model_opens_81 {s_Model_begin : aS} {s_Model_fail : aS} {s_Model_node : aS} {s_Str_charAt : aS} {s_Model_letter : aS} {J : aJ} {K : aR} {n : Nat} {L : aL} {S : List Value} {M : aM} : am_run (c_Model_opens s_Model_begin s_Model_fail s_Model_node s_Str_charAt s_Model_letter) k_Model_opens J K (n + 1) 81 L S M = ai_aload 0 82 (am_run (c_Model_opens s_Model_begin s_Model_fail s_Model_node s_Str_charAt s_Model_letter) k_Model_opens J K n) K 81 L S M := by rfl
set_option maxRecDepth 20000 in
theorem r_Model_opens_82 {s_Model_begin : aS} {s_Model_fail : aS} {s_Model_node : aS} {s_Str_charAt : aS} {s_Model_letter : aS} {J : aJ} {K : aR} {n : Nat} {L : aL} {S : List Value} {M : aM} : am_run (c_Model_opens s_Model_begin s_Model_fail s_Model_node s_Str_charAt s_Model_letter) k_Model_opens J K (n + 1) 82 L S M = ai_getf 7 4 85 (am_run (c_Model_opens s_Model_begin s_Model_fail s_Model_node s_Str_charAt s_Model_letter) k_Model_opens J K n) K 82 L S M := by rfl
set_option maxRecDepth 20000 in
theorem r_Model_opens_85 {s_Model_begin : aS} {s_Model_fail : aS} {s_Model_node : aS} {s_Str_charAt : aS} {s_Model_letter : aS} {J : aJ} {K : aR} {n : Nat} {L : aL} {S : List Value} {M : aM} : am_run (c_Model_opens s_Model_begin s_Model_fail s_Model_node s_Str_charAt s_Model_letter) k_Model_opens J K (n + 1) 85 L S M = ai_iflt 89 88 (am_run (c_Model_opens s_Model_begin s_Model_fail s_Model_node s_Str_charAt s_Model_letter) k_Model_opens J K n) K 85 L S M := by rfl
set_option maxRecDepth 20000 in
theorem r_Model_opens_88 {s_Model_begin : aS} {s_Model_fail : aS} {s_Model_node : aS} {s_Str_charAt : aS} {s_Model_letter : aS} {J : aJ} {K : aR} {n : Nat} {L : aL} {S : List Value} {M : aM} : am_run (c_Model_opens s_Model_begin s_Model_fail s_Model_node s_Str_charAt s_Model_letter) k_Model_opens J K (n + 1) 88 L S M = ai_vret (am_run (c_Model_opens s_Model_begin s_Model_fail s_Model_node s_Str_charAt s_Model_letter) k_Model_opens J K n) K 88 L S M := by rfl
set_option maxRecDepth 20000 in
theorem r_Model_opens_89 {s_Model_begin : aS} {s_Model_fail : aS} {s_Model_node : aS} {s_Str_charAt : aS} {s_Model_letter : aS} {J : aJ} {K : aR} {n : Nat} {L : aL} {S : List Value} {M : aM} : am_run (c_Model_opens s_Model_begin s_Model_fail s_Model_node s_Str_charAt s_Model_letter) k_Model_opens J K (n + 1) 89 L S M = ai_const 0 90 (am_run (c_Model_opens s_Model_begin s_Model_fail s_Model_node s_Str_charAt s_Model_letter) k_Model_opens J K n) K 89 L S M := by rfl
set_option maxRecDepth 20000 in
theorem r_Model_opens_90 {s_Model_begin : aS} {s_Model_fail : aS} {s_Model_node : aS} {s_Str_charAt : aS} {s_Model_letter : aS} {J : aJ} {K : aR} {n : Nat} {L : aL} {S : List Value} {M : aM} : am_run (c_Model_opens s_Model_begin s_Model_fail s_Model_node s_Str_charAt s_Model_letter) k_Model_opens J K (n + 1) 90 L S M = ai_istore 5 92 (am_run (c_Model_opens s_Model_begin s_Model_fail s_Model_node s_Str_charAt s_Model_letter) k_Model_opens J K n) K 90 L S M := by rfl
set_option maxRecDepth 20000 in
theorem r_Model_opens_92 {s_Model_begin : aS} {s_Model_fail : aS} {s_Model_node : aS} {s_Str_charAt : aS} {s_Model_letter : aS} {J : aJ} {K : aR} {n : Nat} {L : aL} {S : List Value} {M : aM} : am_run (c_Model_opens s_Model_begin s_Model_fail s_Model_node s_Str_charAt s_Model_letter) k_Model_opens J K (n + 1) 92 L S M = J 92 L S M := by rfl
set_option maxRecDepth 20000 in
theorem r_Model_opens_94 {s_Model_begin : aS} {s_Model_fail : aS} {s_Model_node : aS} {s_Str_charAt : aS} {s_Model_letter : aS} {J : aJ} {K : aR} {n : Nat} {L : aL} {S : List Value} {M : aM} : am_run (c_Model_opens s_Model_begin s_Model_fail s_Model_node s_Str_charAt s_Model_letter) k_Model_opens J K (n + 1) 94 L S M = ai_const 5 95 (am_run (c_Model_opens s_Model_begin s_Model_fail s_Model_node s_Str_charAt s_Model_letter) k_Model_opens J K n) K 94 L S M := by rfl
set_option maxRecDepth 20000 in
theorem r_Model_opens_95 {s_Model_begin : aS} {s_Model_fail : aS} {s_Model_node : aS} {s_Str_charAt : aS} {s_Model_letter : aS} {J : aJ} {K : aR} {n : Nat} {L : aL} {S : List Value} {M : aM} : am_run (c_Model_opens s_Model_begin s_Model_fail s_Model_node s_Str_charAt s_Model_letter) k_Model_opens J K (n + 1) 95 L S M = ai_cmpge 116 98 (am_run (c_Model_opens s_Model_begin s_Model_fail s_Model_node s_Str_charAt s_Model_letter) k_Model_opens J K n) K 95 L S M := by rfl
set_option maxRecDepth 20000 in
theorem r_Model_opens_98 {s_Model_begin : aS} {s_Model_fail : aS} {s_Model_node : aS} {s_Str_charAt : aS} {s_Model_letter : aS} {J : aJ} {K : aR} {n : Nat} {L : aL} {S : List Value} {M : aM} : am_run (c_Model_opens s_Model_begin s_Model_fail s_Model_node s_Str_charAt s_Model_letter) k_Model_opens J K (n + 1) 98 L S M = ai_aload 0 99 (am_run (c_Model_opens s_Model_begin s_Model_fail s_Model_node s_Str_charAt s_Model_letter) k_Model_opens J K n) K 98 L S M := by rfl
set_option maxRecDepth 20000 in
theorem r_Model_opens_99 {s_Model_begin : aS} {s_Model_fail : aS} {s_Model_node : aS} {s_Str_charAt : aS} {s_Model_letter : aS} {J : aJ} {K : aR} {n : Nat} {L : aL} {S : List Value} {M : aM} : am_run (c_Model_opens s_Model_begin s_Model_fail s_Model_node s_Str_charAt s_Model_letter) k_Model_opens J K (n + 1) 99 L S M = ai_iload 3 100 (am_run (c_Model_opens s_Model_begin s_Model_fail s_Model_node s_Str_charAt s_Model_letter) k_Model_opens J K n) K 99 L S M := by rfl
set_option maxRecDepth 20000 in
theorem r_Model_opens_100 {s_Model_begin : aS} {s_Model_fail : aS} {s_Model_node : aS} {s_Str_charAt : aS} {s_Model_letter : aS} {J : aJ} {K : aR} {n : Nat} {L : aL} {S : List Value} {M : aM} : am_run (c_Model_opens s_Model_begin s_Model_fail s_Model_node s_Str_charAt s_Model_letter) k_Model_opens J K (n + 1) 100 L S M = ai_gets (.ref 1002) 102 (am_run (c_Model_opens s_Model_begin s_Model_fail s_Model_node s_Str_charAt s_Model_letter) k_Model_opens J K n) K 100 L S M := by rfl
set_option maxRecDepth 20000 in
theorem r_Model_opens_102 {s_Model_begin : aS} {s_Model_fail : aS} {s_Model_node : aS} {s_Str_charAt : aS} {s_Model_letter : aS} {J : aJ} {K : aR} {n : Nat} {L : aL} {S : List Value} {M : aM} : am_run (c_Model_opens s_Model_begin s_Model_fail s_Model_node s_Str_charAt s_Model_letter) k_Model_opens J K (n + 1) 102 L S M = ai_iload 5 104 (am_run (c_Model_opens s_Model_begin s_Model_fail s_Model_node s_Str_charAt s_Model_letter) k_Model_opens J K n) K 102 L S M := by rfl
set_option maxRecDepth 20000 in
theorem r_Model_opens_104 {s_Model_begin : aS} {s_Model_fail : aS} {s_Model_node : aS} {s_Str_charAt : aS} {s_Model_letter : aS} {J : aJ} {K : aR} {n : Nat} {L : aL} {S : List Value} {M : aM} : am_run (c_Model_opens s_Model_begin s_Model_fail s_Model_node s_Str_charAt s_Model_letter) k_Model_opens J K (n + 1) 104 L S M = ai_callx2 s_Str_charAt 107 (am_run (c_Model_opens s_Model_begin s_Model_fail s_Model_node s_Str_charAt s_Model_letter) k_Model_opens J K n) K 104 L S M := by rfl
set_option maxRecDepth 20000 in
theorem r_Model_opens_107 {s_Model_begin : aS} {s_Model_fail : aS} {s_Model_node : aS} {s_Str_charAt : aS} {s_Model_letter : aS} {J : aJ} {K : aR} {n : Nat} {L : aL} {S : List Value} {M : aM} : am_run (c_Model_opens s_Model_begin s_Model_fail s_Model_node s_Str_charAt s_Model_letter) k_Model_opens J K (n + 1) 107 L S M = ai_callv3 7 s_Model_letter 110 (am_run (c_Model_opens s_Model_begin s_Model_fail s_Model_node s_Str_charAt s_Model_letter) k_Model_opens J K n) K 107 L S M := by rfl
set_option maxRecDepth 20000 in
theorem r_Model_opens_110 {s_Model_begin : aS} {s_Model_fail : aS} {s_Model_node : aS} {s_Str_charAt : aS} {s_Model_letter : aS} {J : aJ} {K : aR} {n : Nat} {L : aL} {S : List Value} {M : aM} : am_run (c_Model_opens s_Model_begin s_Model_fail s_Model_node s_Str_charAt s_Model_letter) k_Model_opens J K (n + 1) 110 L S M = ai_iinc 5 1 113 (am_run (c_Model_opens s_Model_begin s_Model_fail s_Model_node s_Str_charAt s_Model_letter) k_Model_opens J K n) K 110 L S M := by rfl
set_option maxRecDepth 20000 in
theorem r_Model_opens_113 {s_Model_begin : aS} {s_Model_fail : aS} {s_Model_node : aS} {s_Str_charAt : aS} {s_Model_letter : aS} {J : aJ} {K : aR} {n : Nat} {L : aL} {S : List Value} {M : aM} : am_run (c_Model_opens s_Model_begin s_Model_fail s_Model_node s_Str_charAt s_Model_letter) k_Model_opens J K (n + 1) 113 L S M = ai_goto 92 (am_run (c_Model_opens s_Model_begin s_Model_fail s_Model_node s_Str_charAt s_Model_letter) k_Model_opens J K n) K 113 L S M := by rfl
set_option maxRecDepth 20000 in
theorem r_Model_opens_116 {s_Model_begin : aS} {s_Model_fail : aS} {s_Model_node : aS} {s_Str_charAt : aS} {s_Model_letter : aS} {J : aJ} {K : aR} {n : Nat} {L : aL} {S : List Value} {M : aM} : am_run (c_Model_opens s_Model_begin s_Model_fail s_Model_node s_Str_charAt s_Model_letter) k_Model_opens J K (n + 1) 116 L S M = ai_aload 0 117 (am_run (c_Model_opens s_Model_begin s_Model_fail s_Model_node s_Str_charAt s_Model_letter) k_Model_opens J K n) K 116 L S M := by rfl
set_option maxRecDepth 20000 in
theorem r_Model_opens_117 {s_Model_begin : aS} {s_Model_fail : aS} {s_Model_node : aS} {s_Str_charAt : aS} {s_Model_letter : aS} {J : aJ} {K : aR} {n : Nat} {L : aL} {S : List Value} {M : aM} : am_run (c_Model_opens s_Model_begin s_Model_fail s_Model_node s_Str_charAt s_Model_letter) k_Model_opens J K (n + 1) 117 L S M = ai_getf 7 9 120 (am_run (c_Model_opens s_Model_begin s_Model_fail s_Model_node s_Str_charAt s_Model_letter) k_Model_opens J K n) K 117 L S M := by rfl
set_option maxRecDepth 20000 in
theorem r_Model_opens_120 {s_Model_begin : aS} {s_Model_fail : aS} {s_Model_node : aS} {s_Str_charAt : aS} {s_Model_letter : aS} {J : aJ} {K : aR} {n : Nat} {L : aL} {S : List Value} {M : aM} : am_run (c_Model_opens s_Model_begin s_Model_fail s_Model_node s_Str_charAt s_Model_letter) k_Model_opens J K (n + 1) 120 L S M = ai_iload 2 121 (am_run (c_Model_opens s_Model_begin s_Model_fail s_Model_node s_Str_charAt s_Model_letter) k_Model_opens J K n) K 120 L S M := by rfl
set_option maxRecDepth 20000 in
theorem r_Model_opens_121 {s_Model_begin : aS} {s_Model_fail : aS} {s_Model_node : aS} {s_Str_charAt : aS} {s_Model_letter : aS} {J : aJ} {K : aR} {n : Nat} {L : aL} {S : List Value} {M : aM} : am_run (c_Model_opens s_Model_begin s_Model_fail s_Model_node s_Str_charAt s_Model_letter) k_Model_opens J K (n + 1) 121 L S M = ai_iload 3 122 (am_run (c_Model_opens s_Model_begin s_Model_fail s_Model_node s_Str_charAt s_Model_letter) k_Model_opens J K n) K 121 L S M := by rfl
set_option maxRecDepth 20000 in
theorem r_Model_opens_122 {s_Model_begin : aS} {s_Model_fail : aS} {s_Model_node : aS} {s_Str_charAt : aS} {s_Model_letter : aS} {J : aJ} {K : aR} {n : Nat} {L : aL} {S : List Value} {M : aM} : am_run (c_Model_opens s_Model_begin s_Model_fail s_Model_node s_Str_charAt s_Model_letter) k_Model_opens J K (n + 1) 122 L S M = ai_iast 123 (am_run (c_Model_opens s_Model_begin s_Model_fail s_Model_node s_Str_charAt s_Model_letter) k_Model_opens J K n) K 122 L S M := by rfl
set_option maxRecDepth 20000 in
theorem r_Model_opens_123 {s_Model_begin : aS} {s_Model_fail : aS} {s_Model_node : aS} {s_Str_charAt : aS} {s_Model_letter : aS} {J : aJ} {K : aR} {n : Nat} {L : aL} {S : List Value} {M : aM} : am_run (c_Model_opens s_Model_begin s_Model_fail s_Model_node s_Str_charAt s_Model_letter) k_Model_opens J K (n + 1) 123 L S M = ai_aload 0 124 (am_run (c_Model_opens s_Model_begin s_Model_fail s_Model_node s_Str_charAt s_Model_letter) k_Model_opens J K n) K 123 L S M := by rfl
set_option maxRecDepth 20000 in
theorem r_Model_opens_124 {s_Model_begin : aS} {s_Model_fail : aS} {s_Model_node : aS} {s_Str_charAt : aS} {s_Model_letter : aS} {J : aJ} {K : aR} {n : Nat} {L : aL} {S : List Value} {M : aM} : am_run (c_Model_opens s_Model_begin s_Model_fail s_Model_node s_Str_charAt s_Model_letter) k_Model_opens J K (n + 1) 124 L S M = ai_getf 7 10 127 (am_run (c_Model_opens s_Model_begin s_Model_fail s_Model_node s_Str_charAt s_Model_letter) k_Model_opens J K n) K 124 L S M := by rfl
set_option maxRecDepth 20000 in
theorem r_Model_opens_127 {s_Model_begin : aS} {s_Model_fail : aS} {s_Model_node : aS} {s_Str_charAt : aS} {s_Model_letter : aS} {J : aJ} {K : aR} {n : Nat} {L : aL} {S : List Value} {M : aM} : am_run (c_Model_opens s_Model_begin s_Model_fail s_Model_node s_Str_charAt s_Model_letter) k_Model_opens J K (n + 1) 127 L S M = ai_iload 2 128 (am_run (c_Model_opens s_Model_begin s_Model_fail s_Model_node s_Str_charAt s_Model_letter) k_Model_opens J K n) K 127 L S M := by rfl
set_option maxRecDepth 20000 in
theorem r_Model_opens_128 {s_Model_begin : aS} {s_Model_fail : aS} {s_Model_node : aS} {s_Str_charAt : aS} {s_Model_letter : aS} {J : aJ} {K : aR} {n : Nat} {L : aL} {S : List Value} {M : aM} : am_run (c_Model_opens s_Model_begin s_Model_fail s_Model_node s_Str_charAt s_Model_letter) k_Model_opens J K (n + 1) 128 L S M = ai_iload 4 130 (am_run (c_Model_opens s_Model_begin s_Model_fail s_Model_node s_Str_charAt s_Model_letter) k_Model_opens J K n) K 128 L S M := by rfl
set_option maxRecDepth 20000 in
theorem r_Model_opens_130 {s_Model_begin : aS} {s_Model_fail : aS} {s_Model_node : aS} {s_Str_charAt : aS} {s_Model_letter : aS} {J : aJ} {K : aR} {n : Nat} {L : aL} {S : List Value} {M : aM} : am_run (c_Model_opens s_Model_begin s_Model_fail s_Model_node s_Str_charAt s_Model_letter) k_Model_opens J K (n + 1) 130 L S M = ai_iast 131 (am_run (c_Model_opens s_Model_begin s_Model_fail s_Model_node s_Str_charAt s_Model_letter) k_Model_opens J K n) K 130 L S M := by rfl
set_option maxRecDepth 20000 in
theorem r_Model_opens_131 {s_Model_begin : aS} {s_Model_fail : aS} {s_Model_node : aS} {s_Str_charAt : aS} {s_Model_letter : aS} {J : aJ} {K : aR} {n : Nat} {L : aL} {S : List Value} {M : aM} : am_run (c_Model_opens s_Model_begin s_Model_fail s_Model_node s_Str_charAt s_Model_letter) k_Model_opens J K (n + 1) 131 L S M = ai_aload 0 132 (am_run (c_Model_opens s_Model_begin s_Model_fail s_Model_node s_Str_charAt s_Model_letter) k_Model_opens J K n) K 131 L S M := by rfl
set_option maxRecDepth 20000 in
theorem r_Model_opens_132 {s_Model_begin : aS} {s_Model_fail : aS} {s_Model_node : aS} {s_Str_charAt : aS} {s_Model_letter : aS} {J : aJ} {K : aR} {n : Nat} {L : aL} {S : List Value} {M : aM} : am_run (c_Model_opens s_Model_begin s_Model_fail s_Model_node s_Str_charAt s_Model_letter) k_Model_opens J K (n + 1) 132 L S M = ai_getf 7 14 135 (am_run (c_Model_opens s_Model_begin s_Model_fail s_Model_node s_Str_charAt s_Model_letter) k_Model_opens J K n) K 132 L S M := by rfl
set_option maxRecDepth 20000 in
theorem r_Model_opens_135 {s_Model_begin : aS} {s_Model_fail : aS} {s_Model_node : aS} {s_Str_charAt : aS} {s_Model_letter : aS} {J : aJ} {K : aR} {n : Nat} {L : aL} {S : List Value} {M : aM} : am_run (c_Model_opens s_Model_begin s_Model_fail s_Model_node s_Str_charAt s_Model_letter) k_Model_opens J K (n + 1) 135 L S M = ai_aload 0 136 (am_run (c_Model_opens s_Model_begin s_Model_fail s_Model_node s_Str_charAt s_Model_letter) k_Model_opens J K n) K 135 L S M := by rfl
set_option maxRecDepth 20000 in
theorem r_Model_opens_136 {s_Model_begin : aS} {s_Model_fail : aS} {s_Model_node : aS} {s_Str_charAt : aS} {s_Model_letter : aS} {J : aJ} {K : aR} {n : Nat} {L : aL} {S : List Value} {M : aM} : am_run (c_Model_opens s_Model_begin s_Model_fail s_Model_node s_Str_charAt s_Model_letter) k_Model_opens J K (n + 1) 136 L S M = ai_getf 7 13 139 (am_run (c_Model_opens s_Model_begin s_Model_fail s_Model_node s_Str_charAt s_Model_letter) k_Model_opens J K n) K 136 L S M := by rfl
set_option maxRecDepth 20000 in
theorem r_Model_opens_139 {s_Model_begin : aS} {s_Model_fail : aS} {s_Model_node : aS} {s_Str_charAt : aS} {s_Model_letter : aS} {J : aJ} {K : aR} {n : Nat} {L : aL} {S : List Value} {M : aM} : am_run (c_Model_opens s_Model_begin s_Model_fail s_Model_node s_Str_charAt s_Model_letter) k_Model_opens J K (n + 1) 139 L S M = ai_const 1 140 (am_run (c_Model_opens s_Model_begin s_Model_fail s_Model_node s_Str_charAt s_Model_letter) k_Model_opens J K n) K 139 L S M := by rfl
set_option maxRecDepth 20000 in
theorem r_Model_opens_140 {s_Model_begin : aS} {s_Model_fail : aS} {s_Model_node : aS} {s_Str_charAt : aS} {s_Model_letter : aS} {J : aJ} {K : aR} {n : Nat} {L : aL} {S : List Value} {M : aM} : am_run (c_Model_opens s_Model_begin s_Model_fail s_Model_node s_Str_charAt s_Model_letter) k_Model_opens J K (n + 1) 140 L S M = ai_isub 141 (am_run (c_Model_opens s_Model_begin s_Model_fail s_Model_node s_Str_charAt s_Model_letter) k_Model_opens J K n) K 140 L S M := by rfl
set_option maxRecDepth 20000 in
theorem r_Model_opens_141 {s_Model_begin : aS} {s_Model_fail : aS} {s_Model_node : aS} {s_Str_charAt : aS} {s_Model_letter : aS} {J : aJ} {K : aR} {n : Nat} {L : aL} {S : List Value} {M : aM} : am_run (c_Model_opens s_Model_begin s_Model_fail s_Model_node s_Str_charAt s_Model_letter) k_Model_opens J K (n + 1) 141 L S M = ai_iload 2 142 (am_run (c_Model_opens s_Model_begin s_Model_fail s_Model_node s_Str_charAt s_Model_letter) k_Model_opens J K n) K 141 L S M := by rfl
set_option maxRecDepth 20000 in
theorem r_Model_opens_142 {s_Model_begin : aS} {s_Model_fail : aS} {s_Model_node : aS} {s_Str_charAt : aS} {s_Model_letter : aS} {J : aJ} {K : aR} {n : Nat} {L : aL} {S : List Value} {M : aM} : am_run (c_Model_opens s_Model_begin s_Model_fail s_Model_node s_Str_charAt s_Model_letter) k_Model_opens J K (n + 1) 142 L S M = ai_iast 143 (am_run (c_Model_opens s_Model_begin s_Model_fail s_Model_node s_Str_charAt s_Model_letter) k_Model_opens J K n) K 142 L S M := by rfl
set_option maxRecDepth 20000 in
theorem r_Model_opens_143 {s_Model_begin : aS} {s_Model_fail : aS} {s_Model_node : aS} {s_Str_charAt : aS} {s_Model_letter : aS} {J : aJ} {K : aR} {n : Nat} {L : aL} {S : List Value} {M : aM} : am_run (c_Model_opens s_Model_begin s_Model_fail s_Model_node s_Str_charAt s_Model_letter) k_Model_opens J K (n + 1) 143 L S M = ai_aload 0 144 (am_run (c_Model_opens s_Model_begin s_Model_fail s_Model_node s_Str_charAt s_Model_letter) k_Model_opens J K n) K 143 L S M := by rfl
set_option maxRecDepth 20000 in
theorem r_Model_opens_144 {s_Model_begin : aS} {s_Model_fail : aS} {s_Model_node : aS} {s_Str_charAt : aS} {s_Model_letter : aS} {J : aJ} {K : aR} {n : Nat} {L : aL} {S : List Value} {M : aM} : am_run (c_Model_opens s_Model_begin s_Model_fail s_Model_node s_Str_charAt s_Model_letter) k_Model_opens J K (n + 1) 144 L S M = ai_getf 7 15 147 (am_run (c_Model_opens s_Model_begin s_Model_fail s_Model_node s_Str_charAt s_Model_letter) k_Model_opens J K n) K 144 L S M := by rfl
set_option maxRecDepth 20000 in
theorem r_Model_opens_147 {s_Model_begin : aS} {s_Model_fail : aS} {s_Model_node : aS} {s_Str_charAt : aS} {s_Model_letter : aS} {J : aJ} {K : aR} {n : Nat} {L : aL} {S : List Value} {M : aM} : am_run (c_Model_opens s_Model_begin s_Model_fail s_Model_node s_Str_charAt s_Model_letter) k_Model_opens J K (n + 1) 147 L S M = ai_aload 0 148 (am_run (c_Model_opens s_Model_begin s_Model_fail s_Model_node s_Str_charAt s_Model_letter) k_Model_opens J K n) K 147 L S M := by rfl
set_option maxRecDepth 20000 in
theorem r_Model_opens_148 {s_Model_begin : aS} {s_Model_fail : aS} {s_Model_node : aS} {s_Str_charAt : aS} {s_Model_letter : aS} {J : aJ} {K : aR} {n : Nat} {L : aL} {S : List Value} {M : aM} : am_run (c_Model_opens s_Model_begin s_Model_fail s_Model_node s_Str_charAt s_Model_letter) k_Model_opens J K (n + 1) 148 L S M = ai_getf 7 13 151 (am_run (c_Model_opens s_Model_begin s_Model_fail s_Model_node s_Str_charAt s_Model_letter) k_Model_opens J K n) K 148 L S M := by rfl
set_option maxRecDepth 20000 in
theorem r_Model_opens_151 {s_Model_begin : aS} {s_Model_fail : aS} {s_Model_node : aS} {s_Str_charAt : aS} {s_Model_letter : aS} {J : aJ} {K : aR} {n : Nat} {L : aL} {S : List Value} {M : aM} : am_run (c_Model_opens s_Model_begin s_Model_fail s_Model_node s_Str_charAt s_Model_letter) k_Model_opens J K (n + 1) 151 L S M = ai_const 1 152 (am_run (c_Model_opens s_Model_begin s_Model_fail s_Model_node s_Str_charAt s_Model_letter) k_Model_opens J K n) K 151 L S M := by rfl
set_option maxRecDepth 20000 in
theorem r_Model_opens_152 {s_Model_begin : aS} {s_Model_fail : aS} {s_Model_node : aS} {s_Str_charAt : aS} {s_Model_letter : aS} {J : aJ} {K : aR} {n : Nat} {L : aL} {S : List Value} {M : aM} : am_run (c_Model_opens s_Model_begin s_Model_fail s_Model_node s_Str_charAt s_Model_letter) k_Model_opens J K (n + 1) 152 L S M = ai_isub 153 (am_run (c_Model_opens s_Model_begin s_Model_fail s_Model_node s_Str_charAt s_Model_letter) k_Model_opens J K n) K 152 L S M := by rfl
set_option maxRecDepth 20000 in
theorem r_Model_opens_153 {s_Model_begin : aS} {s_Model_fail : aS} {s_Model_node : aS} {s_Str_charAt : aS} {s_Model_letter : aS} {J : aJ} {K : aR} {n : Nat} {L : aL} {S : List Value} {M : aM} : am_run (c_Model_opens s_Model_begin s_Model_fail s_Model_node s_Str_charAt s_Model_letter) k_Model_opens J K (n + 1) 153 L S M = ai_iload 4 155 (am_run (c_Model_opens s_Model_begin s_Model_fail s_Model_node s_Str_charAt s_Model_letter) k_Model_opens J K n) K 153 L S M := by rfl
set_option maxRecDepth 20000 in
theorem r_Model_opens_155 {s_Model_begin : aS} {s_Model_fail : aS} {s_Model_node : aS} {s_Str_charAt : aS} {s_Model_letter : aS} {J : aJ} {K : aR} {n : Nat} {L : aL} {S : List Value} {M : aM} : am_run (c_Model_opens s_Model_begin s_Model_fail s_Model_node s_Str_charAt s_Model_letter) k_Model_opens J K (n + 1) 155 L S M = ai_iast 156 (am_run (c_Model_opens s_Model_begin s_Model_fail s_Model_node s_Str_charAt s_Model_letter) k_Model_opens J K n) K 155 L S M := by rfl
set_option maxRecDepth 20000 in
theorem r_Model_opens_156 {s_Model_begin : aS} {s_Model_fail : aS} {s_Model_node : aS} {s_Str_charAt : aS} {s_Model_letter : aS} {J : aJ} {K : aR} {n : Nat} {L : aL} {S : List Value} {M : aM} : am_run (c_Model_opens s_Model_begin s_Model_fail s_Model_node s_Str_charAt s_Model_letter) k_Model_opens J K (n + 1) 156 L S M = ai_vret (am_run (c_Model_opens s_Model_begin s_Model_fail s_Model_node s_Str_charAt s_Model_letter) k_Model_opens J K n) K 156 L S M := by rfl
def c_Model_closes (s_Model_fail : aS) (s_Model_node : aS) (s_Model_end : aS) : List (Nat × aI) := [
  (0, ai_aload 0 1),
  (1, ai_getf 7 13 4),
  (4, ai_ifeq 37 7),
  (7, ai_aload 0 8),
  (8, ai_getf 7 16 11),
  (11, ai_aload 0 12),
  (12, ai_getf 7 13 15),
  (15, ai_const 1 16),
  (16, ai_isub 17),
  (17, ai_iald 18),
  (18, ai_const 4 19),
  (19, ai_cmpeq 37 22),
  (22, ai_aload 0 23),
  (23, ai_getf 7 16 26),
  (26, ai_aload 0 27),
  (27, ai_getf 7 13 30),
  (30, ai_const 1 31),
  (31, ai_isub 32),
  (32, ai_iald 33),
  (33, ai_const 2 34),
  (34, ai_cmpne 46 37),
  (37, ai_aload 0 38),
  (38, ai_aload 0 39),
  (39, ai_getf 7 3 42),
  (42, ai_callv2 7 s_Model_fail 45),
  (45, ai_vret),
  (46, ai_aload 0 47),
  (47, ai_getf 7 16 50),
  (50, ai_aload 0 51),
  (51, ai_getf 7 13 54),
  (54, ai_const 1 55),
  (55, ai_isub 56),
  (56, ai_iald 57),
  (57, ai_istore 1 58),
  (58, ai_aload 0 59),
  (59, ai_getf 7 14 62),
  (62, ai_aload 0 63),
  (63, ai_getf 7 13 66),
  (66, ai_const 1 67),
  (67, ai_isub 68),
  (68, ai_iald 69),
  (69, ai_istore 2 70),
  (70, ai_aload 0 71),
  (71, ai_getf 7 15 74),
  (74, ai_aload 0 75),
  (75, ai_getf 7 13 78),
  (78, ai_const 1 79),
  (79, ai_isub 80),
  (80, ai_iald 81),
  (81, ai_istore 3 82),
  (82, ai_iload 2 83),
  (83, ai_istore 4 85),
  (85, ai_iload 1 86),
  (86, ai_const 2 87),
  (87, ai_cmpge 116 90),
  (90, ai_aload 0 91),
  (91, ai_const 5 92),
  (92, ai_callv2 7 s_Model_node 95),
  (95, ai_istore 5 97),
  (97, ai_iload 1 98),
  (98, ai_ifne 108 101),
  (101, ai_iload 5 103),
  (103, ai_istore 4 105),
  (105, ai_goto 116),
  (108, ai_aload 0 109),
  (109, ai_getf 7 10 112),
  (112, ai_iload 3 113),
  (113, ai_iload 5 115),
  (115, ai_iast 116),
  (116, ai_aload 0 117),
  (117, ai_getf 7 4 120),
  (120, ai_iflt 124 123),
  (123, ai_vret),
  (124, ai_aload 0 125),
  (125, ai_aload 0 126),
  (126, ai_getf 7 13 129),
  (129, ai_const 1 130),
  (130, ai_isub 131),
  (131, ai_putf 7 13 134),
  (134, ai_aload 0 135),
  (135, ai_iload 4 137),
  (137, ai_callv2 7 s_Model_end 140),
  (140, ai_vret)]
set_option maxRecDepth 100000 in
set_option maxHeartbeats 4000000 in
theorem tb_Model_closes {G : aG} {d : Nat} {s_Model_fail : aS} {d_Model_fail : Nat} (h_Model_fail : am_Sp G Y_Model_fail d_Model_fail s_Model_fail) (l_Model_fail : d_Model_fail < d) {s_Model_node : aS} {d_Model_node : Nat} (h_Model_node : am_Sp G Y_Model_node d_Model_node s_Model_node) (l_Model_node : d_Model_node < d) {s_Model_end : aS} {d_Model_end : Nat} (h_Model_end : am_Sp G Y_Model_end d_Model_end s_Model_end) (l_Model_end : d_Model_end < d) : am_tab G Y_Model_closes d (c_Model_closes s_Model_fail s_Model_node s_Model_end) := by
  intro K p e s m args below meth c C
  exact ⟨as_aload_n C (pc := 0) (q := 0) (by decide +kernel) rfl rfl,
    as_getf C (pc := 1) (T := T_Model) (N := 21) rfl in_Model (by decide) rfl w_530 (by decide +kernel) rfl,
    as_ifeq C (pc := 4) (off := 33) (by decide +kernel) (by decide) rfl,
    as_aload_n C (pc := 7) (q := 0) (by decide +kernel) rfl rfl,
    as_getf C (pc := 8) (T := T_Model) (N := 21) rfl in_Model (by decide) rfl w_533 (by decide +kernel) rfl,
    as_aload_n C (pc := 11) (q := 0) (by decide +kernel) rfl rfl,
    as_getf C (pc := 12) (T := T_Model) (N := 21) rfl in_Model (by decide) rfl w_530 (by decide +kernel) rfl,
    as_iconst C (pc := 15) (n := 1) (by decide +kernel) (by decide +kernel) rfl,
    as_isub C (pc := 16) (by decide +kernel) rfl,
    as_iald C (pc := 17) (by decide +kernel) rfl,
    as_iconst C (pc := 18) (n := 4) (by decide +kernel) (by decide +kernel) rfl,
    as_cmpeq C (pc := 19) (off := 18) (by decide +kernel) (by decide) rfl,
    as_aload_n C (pc := 22) (q := 0) (by decide +kernel) rfl rfl,
    as_getf C (pc := 23) (T := T_Model) (N := 21) rfl in_Model (by decide) rfl w_533 (by decide +kernel) rfl,
    as_aload_n C (pc := 26) (q := 0) (by decide +kernel) rfl rfl,
    as_getf C (pc := 27) (T := T_Model) (N := 21) rfl in_Model (by decide) rfl w_530 (by decide +kernel) rfl,
    as_iconst C (pc := 30) (n := 1) (by decide +kernel) (by decide +kernel) rfl,
    as_isub C (pc := 31) (by decide +kernel) rfl,
    as_iald C (pc := 32) (by decide +kernel) rfl,
    as_iconst C (pc := 33) (n := 2) (by decide +kernel) (by decide +kernel) rfl,
    as_cmpne C (pc := 34) (off := 12) (by decide +kernel) (by decide) rfl,
    as_aload_n C (pc := 37) (q := 0) (by decide +kernel) rfl rfl,
    as_aload_n C (pc := 38) (q := 0) (by decide +kernel) rfl rfl,
    as_getf C (pc := 39) (T := T_Model) (N := 21) rfl in_Model (by decide) rfl w_520 (by decide +kernel) rfl,
    as_callv2 C (pc := 42) h_Model_fail (T := T_Model) (N := 21) rfl w_617 w_78 w_616 w_54 w_614 hy_Model_fail (am_rm_of l_Model_fail (by decide)) (by decide +kernel) rfl,
    as_vret C (pc := 45) rfl (by decide +kernel),
    as_aload_n C (pc := 46) (q := 0) (by decide +kernel) rfl rfl,
    as_getf C (pc := 47) (T := T_Model) (N := 21) rfl in_Model (by decide) rfl w_533 (by decide +kernel) rfl,
    as_aload_n C (pc := 50) (q := 0) (by decide +kernel) rfl rfl,
    as_getf C (pc := 51) (T := T_Model) (N := 21) rfl in_Model (by decide) rfl w_530 (by decide +kernel) rfl,
    as_iconst C (pc := 54) (n := 1) (by decide +kernel) (by decide +kernel) rfl,
    as_isub C (pc := 55) (by decide +kernel) rfl,
    as_iald C (pc := 56) (by decide +kernel) rfl,
    as_istore_n C (pc := 57) (q := 1) (by decide +kernel) rfl (by decide) rfl,
    as_aload_n C (pc := 58) (q := 0) (by decide +kernel) rfl rfl,
    as_getf C (pc := 59) (T := T_Model) (N := 21) rfl in_Model (by decide) rfl w_531 (by decide +kernel) rfl,
    as_aload_n C (pc := 62) (q := 0) (by decide +kernel) rfl rfl,
    as_getf C (pc := 63) (T := T_Model) (N := 21) rfl in_Model (by decide) rfl w_530 (by decide +kernel) rfl,
    as_iconst C (pc := 66) (n := 1) (by decide +kernel) (by decide +kernel) rfl,
    as_isub C (pc := 67) (by decide +kernel) rfl,
    as_iald C (pc := 68) (by decide +kernel) rfl,
    as_istore_n C (pc := 69) (q := 2) (by decide +kernel) rfl (by decide) rfl,
    as_aload_n C (pc := 70) (q := 0) (by decide +kernel) rfl rfl,
    as_getf C (pc := 71) (T := T_Model) (N := 21) rfl in_Model (by decide) rfl w_532 (by decide +kernel) rfl,
    as_aload_n C (pc := 74) (q := 0) (by decide +kernel) rfl rfl,
    as_getf C (pc := 75) (T := T_Model) (N := 21) rfl in_Model (by decide) rfl w_530 (by decide +kernel) rfl,
    as_iconst C (pc := 78) (n := 1) (by decide +kernel) (by decide +kernel) rfl,
    as_isub C (pc := 79) (by decide +kernel) rfl,
    as_iald C (pc := 80) (by decide +kernel) rfl,
    as_istore_n C (pc := 81) (q := 3) (by decide +kernel) rfl (by decide) rfl,
    as_iload_n C (pc := 82) (q := 2) (by decide +kernel) rfl rfl,
    as_istore C (pc := 83) (k := 4) (by decide +kernel) (by decide) rfl,
    as_iload_n C (pc := 85) (q := 1) (by decide +kernel) rfl rfl,
    as_iconst C (pc := 86) (n := 2) (by decide +kernel) (by decide +kernel) rfl,
    as_cmpge C (pc := 87) (off := 29) (by decide +kernel) (by decide) rfl,
    as_aload_n C (pc := 90) (q := 0) (by decide +kernel) rfl rfl,
    as_iconst C (pc := 91) (n := 5) (by decide +kernel) (by decide +kernel) rfl,
    as_callv2 C (pc := 92) h_Model_node (T := T_Model) (N := 21) rfl w_629 w_78 w_628 w_57 w_626 hy_Model_node (am_rm_of l_Model_node (by decide)) (by decide +kernel) rfl,
    as_istore C (pc := 95) (k := 5) (by decide +kernel) (by decide) rfl,
    as_iload_n C (pc := 97) (q := 1) (by decide +kernel) rfl rfl,
    as_ifne C (pc := 98) (off := 10) (by decide +kernel) (by decide) rfl,
    as_iload C (pc := 101) (k := 5) (by decide +kernel) rfl,
    as_istore C (pc := 103) (k := 4) (by decide +kernel) (by decide) rfl,
    as_goto C (pc := 105) (off := 11) (by decide +kernel) (by decide),
    as_aload_n C (pc := 108) (q := 0) (by decide +kernel) rfl rfl,
    as_getf C (pc := 109) (T := T_Model) (N := 21) rfl in_Model (by decide) rfl w_527 (by decide +kernel) rfl,
    as_iload_n C (pc := 112) (q := 3) (by decide +kernel) rfl rfl,
    as_iload C (pc := 113) (k := 5) (by decide +kernel) rfl,
    as_iast C (pc := 115) (by decide +kernel) rfl,
    as_aload_n C (pc := 116) (q := 0) (by decide +kernel) rfl rfl,
    as_getf C (pc := 117) (T := T_Model) (N := 21) rfl in_Model (by decide) rfl w_521 (by decide +kernel) rfl,
    as_iflt C (pc := 120) (off := 4) (by decide +kernel) (by decide) rfl,
    as_vret C (pc := 123) rfl (by decide +kernel),
    as_aload_n C (pc := 124) (q := 0) (by decide +kernel) rfl rfl,
    as_aload_n C (pc := 125) (q := 0) (by decide +kernel) rfl rfl,
    as_getf C (pc := 126) (T := T_Model) (N := 21) rfl in_Model (by decide) rfl w_530 (by decide +kernel) rfl,
    as_iconst C (pc := 129) (n := 1) (by decide +kernel) (by decide +kernel) rfl,
    as_isub C (pc := 130) (by decide +kernel) rfl,
    as_putf C (pc := 131) t_Model (T := T_Model) (N := 21) rfl in_Model tok_Model nm_Model (by decide) rfl rfl (by decide +kernel) w_530 (by decide +kernel) rfl,
    as_aload_n C (pc := 134) (q := 0) (by decide +kernel) rfl rfl,
    as_iload C (pc := 135) (k := 4) (by decide +kernel) rfl,
    as_callv2 C (pc := 137) h_Model_end (T := T_Model) (N := 21) rfl w_682 w_78 w_681 w_60 w_679 hy_Model_end (am_rm_of l_Model_end (by decide)) (by decide +kernel) rfl,
    as_vret C (pc := 140) rfl (by decide +kernel), trivial⟩
abbrev k_Model_closes : List Nat := []
set_option maxRecDepth 20000 in
theorem r_Model_closes_0 {s_Model_fail : aS} {s_Model_node : aS} {s_Model_end : aS} {J : aJ} {K : aR} {n : Nat} {L : aL} {S : List Value} {M : aM} : am_run (c_Model_closes s_Model_fail s_Model_node s_Model_end) k_Model_closes J K (n + 1) 0 L S M = ai_aload 0 1 (am_run (c_Model_closes s_Model_fail s_Model_node s_Model_end) k_Model_closes J K n) K 0 L S M := by rfl
set_option maxRecDepth 20000 in
theorem r_Model_closes_1 {s_Model_fail : aS} {s_Model_node : aS} {s_Model_end : aS} {J : aJ} {K : aR} {n : Nat} {L : aL} {S : List Value} {M : aM} : am_run (c_Model_closes s_Model_fail s_Model_node s_Model_end) k_Model_closes J K (n + 1) 1 L S M = ai_getf 7 13 4 (am_run (c_Model_closes s_Model_fail s_Model_node s_Model_end) k_Model_closes J K n) K 1 L S M := by rfl
set_option maxRecDepth 20000 in
theorem r_Model_closes_4 {s_Model_fail : aS} {s_Model_node : aS} {s_Model_end : aS} {J : aJ} {K : aR} {n : Nat} {L : aL} {S : List Value} {M : aM} : am_run (c_Model_closes s_Model_fail s_Model_node s_Model_end) k_Model_closes J K (n + 1) 4 L S M = ai_ifeq 37 7 (am_run (c_Model_closes s_Model_fail s_Model_node s_Model_end) k_Model_closes J K n) K 4 L S M := by rfl
set_option maxRecDepth 20000 in
theorem r_Model_closes_7 {s_Model_fail : aS} {s_Model_node : aS} {s_Model_end : aS} {J : aJ} {K : aR} {n : Nat} {L : aL} {S : List Value} {M : aM} : am_run (c_Model_closes s_Model_fail s_Model_node s_Model_end) k_Model_closes J K (n + 1) 7 L S M = ai_aload 0 8 (am_run (c_Model_closes s_Model_fail s_Model_node s_Model_end) k_Model_closes J K n) K 7 L S M := by rfl
set_option maxRecDepth 20000 in
theorem r_Model_closes_8 {s_Model_fail : aS} {s_Model_node : aS} {s_Model_end : aS} {J : aJ} {K : aR} {n : Nat} {L : aL} {S : List Value} {M : aM} : am_run (c_Model_closes s_Model_fail s_Model_node s_Model_end) k_Model_closes J K (n + 1) 8 L S M = ai_getf 7 16 11 (am_run (c_Model_closes s_Model_fail s_Model_node s_Model_end) k_Model_closes J K n) K 8 L S M := by rfl
set_option maxRecDepth 20000 in
theorem r_Model_closes_11 {s_Model_fail : aS} {s_Model_node : aS} {s_Model_end : aS} {J : aJ} {K : aR} {n : Nat} {L : aL} {S : List Value} {M : aM} : am_run (c_Model_closes s_Model_fail s_Model_node s_Model_end) k_Model_closes J K (n + 1) 11 L S M = ai_aload 0 12 (am_run (c_Model_closes s_Model_fail s_Model_node s_Model_end) k_Model_closes J K n) K 11 L S M := by rfl
set_option maxRecDepth 20000 in
theorem r_Model_closes_12 {s_Model_fail : aS} {s_Model_node : aS} {s_Model_end : aS} {J : aJ} {K : aR} {n : Nat} {L : aL} {S : List Value} {M : aM} : am_run (c_Model_closes s_Model_fail s_Model_node s_Model_end) k_Model_closes J K (n + 1) 12 L S M = ai_getf 7 13 15 (am_run (c_Model_closes s_Model_fail s_Model_node s_Model_end) k_Model_closes J K n) K 12 L S M := by rfl
set_option maxRecDepth 20000 in
theorem r_Model_closes_15 {s_Model_fail : aS} {s_Model_node : aS} {s_Model_end : aS} {J : aJ} {K : aR} {n : Nat} {L : aL} {S : List Value} {M : aM} : am_run (c_Model_closes s_Model_fail s_Model_node s_Model_end) k_Model_closes J K (n + 1) 15 L S M = ai_const 1 16 (am_run (c_Model_closes s_Model_fail s_Model_node s_Model_end) k_Model_closes J K n) K 15 L S M := by rfl
set_option maxRecDepth 20000 in
theorem r_Model_closes_16 {s_Model_fail : aS} {s_Model_node : aS} {s_Model_end : aS} {J : aJ} {K : aR} {n : Nat} {L : aL} {S : List Value} {M : aM} : am_run (c_Model_closes s_Model_fail s_Model_node s_Model_end) k_Model_closes J K (n + 1) 16 L S M = ai_isub 17 (am_run (c_Model_closes s_Model_fail s_Model_node s_Model_end) k_Model_closes J K n) K 16 L S M := by rfl
set_option maxRecDepth 20000 in
theorem r_Model_closes_17 {s_Model_fail : aS} {s_Model_node : aS} {s_Model_end : aS} {J : aJ} {K : aR} {n : Nat} {L : aL} {S : List Value} {M : aM} : am_run (c_Model_closes s_Model_fail s_Model_node s_Model_end) k_Model_closes J K (n + 1) 17 L S M = ai_iald 18 (am_run (c_Model_closes s_Model_fail s_Model_node s_Model_end) k_Model_closes J K n) K 17 L S M := by rfl
set_option maxRecDepth 20000 in
theorem r_Model_closes_18 {s_Model_fail : aS} {s_Model_node : aS} {s_Model_end : aS} {J : aJ} {K : aR} {n : Nat} {L : aL} {S : List Value} {M : aM} : am_run (c_Model_closes s_Model_fail s_Model_node s_Model_end) k_Model_closes J K (n + 1) 18 L S M = ai_const 4 19 (am_run (c_Model_closes s_Model_fail s_Model_node s_Model_end) k_Model_closes J K n) K 18 L S M := by rfl
set_option maxRecDepth 20000 in
theorem r_Model_closes_19 {s_Model_fail : aS} {s_Model_node : aS} {s_Model_end : aS} {J : aJ} {K : aR} {n : Nat} {L : aL} {S : List Value} {M : aM} : am_run (c_Model_closes s_Model_fail s_Model_node s_Model_end) k_Model_closes J K (n + 1) 19 L S M = ai_cmpeq 37 22 (am_run (c_Model_closes s_Model_fail s_Model_node s_Model_end) k_Model_closes J K n) K 19 L S M := by rfl
set_option maxRecDepth 20000 in
theorem r_Model_closes_22 {s_Model_fail : aS} {s_Model_node : aS} {s_Model_end : aS} {J : aJ} {K : aR} {n : Nat} {L : aL} {S : List Value} {M : aM} : am_run (c_Model_closes s_Model_fail s_Model_node s_Model_end) k_Model_closes J K (n + 1) 22 L S M = ai_aload 0 23 (am_run (c_Model_closes s_Model_fail s_Model_node s_Model_end) k_Model_closes J K n) K 22 L S M := by rfl
set_option maxRecDepth 20000 in
theorem r_Model_closes_23 {s_Model_fail : aS} {s_Model_node : aS} {s_Model_end : aS} {J : aJ} {K : aR} {n : Nat} {L : aL} {S : List Value} {M : aM} : am_run (c_Model_closes s_Model_fail s_Model_node s_Model_end) k_Model_closes J K (n + 1) 23 L S M = ai_getf 7 16 26 (am_run (c_Model_closes s_Model_fail s_Model_node s_Model_end) k_Model_closes J K n) K 23 L S M := by rfl
set_option maxRecDepth 20000 in
theorem r_Model_closes_26 {s_Model_fail : aS} {s_Model_node : aS} {s_Model_end : aS} {J : aJ} {K : aR} {n : Nat} {L : aL} {S : List Value} {M : aM} : am_run (c_Model_closes s_Model_fail s_Model_node s_Model_end) k_Model_closes J K (n + 1) 26 L S M = ai_aload 0 27 (am_run (c_Model_closes s_Model_fail s_Model_node s_Model_end) k_Model_closes J K n) K 26 L S M := by rfl
set_option maxRecDepth 20000 in
theorem r_Model_closes_27 {s_Model_fail : aS} {s_Model_node : aS} {s_Model_end : aS} {J : aJ} {K : aR} {n : Nat} {L : aL} {S : List Value} {M : aM} : am_run (c_Model_closes s_Model_fail s_Model_node s_Model_end) k_Model_closes J K (n + 1) 27 L S M = ai_getf 7 13 30 (am_run (c_Model_closes s_Model_fail s_Model_node s_Model_end) k_Model_closes J K n) K 27 L S M := by rfl
set_option maxRecDepth 20000 in
theorem r_Model_closes_30 {s_Model_fail : aS} {s_Model_node : aS} {s_Model_end : aS} {J : aJ} {K : aR} {n : Nat} {L : aL} {S : List Value} {M : aM} : am_run (c_Model_closes s_Model_fail s_Model_node s_Model_end) k_Model_closes J K (n + 1) 30 L S M = ai_const 1 31 (am_run (c_Model_closes s_Model_fail s_Model_node s_Model_end) k_Model_closes J K n) K 30 L S M := by rfl
set_option maxRecDepth 20000 in
theorem r_Model_closes_31 {s_Model_fail : aS} {s_Model_node : aS} {s_Model_end : aS} {J : aJ} {K : aR} {n : Nat} {L : aL} {S : List Value} {M : aM} : am_run (c_Model_closes s_Model_fail s_Model_node s_Model_end) k_Model_closes J K (n + 1) 31 L S M = ai_isub 32 (am_run (c_Model_closes s_Model_fail s_Model_node s_Model_end) k_Model_closes J K n) K 31 L S M := by rfl
set_option maxRecDepth 20000 in
theorem r_Model_closes_32 {s_Model_fail : aS} {s_Model_node : aS} {s_Model_end : aS} {J : aJ} {K : aR} {n : Nat} {L : aL} {S : List Value} {M : aM} : am_run (c_Model_closes s_Model_fail s_Model_node s_Model_end) k_Model_closes J K (n + 1) 32 L S M = ai_iald 33 (am_run (c_Model_closes s_Model_fail s_Model_node s_Model_end) k_Model_closes J K n) K 32 L S M := by rfl
set_option maxRecDepth 20000 in
theorem r_Model_closes_33 {s_Model_fail : aS} {s_Model_node : aS} {s_Model_end : aS} {J : aJ} {K : aR} {n : Nat} {L : aL} {S : List Value} {M : aM} : am_run (c_Model_closes s_Model_fail s_Model_node s_Model_end) k_Model_closes J K (n + 1) 33 L S M = ai_const 2 34 (am_run (c_Model_closes s_Model_fail s_Model_node s_Model_end) k_Model_closes J K n) K 33 L S M := by rfl
set_option maxRecDepth 20000 in
theorem r_Model_closes_34 {s_Model_fail : aS} {s_Model_node : aS} {s_Model_end : aS} {J : aJ} {K : aR} {n : Nat} {L : aL} {S : List Value} {M : aM} : am_run (c_Model_closes s_Model_fail s_Model_node s_Model_end) k_Model_closes J K (n + 1) 34 L S M = ai_cmpne 46 37 (am_run (c_Model_closes s_Model_fail s_Model_node s_Model_end) k_Model_closes J K n) K 34 L S M := by rfl
set_option maxRecDepth 20000 in
theorem r_Model_closes_37 {s_Model_fail : aS} {s_Model_node : aS} {s_Model_end : aS} {J : aJ} {K : aR} {n : Nat} {L : aL} {S : List Value} {M : aM} : am_run (c_Model_closes s_Model_fail s_Model_node s_Model_end) k_Model_closes J K (n + 1) 37 L S M = ai_aload 0 38 (am_run (c_Model_closes s_Model_fail s_Model_node s_Model_end) k_Model_closes J K n) K 37 L S M := by rfl
set_option maxRecDepth 20000 in
theorem r_Model_closes_38 {s_Model_fail : aS} {s_Model_node : aS} {s_Model_end : aS} {J : aJ} {K : aR} {n : Nat} {L : aL} {S : List Value} {M : aM} : am_run (c_Model_closes s_Model_fail s_Model_node s_Model_end) k_Model_closes J K (n + 1) 38 L S M = ai_aload 0 39 (am_run (c_Model_closes s_Model_fail s_Model_node s_Model_end) k_Model_closes J K n) K 38 L S M := by rfl
set_option maxRecDepth 20000 in
theorem r_Model_closes_39 {s_Model_fail : aS} {s_Model_node : aS} {s_Model_end : aS} {J : aJ} {K : aR} {n : Nat} {L : aL} {S : List Value} {M : aM} : am_run (c_Model_closes s_Model_fail s_Model_node s_Model_end) k_Model_closes J K (n + 1) 39 L S M = ai_getf 7 3 42 (am_run (c_Model_closes s_Model_fail s_Model_node s_Model_end) k_Model_closes J K n) K 39 L S M := by rfl
set_option maxRecDepth 20000 in
theorem r_Model_closes_42 {s_Model_fail : aS} {s_Model_node : aS} {s_Model_end : aS} {J : aJ} {K : aR} {n : Nat} {L : aL} {S : List Value} {M : aM} : am_run (c_Model_closes s_Model_fail s_Model_node s_Model_end) k_Model_closes J K (n + 1) 42 L S M = ai_callv2 7 s_Model_fail 45 (am_run (c_Model_closes s_Model_fail s_Model_node s_Model_end) k_Model_closes J K n) K 42 L S M := by rfl
set_option maxRecDepth 20000 in
theorem r_Model_closes_45 {s_Model_fail : aS} {s_Model_node : aS} {s_Model_end : aS} {J : aJ} {K : aR} {n : Nat} {L : aL} {S : List Value} {M : aM} : am_run (c_Model_closes s_Model_fail s_Model_node s_Model_end) k_Model_closes J K (n + 1) 45 L S M = ai_vret (am_run (c_Model_closes s_Model_fail s_Model_node s_Model_end) k_Model_closes J K n) K 45 L S M := by rfl
set_option maxRecDepth 20000 in
theorem r_Model_closes_46 {s_Model_fail : aS} {s_Model_node : aS} {s_Model_end : aS} {J : aJ} {K : aR} {n : Nat} {L : aL} {S : List Value} {M : aM} : am_run (c_Model_closes s_Model_fail s_Model_node s_Model_end) k_Model_closes J K (n + 1) 46 L S M = ai_aload 0 47 (am_run (c_Model_closes s_Model_fail s_Model_node s_Model_end) k_Model_closes J K n) K 46 L S M := by rfl
set_option maxRecDepth 20000 in
theorem r_Model_closes_47 {s_Model_fail : aS} {s_Model_node : aS} {s_Model_end : aS} {J : aJ} {K : aR} {n : Nat} {L : aL} {S : List Value} {M : aM} : am_run (c_Model_closes s_Model_fail s_Model_node s_Model_end) k_Model_closes J K (n + 1) 47 L S M = ai_getf 7 16 50 (am_run (c_Model_closes s_Model_fail s_Model_node s_Model_end) k_Model_closes J K n) K 47 L S M := by rfl
set_option maxRecDepth 20000 in
theorem r_Model_closes_50 {s_Model_fail : aS} {s_Model_node : aS} {s_Model_end : aS} {J : aJ} {K : aR} {n : Nat} {L : aL} {S : List Value} {M : aM} : am_run (c_Model_closes s_Model_fail s_Model_node s_Model_end) k_Model_closes J K (n + 1) 50 L S M = ai_aload 0 51 (am_run (c_Model_closes s_Model_fail s_Model_node s_Model_end) k_Model_closes J K n) K 50 L S M := by rfl
set_option maxRecDepth 20000 in
theorem r_Model_closes_51 {s_Model_fail : aS} {s_Model_node : aS} {s_Model_end : aS} {J : aJ} {K : aR} {n : Nat} {L : aL} {S : List Value} {M : aM} : am_run (c_Model_closes s_Model_fail s_Model_node s_Model_end) k_Model_closes J K (n + 1) 51 L S M = ai_getf 7 13 54 (am_run (c_Model_closes s_Model_fail s_Model_node s_Model_end) k_Model_closes J K n) K 51 L S M := by rfl
set_option maxRecDepth 20000 in
theorem r_Model_closes_54 {s_Model_fail : aS} {s_Model_node : aS} {s_Model_end : aS} {J : aJ} {K : aR} {n : Nat} {L : aL} {S : List Value} {M : aM} : am_run (c_Model_closes s_Model_fail s_Model_node s_Model_end) k_Model_closes J K (n + 1) 54 L S M = ai_const 1 55 (am_run (c_Model_closes s_Model_fail s_Model_node s_Model_end) k_Model_closes J K n) K 54 L S M := by rfl
set_option maxRecDepth 20000 in
theorem r_Model_closes_55 {s_Model_fail : aS} {s_Model_node : aS} {s_Model_end : aS} {J : aJ} {K : aR} {n : Nat} {L : aL} {S : List Value} {M : aM} : am_run (c_Model_closes s_Model_fail s_Model_node s_Model_end) k_Model_closes J K (n + 1) 55 L S M = ai_isub 56 (am_run (c_Model_closes s_Model_fail s_Model_node s_Model_end) k_Model_closes J K n) K 55 L S M := by rfl
set_option maxRecDepth 20000 in
theorem r_Model_closes_56 {s_Model_fail : aS} {s_Model_node : aS} {s_Model_end : aS} {J : aJ} {K : aR} {n : Nat} {L : aL} {S : List Value} {M : aM} : am_run (c_Model_closes s_Model_fail s_Model_node s_Model_end) k_Model_closes J K (n + 1) 56 L S M = ai_iald 57 (am_run (c_Model_closes s_Model_fail s_Model_node s_Model_end) k_Model_closes J K n) K 56 L S M := by rfl
set_option maxRecDepth 20000 in
theorem r_Model_closes_57 {s_Model_fail : aS} {s_Model_node : aS} {s_Model_end : aS} {J : aJ} {K : aR} {n : Nat} {L : aL} {S : List Value} {M : aM} : am_run (c_Model_closes s_Model_fail s_Model_node s_Model_end) k_Model_closes J K (n + 1) 57 L S M = ai_istore 1 58 (am_run (c_Model_closes s_Model_fail s_Model_node s_Model_end) k_Model_closes J K n) K 57 L S M := by rfl
set_option maxRecDepth 20000 in
theorem r_Model_closes_58 {s_Model_fail : aS} {s_Model_node : aS} {s_Model_end : aS} {J : aJ} {K : aR} {n : Nat} {L : aL} {S : List Value} {M : aM} : am_run (c_Model_closes s_Model_fail s_Model_node s_Model_end) k_Model_closes J K (n + 1) 58 L S M = ai_aload 0 59 (am_run (c_Model_closes s_Model_fail s_Model_node s_Model_end) k_Model_closes J K n) K 58 L S M := by rfl
set_option maxRecDepth 20000 in
theorem r_Model_closes_59 {s_Model_fail : aS} {s_Model_node : aS} {s_Model_end : aS} {J : aJ} {K : aR} {n : Nat} {L : aL} {S : List Value} {M : aM} : am_run (c_Model_closes s_Model_fail s_Model_node s_Model_end) k_Model_closes J K (n + 1) 59 L S M = ai_getf 7 14 62 (am_run (c_Model_closes s_Model_fail s_Model_node s_Model_end) k_Model_closes J K n) K 59 L S M := by rfl
set_option maxRecDepth 20000 in
theorem r_Model_closes_62 {s_Model_fail : aS} {s_Model_node : aS} {s_Model_end : aS} {J : aJ} {K : aR} {n : Nat} {L : aL} {S : List Value} {M : aM} : am_run (c_Model_closes s_Model_fail s_Model_node s_Model_end) k_Model_closes J K (n + 1) 62 L S M = ai_aload 0 63 (am_run (c_Model_closes s_Model_fail s_Model_node s_Model_end) k_Model_closes J K n) K 62 L S M := by rfl
set_option maxRecDepth 20000 in
theorem r_Model_closes_63 {s_Model_fail : aS} {s_Model_node : aS} {s_Model_end : aS} {J : aJ} {K : aR} {n : Nat} {L : aL} {S : List Value} {M : aM} : am_run (c_Model_closes s_Model_fail s_Model_node s_Model_end) k_Model_closes J K (n + 1) 63 L S M = ai_getf 7 13 66 (am_run (c_Model_closes s_Model_fail s_Model_node s_Model_end) k_Model_closes J K n) K 63 L S M := by rfl
set_option maxRecDepth 20000 in
theorem r_Model_closes_66 {s_Model_fail : aS} {s_Model_node : aS} {s_Model_end : aS} {J : aJ} {K : aR} {n : Nat} {L : aL} {S : List Value} {M : aM} : am_run (c_Model_closes s_Model_fail s_Model_node s_Model_end) k_Model_closes J K (n + 1) 66 L S M = ai_const 1 67 (am_run (c_Model_closes s_Model_fail s_Model_node s_Model_end) k_Model_closes J K n) K 66 L S M := by rfl
set_option maxRecDepth 20000 in
theorem r_Model_closes_67 {s_Model_fail : aS} {s_Model_node : aS} {s_Model_end : aS} {J : aJ} {K : aR} {n : Nat} {L : aL} {S : List Value} {M : aM} : am_run (c_Model_closes s_Model_fail s_Model_node s_Model_end) k_Model_closes J K (n + 1) 67 L S M = ai_isub 68 (am_run (c_Model_closes s_Model_fail s_Model_node s_Model_end) k_Model_closes J K n) K 67 L S M := by rfl
set_option maxRecDepth 20000 in
theorem r_Model_closes_68 {s_Model_fail : aS} {s_Model_node : aS} {s_Model_end : aS} {J : aJ} {K : aR} {n : Nat} {L : aL} {S : List Value} {M : aM} : am_run (c_Model_closes s_Model_fail s_Model_node s_Model_end) k_Model_closes J K (n + 1) 68 L S M = ai_iald 69 (am_run (c_Model_closes s_Model_fail s_Model_node s_Model_end) k_Model_closes J K n) K 68 L S M := by rfl
set_option maxRecDepth 20000 in
theorem r_Model_closes_69 {s_Model_fail : aS} {s_Model_node : aS} {s_Model_end : aS} {J : aJ} {K : aR} {n : Nat} {L : aL} {S : List Value} {M : aM} : am_run (c_Model_closes s_Model_fail s_Model_node s_Model_end) k_Model_closes J K (n + 1) 69 L S M = ai_istore 2 70 (am_run (c_Model_closes s_Model_fail s_Model_node s_Model_end) k_Model_closes J K n) K 69 L S M := by rfl
set_option maxRecDepth 20000 in
theorem r_Model_closes_70 {s_Model_fail : aS} {s_Model_node : aS} {s_Model_end : aS} {J : aJ} {K : aR} {n : Nat} {L : aL} {S : List Value} {M : aM} : am_run (c_Model_closes s_Model_fail s_Model_node s_Model_end) k_Model_closes J K (n + 1) 70 L S M = ai_aload 0 71 (am_run (c_Model_closes s_Model_fail s_Model_node s_Model_end) k_Model_closes J K n) K 70 L S M := by rfl
set_option maxRecDepth 20000 in
theorem r_Model_closes_71 {s_Model_fail : aS} {s_Model_node : aS} {s_Model_end : aS} {J : aJ} {K : aR} {n : Nat} {L : aL} {S : List Value} {M : aM} : am_run (c_Model_closes s_Model_fail s_Model_node s_Model_end) k_Model_closes J K (n + 1) 71 L S M = ai_getf 7 15 74 (am_run (c_Model_closes s_Model_fail s_Model_node s_Model_end) k_Model_closes J K n) K 71 L S M := by rfl
set_option maxRecDepth 20000 in
theorem r_Model_closes_74 {s_Model_fail : aS} {s_Model_node : aS} {s_Model_end : aS} {J : aJ} {K : aR} {n : Nat} {L : aL} {S : List Value} {M : aM} : am_run (c_Model_closes s_Model_fail s_Model_node s_Model_end) k_Model_closes J K (n + 1) 74 L S M = ai_aload 0 75 (am_run (c_Model_closes s_Model_fail s_Model_node s_Model_end) k_Model_closes J K n) K 74 L S M := by rfl
set_option maxRecDepth 20000 in
theorem r_Model_closes_75 {s_Model_fail : aS} {s_Model_node : aS} {s_Model_end : aS} {J : aJ} {K : aR} {n : Nat} {L : aL} {S : List Value} {M : aM} : am_run (c_Model_closes s_Model_fail s_Model_node s_Model_end) k_Model_closes J K (n + 1) 75 L S M = ai_getf 7 13 78 (am_run (c_Model_closes s_Model_fail s_Model_node s_Model_end) k_Model_closes J K n) K 75 L S M := by rfl
set_option maxRecDepth 20000 in
theorem r_Model_closes_78 {s_Model_fail : aS} {s_Model_node : aS} {s_Model_end : aS} {J : aJ} {K : aR} {n : Nat} {L : aL} {S : List Value} {M : aM} : am_run (c_Model_closes s_Model_fail s_Model_node s_Model_end) k_Model_closes J K (n + 1) 78 L S M = ai_const 1 79 (am_run (c_Model_closes s_Model_fail s_Model_node s_Model_end) k_Model_closes J K n) K 78 L S M := by rfl
set_option maxRecDepth 20000 in
theorem r_Model_closes_79 {s_Model_fail : aS} {s_Model_node : aS} {s_Model_end : aS} {J : aJ} {K : aR} {n : Nat} {L : aL} {S : List Value} {M : aM} : am_run (c_Model_closes s_Model_fail s_Model_node s_Model_end) k_Model_closes J K (n + 1) 79 L S M = ai_isub 80 (am_run (c_Model_closes s_Model_fail s_Model_node s_Model_end) k_Model_closes J K n) K 79 L S M := by rfl
set_option maxRecDepth 20000 in
theorem r_Model_closes_80 {s_Model_fail : aS} {s_Model_node : aS} {s_Model_end : aS} {J : aJ} {K : aR} {n : Nat} {L : aL} {S : List Value} {M : aM} : am_run (c_Model_closes s_Model_fail s_Model_node s_Model_end) k_Model_closes J K (n + 1) 80 L S M = ai_iald 81 (am_run (c_Model_closes s_Model_fail s_Model_node s_Model_end) k_Model_closes J K n) K 80 L S M := by rfl
set_option maxRecDepth 20000 in
theorem r_Model_closes_81 {s_Model_fail : aS} {s_Model_node : aS} {s_Model_end : aS} {J : aJ} {K : aR} {n : Nat} {L : aL} {S : List Value} {M : aM} : am_run (c_Model_closes s_Model_fail s_Model_node s_Model_end) k_Model_closes J K (n + 1) 81 L S M = ai_istore 3 82 (am_run (c_Model_closes s_Model_fail s_Model_node s_Model_end) k_Model_closes J K n) K 81 L S M := by rfl
set_option maxRecDepth 20000 in
theorem r_Model_closes_82 {s_Model_fail : aS} {s_Model_node : aS} {s_Model_end : aS} {J : aJ} {K : aR} {n : Nat} {L : aL} {S : List Value} {M : aM} : am_run (c_Model_closes s_Model_fail s_Model_node s_Model_end) k_Model_closes J K (n + 1) 82 L S M = ai_iload 2 83 (am_run (c_Model_closes s_Model_fail s_Model_node s_Model_end) k_Model_closes J K n) K 82 L S M := by rfl
set_option maxRecDepth 20000 in
theorem r_Model_closes_83 {s_Model_fail : aS} {s_Model_node : aS} {s_Model_end : aS} {J : aJ} {K : aR} {n : Nat} {L : aL} {S : List Value} {M : aM} : am_run (c_Model_closes s_Model_fail s_Model_node s_Model_end) k_Model_closes J K (n + 1) 83 L S M = ai_istore 4 85 (am_run (c_Model_closes s_Model_fail s_Model_node s_Model_end) k_Model_closes J K n) K 83 L S M := by rfl
set_option maxRecDepth 20000 in
theorem r_Model_closes_85 {s_Model_fail : aS} {s_Model_node : aS} {s_Model_end : aS} {J : aJ} {K : aR} {n : Nat} {L : aL} {S : List Value} {M : aM} : am_run (c_Model_closes s_Model_fail s_Model_node s_Model_end) k_Model_closes J K (n + 1) 85 L S M = ai_iload 1 86 (am_run (c_Model_closes s_Model_fail s_Model_node s_Model_end) k_Model_closes J K n) K 85 L S M := by rfl
set_option maxRecDepth 20000 in
theorem r_Model_closes_86 {s_Model_fail : aS} {s_Model_node : aS} {s_Model_end : aS} {J : aJ} {K : aR} {n : Nat} {L : aL} {S : List Value} {M : aM} : am_run (c_Model_closes s_Model_fail s_Model_node s_Model_end) k_Model_closes J K (n + 1) 86 L S M = ai_const 2 87 (am_run (c_Model_closes s_Model_fail s_Model_node s_Model_end) k_Model_closes J K n) K 86 L S M := by rfl
set_option maxRecDepth 20000 in
theorem r_Model_closes_87 {s_Model_fail : aS} {s_Model_node : aS} {s_Model_end : aS} {J : aJ} {K : aR} {n : Nat} {L : aL} {S : List Value} {M : aM} : am_run (c_Model_closes s_Model_fail s_Model_node s_Model_end) k_Model_closes J K (n + 1) 87 L S M = ai_cmpge 116 90 (am_run (c_Model_closes s_Model_fail s_Model_node s_Model_end) k_Model_closes J K n) K 87 L S M := by rfl
set_option maxRecDepth 20000 in
theorem r_Model_closes_90 {s_Model_fail : aS} {s_Model_node : aS} {s_Model_end : aS} {J : aJ} {K : aR} {n : Nat} {L : aL} {S : List Value} {M : aM} : am_run (c_Model_closes s_Model_fail s_Model_node s_Model_end) k_Model_closes J K (n + 1) 90 L S M = ai_aload 0 91 (am_run (c_Model_closes s_Model_fail s_Model_node s_Model_end) k_Model_closes J K n) K 90 L S M := by rfl
set_option maxRecDepth 20000 in
theorem r_Model_closes_91 {s_Model_fail : aS} {s_Model_node : aS} {s_Model_end : aS} {J : aJ} {K : aR} {n : Nat} {L : aL} {S : List Value} {M : aM} : am_run (c_Model_closes s_Model_fail s_Model_node s_Model_end) k_Model_closes J K (n + 1) 91 L S M = ai_const 5 92 (am_run (c_Model_closes s_Model_fail s_Model_node s_Model_end) k_Model_closes J K n) K 91 L S M := by rfl
set_option maxRecDepth 20000 in
theorem r_Model_closes_92 {s_Model_fail : aS} {s_Model_node : aS} {s_Model_end : aS} {J : aJ} {K : aR} {n : Nat} {L : aL} {S : List Value} {M : aM} : am_run (c_Model_closes s_Model_fail s_Model_node s_Model_end) k_Model_closes J K (n + 1) 92 L S M = ai_callv2 7 s_Model_node 95 (am_run (c_Model_closes s_Model_fail s_Model_node s_Model_end) k_Model_closes J K n) K 92 L S M := by rfl
set_option maxRecDepth 20000 in
theorem r_Model_closes_95 {s_Model_fail : aS} {s_Model_node : aS} {s_Model_end : aS} {J : aJ} {K : aR} {n : Nat} {L : aL} {S : List Value} {M : aM} : am_run (c_Model_closes s_Model_fail s_Model_node s_Model_end) k_Model_closes J K (n + 1) 95 L S M = ai_istore 5 97 (am_run (c_Model_closes s_Model_fail s_Model_node s_Model_end) k_Model_closes J K n) K 95 L S M := by rfl
set_option maxRecDepth 20000 in
theorem r_Model_closes_97 {s_Model_fail : aS} {s_Model_node : aS} {s_Model_end : aS} {J : aJ} {K : aR} {n : Nat} {L : aL} {S : List Value} {M : aM} : am_run (c_Model_closes s_Model_fail s_Model_node s_Model_end) k_Model_closes J K (n + 1) 97 L S M = ai_iload 1 98 (am_run (c_Model_closes s_Model_fail s_Model_node s_Model_end) k_Model_closes J K n) K 97 L S M := by rfl
set_option maxRecDepth 20000 in
theorem r_Model_closes_98 {s_Model_fail : aS} {s_Model_node : aS} {s_Model_end : aS} {J : aJ} {K : aR} {n : Nat} {L : aL} {S : List Value} {M : aM} : am_run (c_Model_closes s_Model_fail s_Model_node s_Model_end) k_Model_closes J K (n + 1) 98 L S M = ai_ifne 108 101 (am_run (c_Model_closes s_Model_fail s_Model_node s_Model_end) k_Model_closes J K n) K 98 L S M := by rfl
set_option maxRecDepth 20000 in
theorem r_Model_closes_101 {s_Model_fail : aS} {s_Model_node : aS} {s_Model_end : aS} {J : aJ} {K : aR} {n : Nat} {L : aL} {S : List Value} {M : aM} : am_run (c_Model_closes s_Model_fail s_Model_node s_Model_end) k_Model_closes J K (n + 1) 101 L S M = ai_iload 5 103 (am_run (c_Model_closes s_Model_fail s_Model_node s_Model_end) k_Model_closes J K n) K 101 L S M := by rfl
set_option maxRecDepth 20000 in
theorem r_Model_closes_103 {s_Model_fail : aS} {s_Model_node : aS} {s_Model_end : aS} {J : aJ} {K : aR} {n : Nat} {L : aL} {S : List Value} {M : aM} : am_run (c_Model_closes s_Model_fail s_Model_node s_Model_end) k_Model_closes J K (n + 1) 103 L S M = ai_istore 4 105 (am_run (c_Model_closes s_Model_fail s_Model_node s_Model_end) k_Model_closes J K n) K 103 L S M := by rfl
set_option maxRecDepth 20000 in
theorem r_Model_closes_105 {s_Model_fail : aS} {s_Model_node : aS} {s_Model_end : aS} {J : aJ} {K : aR} {n : Nat} {L : aL} {S : List Value} {M : aM} : am_run (c_Model_closes s_Model_fail s_Model_node s_Model_end) k_Model_closes J K (n + 1) 105 L S M = ai_goto 116 (am_run (c_Model_closes s_Model_fail s_Model_node s_Model_end) k_Model_closes J K n) K 105 L S M := by rfl
set_option maxRecDepth 20000 in
theorem r_Model_closes_108 {s_Model_fail : aS} {s_Model_node : aS} {s_Model_end : aS} {J : aJ} {K : aR} {n : Nat} {L : aL} {S : List Value} {M : aM} : am_run (c_Model_closes s_Model_fail s_Model_node s_Model_end) k_Model_closes J K (n + 1) 108 L S M = ai_aload 0 109 (am_run (c_Model_closes s_Model_fail s_Model_node s_Model_end) k_Model_closes J K n) K 108 L S M := by rfl
set_option maxRecDepth 20000 in
theorem r_Model_closes_109 {s_Model_fail : aS} {s_Model_node : aS} {s_Model_end : aS} {J : aJ} {K : aR} {n : Nat} {L : aL} {S : List Value} {M : aM} : am_run (c_Model_closes s_Model_fail s_Model_node s_Model_end) k_Model_closes J K (n + 1) 109 L S M = ai_getf 7 10 112 (am_run (c_Model_closes s_Model_fail s_Model_node s_Model_end) k_Model_closes J K n) K 109 L S M := by rfl
set_option maxRecDepth 20000 in
theorem r_Model_closes_112 {s_Model_fail : aS} {s_Model_node : aS} {s_Model_end : aS} {J : aJ} {K : aR} {n : Nat} {L : aL} {S : List Value} {M : aM} : am_run (c_Model_closes s_Model_fail s_Model_node s_Model_end) k_Model_closes J K (n + 1) 112 L S M = ai_iload 3 113 (am_run (c_Model_closes s_Model_fail s_Model_node s_Model_end) k_Model_closes J K n) K 112 L S M := by rfl
set_option maxRecDepth 20000 in
theorem r_Model_closes_113 {s_Model_fail : aS} {s_Model_node : aS} {s_Model_end : aS} {J : aJ} {K : aR} {n : Nat} {L : aL} {S : List Value} {M : aM} : am_run (c_Model_closes s_Model_fail s_Model_node s_Model_end) k_Model_closes J K (n + 1) 113 L S M = ai_iload 5 115 (am_run (c_Model_closes s_Model_fail s_Model_node s_Model_end) k_Model_closes J K n) K 113 L S M := by rfl
set_option maxRecDepth 20000 in
theorem r_Model_closes_115 {s_Model_fail : aS} {s_Model_node : aS} {s_Model_end : aS} {J : aJ} {K : aR} {n : Nat} {L : aL} {S : List Value} {M : aM} : am_run (c_Model_closes s_Model_fail s_Model_node s_Model_end) k_Model_closes J K (n + 1) 115 L S M = ai_iast 116 (am_run (c_Model_closes s_Model_fail s_Model_node s_Model_end) k_Model_closes J K n) K 115 L S M := by rfl
set_option maxRecDepth 20000 in
theorem r_Model_closes_116 {s_Model_fail : aS} {s_Model_node : aS} {s_Model_end : aS} {J : aJ} {K : aR} {n : Nat} {L : aL} {S : List Value} {M : aM} : am_run (c_Model_closes s_Model_fail s_Model_node s_Model_end) k_Model_closes J K (n + 1) 116 L S M = ai_aload 0 117 (am_run (c_Model_closes s_Model_fail s_Model_node s_Model_end) k_Model_closes J K n) K 116 L S M := by rfl
set_option maxRecDepth 20000 in
theorem r_Model_closes_117 {s_Model_fail : aS} {s_Model_node : aS} {s_Model_end : aS} {J : aJ} {K : aR} {n : Nat} {L : aL} {S : List Value} {M : aM} : am_run (c_Model_closes s_Model_fail s_Model_node s_Model_end) k_Model_closes J K (n + 1) 117 L S M = ai_getf 7 4 120 (am_run (c_Model_closes s_Model_fail s_Model_node s_Model_end) k_Model_closes J K n) K 117 L S M := by rfl
set_option maxRecDepth 20000 in
theorem r_Model_closes_120 {s_Model_fail : aS} {s_Model_node : aS} {s_Model_end : aS} {J : aJ} {K : aR} {n : Nat} {L : aL} {S : List Value} {M : aM} : am_run (c_Model_closes s_Model_fail s_Model_node s_Model_end) k_Model_closes J K (n + 1) 120 L S M = ai_iflt 124 123 (am_run (c_Model_closes s_Model_fail s_Model_node s_Model_end) k_Model_closes J K n) K 120 L S M := by rfl
set_option maxRecDepth 20000 in
theorem r_Model_closes_123 {s_Model_fail : aS} {s_Model_node : aS} {s_Model_end : aS} {J : aJ} {K : aR} {n : Nat} {L : aL} {S : List Value} {M : aM} : am_run (c_Model_closes s_Model_fail s_Model_node s_Model_end) k_Model_closes J K (n + 1) 123 L S M = ai_vret (am_run (c_Model_closes s_Model_fail s_Model_node s_Model_end) k_Model_closes J K n) K 123 L S M := by rfl
set_option maxRecDepth 20000 in
theorem r_Model_closes_124 {s_Model_fail : aS} {s_Model_node : aS} {s_Model_end : aS} {J : aJ} {K : aR} {n : Nat} {L : aL} {S : List Value} {M : aM} : am_run (c_Model_closes s_Model_fail s_Model_node s_Model_end) k_Model_closes J K (n + 1) 124 L S M = ai_aload 0 125 (am_run (c_Model_closes s_Model_fail s_Model_node s_Model_end) k_Model_closes J K n) K 124 L S M := by rfl
set_option maxRecDepth 20000 in
theorem r_Model_closes_125 {s_Model_fail : aS} {s_Model_node : aS} {s_Model_end : aS} {J : aJ} {K : aR} {n : Nat} {L : aL} {S : List Value} {M : aM} : am_run (c_Model_closes s_Model_fail s_Model_node s_Model_end) k_Model_closes J K (n + 1) 125 L S M = ai_aload 0 126 (am_run (c_Model_closes s_Model_fail s_Model_node s_Model_end) k_Model_closes J K n) K 125 L S M := by rfl
set_option maxRecDepth 20000 in
theorem r_Model_closes_126 {s_Model_fail : aS} {s_Model_node : aS} {s_Model_end : aS} {J : aJ} {K : aR} {n : Nat} {L : aL} {S : List Value} {M : aM} : am_run (c_Model_closes s_Model_fail s_Model_node s_Model_end) k_Model_closes J K (n + 1) 126 L S M = ai_getf 7 13 129 (am_run (c_Model_closes s_Model_fail s_Model_node s_Model_end) k_Model_closes J K n) K 126 L S M := by rfl
set_option maxRecDepth 20000 in
theorem r_Model_closes_129 {s_Model_fail : aS} {s_Model_node : aS} {s_Model_end : aS} {J : aJ} {K : aR} {n : Nat} {L : aL} {S : List Value} {M : aM} : am_run (c_Model_closes s_Model_fail s_Model_node s_Model_end) k_Model_closes J K (n + 1) 129 L S M = ai_const 1 130 (am_run (c_Model_closes s_Model_fail s_Model_node s_Model_end) k_Model_closes J K n) K 129 L S M := by rfl
set_option maxRecDepth 20000 in
theorem r_Model_closes_130 {s_Model_fail : aS} {s_Model_node : aS} {s_Model_end : aS} {J : aJ} {K : aR} {n : Nat} {L : aL} {S : List Value} {M : aM} : am_run (c_Model_closes s_Model_fail s_Model_node s_Model_end) k_Model_closes J K (n + 1) 130 L S M = ai_isub 131 (am_run (c_Model_closes s_Model_fail s_Model_node s_Model_end) k_Model_closes J K n) K 130 L S M := by rfl
set_option maxRecDepth 20000 in
theorem r_Model_closes_131 {s_Model_fail : aS} {s_Model_node : aS} {s_Model_end : aS} {J : aJ} {K : aR} {n : Nat} {L : aL} {S : List Value} {M : aM} : am_run (c_Model_closes s_Model_fail s_Model_node s_Model_end) k_Model_closes J K (n + 1) 131 L S M = ai_putf 7 13 134 (am_run (c_Model_closes s_Model_fail s_Model_node s_Model_end) k_Model_closes J K n) K 131 L S M := by rfl
set_option maxRecDepth 20000 in
theorem r_Model_closes_134 {s_Model_fail : aS} {s_Model_node : aS} {s_Model_end : aS} {J : aJ} {K : aR} {n : Nat} {L : aL} {S : List Value} {M : aM} : am_run (c_Model_closes s_Model_fail s_Model_node s_Model_end) k_Model_closes J K (n + 1) 134 L S M = ai_aload 0 135 (am_run (c_Model_closes s_Model_fail s_Model_node s_Model_end) k_Model_closes J K n) K 134 L S M := by rfl
set_option maxRecDepth 20000 in
theorem r_Model_closes_135 {s_Model_fail : aS} {s_Model_node : aS} {s_Model_end : aS} {J : aJ} {K : aR} {n : Nat} {L : aL} {S : List Value} {M : aM} : am_run (c_Model_closes s_Model_fail s_Model_node s_Model_end) k_Model_closes J K (n + 1) 135 L S M = ai_iload 4 137 (am_run (c_Model_closes s_Model_fail s_Model_node s_Model_end) k_Model_closes J K n) K 135 L S M := by rfl
set_option maxRecDepth 20000 in
theorem r_Model_closes_137 {s_Model_fail : aS} {s_Model_node : aS} {s_Model_end : aS} {J : aJ} {K : aR} {n : Nat} {L : aL} {S : List Value} {M : aM} : am_run (c_Model_closes s_Model_fail s_Model_node s_Model_end) k_Model_closes J K (n + 1) 137 L S M = ai_callv2 7 s_Model_end 140 (am_run (c_Model_closes s_Model_fail s_Model_node s_Model_end) k_Model_closes J K n) K 137 L S M := by rfl
set_option maxRecDepth 20000 in
theorem r_Model_closes_140 {s_Model_fail : aS} {s_Model_node : aS} {s_Model_end : aS} {J : aJ} {K : aR} {n : Nat} {L : aL} {S : List Value} {M : aM} : am_run (c_Model_closes s_Model_fail s_Model_node s_Model_end) k_Model_closes J K (n + 1) 140 L S M = ai_vret (am_run (c_Model_closes s_Model_fail s_Model_node s_Model_end) k_Model_closes J K n) K 140 L S M := by rfl
def c_Model_read (s_Model_token : aS) (s_Model_fail : aS) (s_Model_opens : aS) (s_Model_closes : aS) (s_Model_begin : aS) (s_Model_atom : aS) (s_Model_end : aS) : List (Nat × aI) := [
  (0, ai_aload 0 1),
  (1, ai_const (-1) 2),
  (2, ai_putf 7 4 5),
  (5, ai_aload 0 6),
  (6, ai_const 0 7),
  (7, ai_putf 7 2 10),
  (10, ai_aload 0 11),
  (11, ai_const 0 12),
  (12, ai_putf 7 5 15),
  (15, ai_aload 0 16),
  (16, ai_const 0 17),
  (17, ai_putf 7 11 20),
  (20, ai_aload 0 21),
  (21, ai_const 0 22),
  (22, ai_putf 7 13 25),
  (25, ai_const 1 26),
  (26, ai_istore 1 27),
  (27, ai_iload 1 28),
  (28, ai_ifeq 201 31),
  (31, ai_aload 0 32),
  (32, ai_getf 7 4 35),
  (35, ai_ifge 201 38),
  (38, ai_aload 0 39),
  (39, ai_callv1 7 s_Model_token 42),
  (42, ai_istore 2 43),
  (43, ai_iload 2 44),
  (44, ai_const 10 46),
  (46, ai_cmpne 69 49),
  (49, ai_aload 0 50),
  (50, ai_getf 7 13 53),
  (53, ai_ifle 64 56),
  (56, ai_aload 0 57),
  (57, ai_aload 0 58),
  (58, ai_getf 7 1 61),
  (61, ai_callv2 7 s_Model_fail 64),
  (64, ai_const 0 65),
  (65, ai_istore 1 66),
  (66, ai_goto 198),
  (69, ai_iload 2 70),
  (70, ai_const 12 72),
  (72, ai_cmpeq 81 75),
  (75, ai_iload 2 76),
  (76, ai_const 14 78),
  (78, ai_cmpne 99 81),
  (81, ai_aload 0 82),
  (82, ai_iload 2 83),
  (83, ai_const 14 85),
  (85, ai_cmpne 92 88),
  (88, ai_const 1 89),
  (89, ai_goto 93),
  (92, ai_const 0 93),
  (93, ai_callv2 7 s_Model_opens 96),
  (96, ai_goto 198),
  (99, ai_iload 2 100),
  (100, ai_const 13 102),
  (102, ai_cmpne 112 105),
  (105, ai_aload 0 106),
  (106, ai_callv1 7 s_Model_closes 109),
  (109, ai_goto 198),
  (112, ai_iload 2 113),
  (113, ai_const 15 115),
  (115, ai_cmpne 155 118),
  (118, ai_aload 0 119),
  (119, ai_getf 7 13 122),
  (122, ai_ifle 155 125),
  (125, ai_aload 0 126),
  (126, ai_getf 7 16 129),
  (129, ai_aload 0 130),
  (130, ai_getf 7 13 133),
  (133, ai_const 1 134),
  (134, ai_isub 135),
  (135, ai_iald 136),
  (136, ai_const 1 137),
  (137, ai_cmpne 155 140),
  (140, ai_aload 0 141),
  (141, ai_getf 7 16 144),
  (144, ai_aload 0 145),
  (145, ai_getf 7 13 148),
  (148, ai_const 1 149),
  (149, ai_isub 150),
  (150, ai_const 2 151),
  (151, ai_iast 152),
  (152, ai_goto 198),
  (155, ai_iload 2 156),
  (156, ai_const 11 158),
  (158, ai_cmpeq 167 161),
  (161, ai_iload 2 162),
  (162, ai_const 15 164),
  (164, ai_cmpne 178 167),
  (167, ai_aload 0 168),
  (168, ai_aload 0 169),
  (169, ai_getf 7 3 172),
  (172, ai_callv2 7 s_Model_fail 175),
  (175, ai_goto 198),
  (178, ai_aload 0 179),
  (179, ai_callv1 7 s_Model_begin 182),
  (182, ai_aload 0 183),
  (183, ai_getf 7 4 186),
  (186, ai_ifge 198 189),
  (189, ai_aload 0 190),
  (190, ai_aload 0 191),
  (191, ai_iload 2 192),
  (192, ai_callv2 7 s_Model_atom 195),
  (195, ai_callv2 7 s_Model_end 198),
  (198, ai_goto 27),
  (201, ai_aload 0 202),
  (202, ai_const 0 203),
  (203, ai_putf 7 1 206),
  (206, ai_aload 0 207),
  (207, ai_aload 0 208),
  (208, ai_getf 7 4 211),
  (211, ai_ifge 221 214),
  (214, ai_aload 0 215),
  (215, ai_getf 7 5 218),
  (218, ai_goto 222),
  (221, ai_const 0 222),
  (222, ai_putf 7 5 225),
  (225, ai_aload 0 226),
  (226, ai_aload 0 227),
  (227, ai_getf 7 4 230),
  (230, ai_ifge 240 233),
  (233, ai_aload 0 234),
  (234, ai_getf 7 11 237),
  (237, ai_goto 241),
  (240, ai_const 0 241),
  (241, ai_putf 7 11 244),
  (244, ai_aload 0 245),
  (245, ai_getf 7 4 248),
  (248, ai_ifge 258 251),
  (251, ai_aload 0 252),
  (252, ai_getf 7 11 255),
  (255, ai_goto 259),
  (258, ai_const (-1) 259),
  (259, ai_iret)]
set_option maxRecDepth 100000 in
set_option maxHeartbeats 4000000 in
theorem tb_Model_read {G : aG} {d : Nat} {s_Model_token : aS} {d_Model_token : Nat} (h_Model_token : am_Sp G Y_Model_token d_Model_token s_Model_token) (l_Model_token : d_Model_token < d) {s_Model_fail : aS} {d_Model_fail : Nat} (h_Model_fail : am_Sp G Y_Model_fail d_Model_fail s_Model_fail) (l_Model_fail : d_Model_fail < d) {s_Model_opens : aS} {d_Model_opens : Nat} (h_Model_opens : am_Sp G Y_Model_opens d_Model_opens s_Model_opens) (l_Model_opens : d_Model_opens < d) {s_Model_closes : aS} {d_Model_closes : Nat} (h_Model_closes : am_Sp G Y_Model_closes d_Model_closes s_Model_closes) (l_Model_closes : d_Model_closes < d) {s_Model_begin : aS} {d_Model_begin : Nat} (h_Model_begin : am_Sp G Y_Model_begin d_Model_begin s_Model_begin) (l_Model_begin : d_Model_begin < d) {s_Model_atom : aS} {d_Model_atom : Nat} (h_Model_atom : am_Sp G Y_Model_atom d_Model_atom s_Model_atom) (l_Model_atom : d_Model_atom < d) {s_Model_end : aS} {d_Model_end : Nat} (h_Model_end : am_Sp G Y_Model_end d_Model_end s_Model_end) (l_Model_end : d_Model_end < d) : am_tab G Y_Model_read d (c_Model_read s_Model_token s_Model_fail s_Model_opens s_Model_closes s_Model_begin s_Model_atom s_Model_end) := by
  intro K p e s m args below meth c C
  exact ⟨as_aload_n C (pc := 0) (q := 0) (by decide +kernel) rfl rfl,
    as_iconst C (pc := 1) (n := (-1)) (by decide +kernel) (by decide +kernel) rfl,
    as_putf C (pc := 2) t_Model (T := T_Model) (N := 21) rfl in_Model tok_Model nm_Model (by decide) rfl rfl (by decide +kernel) w_521 (by decide +kernel) rfl,
    as_aload_n C (pc := 5) (q := 0) (by decide +kernel) rfl rfl,
    as_iconst C (pc := 6) (n := 0) (by decide +kernel) (by decide +kernel) rfl,
    as_putf C (pc := 7) t_Model (T := T_Model) (N := 21) rfl in_Model tok_Model nm_Model (by decide) rfl rfl (by decide +kernel) w_519 (by decide +kernel) rfl,
    as_aload_n C (pc := 10) (q := 0) (by decide +kernel) rfl rfl,
    as_iconst C (pc := 11) (n := 0) (by decide +kernel) (by decide +kernel) rfl,
    as_putf C (pc := 12) t_Model (T := T_Model) (N := 21) rfl in_Model tok_Model nm_Model (by decide) rfl rfl (by decide +kernel) w_522 (by decide +kernel) rfl,
    as_aload_n C (pc := 15) (q := 0) (by decide +kernel) rfl rfl,
    as_iconst C (pc := 16) (n := 0) (by decide +kernel) (by decide +kernel) rfl,
    as_putf C (pc := 17) t_Model (T := T_Model) (N := 21) rfl in_Model tok_Model nm_Model (by decide) rfl rfl (by decide +kernel) w_528 (by decide +kernel) rfl,
    as_aload_n C (pc := 20) (q := 0) (by decide +kernel) rfl rfl,
    as_iconst C (pc := 21) (n := 0) (by decide +kernel) (by decide +kernel) rfl,
    as_putf C (pc := 22) t_Model (T := T_Model) (N := 21) rfl in_Model tok_Model nm_Model (by decide) rfl rfl (by decide +kernel) w_530 (by decide +kernel) rfl,
    as_iconst C (pc := 25) (n := 1) (by decide +kernel) (by decide +kernel) rfl,
    as_istore_n C (pc := 26) (q := 1) (by decide +kernel) rfl (by decide) rfl,
    as_iload_n C (pc := 27) (q := 1) (by decide +kernel) rfl rfl,
    as_ifeq C (pc := 28) (off := 173) (by decide +kernel) (by decide) rfl,
    as_aload_n C (pc := 31) (q := 0) (by decide +kernel) rfl rfl,
    as_getf C (pc := 32) (T := T_Model) (N := 21) rfl in_Model (by decide) rfl w_521 (by decide +kernel) rfl,
    as_ifge C (pc := 35) (off := 166) (by decide +kernel) (by decide) rfl,
    as_aload_n C (pc := 38) (q := 0) (by decide +kernel) rfl rfl,
    as_callv1 C (pc := 39) h_Model_token (T := T_Model) (N := 21) rfl w_592 w_78 w_591 w_50 w_589 hy_Model_token (am_rm_of l_Model_token (by decide)) (by decide +kernel) rfl,
    as_istore_n C (pc := 42) (q := 2) (by decide +kernel) rfl (by decide) rfl,
    as_iload_n C (pc := 43) (q := 2) (by decide +kernel) rfl rfl,
    as_bipush C (pc := 44) (n := 10) (by decide +kernel) (by decide +kernel) rfl,
    as_cmpne C (pc := 46) (off := 23) (by decide +kernel) (by decide) rfl,
    as_aload_n C (pc := 49) (q := 0) (by decide +kernel) rfl rfl,
    as_getf C (pc := 50) (T := T_Model) (N := 21) rfl in_Model (by decide) rfl w_530 (by decide +kernel) rfl,
    as_ifle C (pc := 53) (off := 11) (by decide +kernel) (by decide) rfl,
    as_aload_n C (pc := 56) (q := 0) (by decide +kernel) rfl rfl,
    as_aload_n C (pc := 57) (q := 0) (by decide +kernel) rfl rfl,
    as_getf C (pc := 58) (T := T_Model) (N := 21) rfl in_Model (by decide) rfl w_518 (by decide +kernel) rfl,
    as_callv2 C (pc := 61) h_Model_fail (T := T_Model) (N := 21) rfl w_617 w_78 w_616 w_54 w_614 hy_Model_fail (am_rm_of l_Model_fail (by decide)) (by decide +kernel) rfl,
    as_iconst C (pc := 64) (n := 0) (by decide +kernel) (by decide +kernel) rfl,
    as_istore_n C (pc := 65) (q := 1) (by decide +kernel) rfl (by decide) rfl,
    as_goto C (pc := 66) (off := 132) (by decide +kernel) (by decide),
    as_iload_n C (pc := 69) (q := 2) (by decide +kernel) rfl rfl,
    as_bipush C (pc := 70) (n := 12) (by decide +kernel) (by decide +kernel) rfl,
    as_cmpeq C (pc := 72) (off := 9) (by decide +kernel) (by decide) rfl,
    as_iload_n C (pc := 75) (q := 2) (by decide +kernel) rfl rfl,
    as_bipush C (pc := 76) (n := 14) (by decide +kernel) (by decide +kernel) rfl,
    as_cmpne C (pc := 78) (off := 21) (by decide +kernel) (by decide) rfl,
    as_aload_n C (pc := 81) (q := 0) (by decide +kernel) rfl rfl,
    as_iload_n C (pc := 82) (q := 2) (by decide +kernel) rfl rfl,
    as_bipush C (pc := 83) (n := 14) (by decide +kernel) (by decide +kernel) rfl,
    as_cmpne C (pc := 85) (off := 7) (by decide +kernel) (by decide) rfl,
    as_iconst C (pc := 88) (n := 1) (by decide +kernel) (by decide +kernel) rfl,
    as_goto C (pc := 89) (off := 4) (by decide +kernel) (by decide),
    as_iconst C (pc := 92) (n := 0) (by decide +kernel) (by decide +kernel) rfl,
    as_callv2 C (pc := 93) h_Model_opens (T := T_Model) (N := 21) rfl w_621 w_78 w_620 w_55 w_618 hy_Model_opens (am_rm_of l_Model_opens (by decide)) (by decide +kernel) rfl,
    as_goto C (pc := 96) (off := 102) (by decide +kernel) (by decide),
    as_iload_n C (pc := 99) (q := 2) (by decide +kernel) rfl rfl,
    as_bipush C (pc := 100) (n := 13) (by decide +kernel) (by decide +kernel) rfl,
    as_cmpne C (pc := 102) (off := 10) (by decide +kernel) (by decide) rfl,
    as_aload_n C (pc := 105) (q := 0) (by decide +kernel) rfl rfl,
    as_callv1 C (pc := 106) h_Model_closes (T := T_Model) (N := 21) rfl w_678 w_78 w_677 w_59 w_675 hy_Model_closes (am_rm_of l_Model_closes (by decide)) (by decide +kernel) rfl,
    as_goto C (pc := 109) (off := 89) (by decide +kernel) (by decide),
    as_iload_n C (pc := 112) (q := 2) (by decide +kernel) rfl rfl,
    as_bipush C (pc := 113) (n := 15) (by decide +kernel) (by decide +kernel) rfl,
    as_cmpne C (pc := 115) (off := 40) (by decide +kernel) (by decide) rfl,
    as_aload_n C (pc := 118) (q := 0) (by decide +kernel) rfl rfl,
    as_getf C (pc := 119) (T := T_Model) (N := 21) rfl in_Model (by decide) rfl w_530 (by decide +kernel) rfl,
    as_ifle C (pc := 122) (off := 33) (by decide +kernel) (by decide) rfl,
    as_aload_n C (pc := 125) (q := 0) (by decide +kernel) rfl rfl,
    as_getf C (pc := 126) (T := T_Model) (N := 21) rfl in_Model (by decide) rfl w_533 (by decide +kernel) rfl,
    as_aload_n C (pc := 129) (q := 0) (by decide +kernel) rfl rfl,
    as_getf C (pc := 130) (T := T_Model) (N := 21) rfl in_Model (by decide) rfl w_530 (by decide +kernel) rfl,
    as_iconst C (pc := 133) (n := 1) (by decide +kernel) (by decide +kernel) rfl,
    as_isub C (pc := 134) (by decide +kernel) rfl,
    as_iald C (pc := 135) (by decide +kernel) rfl,
    as_iconst C (pc := 136) (n := 1) (by decide +kernel) (by decide +kernel) rfl,
    as_cmpne C (pc := 137) (off := 18) (by decide +kernel) (by decide) rfl,
    as_aload_n C (pc := 140) (q := 0) (by decide +kernel) rfl rfl,
    as_getf C (pc := 141) (T := T_Model) (N := 21) rfl in_Model (by decide) rfl w_533 (by decide +kernel) rfl,
    as_aload_n C (pc := 144) (q := 0) (by decide +kernel) rfl rfl,
    as_getf C (pc := 145) (T := T_Model) (N := 21) rfl in_Model (by decide) rfl w_530 (by decide +kernel) rfl,
    as_iconst C (pc := 148) (n := 1) (by decide +kernel) (by decide +kernel) rfl,
    as_isub C (pc := 149) (by decide +kernel) rfl,
    as_iconst C (pc := 150) (n := 2) (by decide +kernel) (by decide +kernel) rfl,
    as_iast C (pc := 151) (by decide +kernel) rfl,
    as_goto C (pc := 152) (off := 46) (by decide +kernel) (by decide),
    as_iload_n C (pc := 155) (q := 2) (by decide +kernel) rfl rfl,
    as_bipush C (pc := 156) (n := 11) (by decide +kernel) (by decide +kernel) rfl,
    as_cmpeq C (pc := 158) (off := 9) (by decide +kernel) (by decide) rfl,
    as_iload_n C (pc := 161) (q := 2) (by decide +kernel) rfl rfl,
    as_bipush C (pc := 162) (n := 15) (by decide +kernel) (by decide +kernel) rfl,
    as_cmpne C (pc := 164) (off := 14) (by decide +kernel) (by decide) rfl,
    as_aload_n C (pc := 167) (q := 0) (by decide +kernel) rfl rfl,
    as_aload_n C (pc := 168) (q := 0) (by decide +kernel) rfl rfl,
    as_getf C (pc := 169) (T := T_Model) (N := 21) rfl in_Model (by decide) rfl w_520 (by decide +kernel) rfl,
    as_callv2 C (pc := 172) h_Model_fail (T := T_Model) (N := 21) rfl w_617 w_78 w_616 w_54 w_614 hy_Model_fail (am_rm_of l_Model_fail (by decide)) (by decide +kernel) rfl,
    as_goto C (pc := 175) (off := 23) (by decide +kernel) (by decide),
    as_aload_n C (pc := 178) (q := 0) (by decide +kernel) rfl rfl,
    as_callv1 C (pc := 179) h_Model_begin (T := T_Model) (N := 21) rfl w_625 w_78 w_624 w_56 w_622 hy_Model_begin (am_rm_of l_Model_begin (by decide)) (by decide +kernel) rfl,
    as_aload_n C (pc := 182) (q := 0) (by decide +kernel) rfl rfl,
    as_getf C (pc := 183) (T := T_Model) (N := 21) rfl in_Model (by decide) rfl w_521 (by decide +kernel) rfl,
    as_ifge C (pc := 186) (off := 12) (by decide +kernel) (by decide) rfl,
    as_aload_n C (pc := 189) (q := 0) (by decide +kernel) rfl rfl,
    as_aload_n C (pc := 190) (q := 0) (by decide +kernel) rfl rfl,
    as_iload_n C (pc := 191) (q := 2) (by decide +kernel) rfl rfl,
    as_callv2 C (pc := 192) h_Model_atom (T := T_Model) (N := 21) rfl w_686 w_78 w_685 w_61 w_683 hy_Model_atom (am_rm_of l_Model_atom (by decide)) (by decide +kernel) rfl,
    as_callv2 C (pc := 195) h_Model_end (T := T_Model) (N := 21) rfl w_682 w_78 w_681 w_60 w_679 hy_Model_end (am_rm_of l_Model_end (by decide)) (by decide +kernel) rfl,
    as_goto C (pc := 198) (off := (-171)) (by decide +kernel) (by decide),
    as_aload_n C (pc := 201) (q := 0) (by decide +kernel) rfl rfl,
    as_iconst C (pc := 202) (n := 0) (by decide +kernel) (by decide +kernel) rfl,
    as_putf C (pc := 203) t_Model (T := T_Model) (N := 21) rfl in_Model tok_Model nm_Model (by decide) rfl rfl (by decide +kernel) w_518 (by decide +kernel) rfl,
    as_aload_n C (pc := 206) (q := 0) (by decide +kernel) rfl rfl,
    as_aload_n C (pc := 207) (q := 0) (by decide +kernel) rfl rfl,
    as_getf C (pc := 208) (T := T_Model) (N := 21) rfl in_Model (by decide) rfl w_521 (by decide +kernel) rfl,
    as_ifge C (pc := 211) (off := 10) (by decide +kernel) (by decide) rfl,
    as_aload_n C (pc := 214) (q := 0) (by decide +kernel) rfl rfl,
    as_getf C (pc := 215) (T := T_Model) (N := 21) rfl in_Model (by decide) rfl w_522 (by decide +kernel) rfl,
    as_goto C (pc := 218) (off := 4) (by decide +kernel) (by decide),
    as_iconst C (pc := 221) (n := 0) (by decide +kernel) (by decide +kernel) rfl,
    as_putf C (pc := 222) t_Model (T := T_Model) (N := 21) rfl in_Model tok_Model nm_Model (by decide) rfl rfl (by decide +kernel) w_522 (by decide +kernel) rfl,
    as_aload_n C (pc := 225) (q := 0) (by decide +kernel) rfl rfl,
    as_aload_n C (pc := 226) (q := 0) (by decide +kernel) rfl rfl,
    as_getf C (pc := 227) (T := T_Model) (N := 21) rfl in_Model (by decide) rfl w_521 (by decide +kernel) rfl,
    as_ifge C (pc := 230) (off := 10) (by decide +kernel) (by decide) rfl,
    as_aload_n C (pc := 233) (q := 0) (by decide +kernel) rfl rfl,
    as_getf C (pc := 234) (T := T_Model) (N := 21) rfl in_Model (by decide) rfl w_528 (by decide +kernel) rfl,
    as_goto C (pc := 237) (off := 4) (by decide +kernel) (by decide),
    as_iconst C (pc := 240) (n := 0) (by decide +kernel) (by decide +kernel) rfl,
    as_putf C (pc := 241) t_Model (T := T_Model) (N := 21) rfl in_Model tok_Model nm_Model (by decide) rfl rfl (by decide +kernel) w_528 (by decide +kernel) rfl,
    as_aload_n C (pc := 244) (q := 0) (by decide +kernel) rfl rfl,
    as_getf C (pc := 245) (T := T_Model) (N := 21) rfl in_Model (by decide) rfl w_521 (by decide +kernel) rfl,
    as_ifge C (pc := 248) (off := 10) (by decide +kernel) (by decide) rfl,
    as_aload_n C (pc := 251) (q := 0) (by decide +kernel) rfl rfl,
    as_getf C (pc := 252) (T := T_Model) (N := 21) rfl in_Model (by decide) rfl w_528 (by decide +kernel) rfl,
    as_goto C (pc := 255) (off := 4) (by decide +kernel) (by decide),
    as_iconst C (pc := 258) (n := (-1)) (by decide +kernel) (by decide +kernel) rfl,
    as_iret C (pc := 259) rfl (by decide +kernel), trivial⟩
abbrev k_Model_read : List Nat := [27]
set_option maxRecDepth 20000 in
theorem q_Model_read_27 {s_Model_token : aS} {s_Model_fail : aS} {s_Model_opens : aS} {s_Model_closes : aS} {s_Model_begin : aS} {s_Model_atom : aS} {s_Model_end : aS} : am_at (c_Model_read s_Model_token s_Model_fail s_Model_opens s_Model_closes s_Model_begin s_Model_atom s_Model_end) 27 = ai_iload 1 28 := by rfl
set_option maxRecDepth 20000 in
theorem r_Model_read_0 {s_Model_token : aS} {s_Model_fail : aS} {s_Model_opens : aS} {s_Model_closes : aS} {s_Model_begin : aS} {s_Model_atom : aS} {s_Model_end : aS} {J : aJ} {K : aR} {n : Nat} {L : aL} {S : List Value} {M : aM} : am_run (c_Model_read s_Model_token s_Model_fail s_Model_opens s_Model_closes s_Model_begin s_Model_atom s_Model_end) k_Model_read J K (n + 1) 0 L S M = ai_aload 0 1 (am_run (c_Model_read s_Model_token s_Model_fail s_Model_opens s_Model_closes s_Model_begin s_Model_atom s_Model_end) k_Model_read J K n) K 0 L S M := by rfl
set_option maxRecDepth 20000 in
theorem r_Model_read_1 {s_Model_token : aS} {s_Model_fail : aS} {s_Model_opens : aS} {s_Model_closes : aS} {s_Model_begin : aS} {s_Model_atom : aS} {s_Model_end : aS} {J : aJ} {K : aR} {n : Nat} {L : aL} {S : List Value} {M : aM} : am_run (c_Model_read s_Model_token s_Model_fail s_Model_opens s_Model_closes s_Model_begin s_Model_atom s_Model_end) k_Model_read J K (n + 1) 1 L S M = ai_const (-1) 2 (am_run (c_Model_read s_Model_token s_Model_fail s_Model_opens s_Model_closes s_Model_begin s_Model_atom s_Model_end) k_Model_read J K n) K 1 L S M := by rfl
set_option maxRecDepth 20000 in
theorem r_Model_read_2 {s_Model_token : aS} {s_Model_fail : aS} {s_Model_opens : aS} {s_Model_closes : aS} {s_Model_begin : aS} {s_Model_atom : aS} {s_Model_end : aS} {J : aJ} {K : aR} {n : Nat} {L : aL} {S : List Value} {M : aM} : am_run (c_Model_read s_Model_token s_Model_fail s_Model_opens s_Model_closes s_Model_begin s_Model_atom s_Model_end) k_Model_read J K (n + 1) 2 L S M = ai_putf 7 4 5 (am_run (c_Model_read s_Model_token s_Model_fail s_Model_opens s_Model_closes s_Model_begin s_Model_atom s_Model_end) k_Model_read J K n) K 2 L S M := by rfl
set_option maxRecDepth 20000 in
theorem r_Model_read_5 {s_Model_token : aS} {s_Model_fail : aS} {s_Model_opens : aS} {s_Model_closes : aS} {s_Model_begin : aS} {s_Model_atom : aS} {s_Model_end : aS} {J : aJ} {K : aR} {n : Nat} {L : aL} {S : List Value} {M : aM} : am_run (c_Model_read s_Model_token s_Model_fail s_Model_opens s_Model_closes s_Model_begin s_Model_atom s_Model_end) k_Model_read J K (n + 1) 5 L S M = ai_aload 0 6 (am_run (c_Model_read s_Model_token s_Model_fail s_Model_opens s_Model_closes s_Model_begin s_Model_atom s_Model_end) k_Model_read J K n) K 5 L S M := by rfl
set_option maxRecDepth 20000 in
theorem r_Model_read_6 {s_Model_token : aS} {s_Model_fail : aS} {s_Model_opens : aS} {s_Model_closes : aS} {s_Model_begin : aS} {s_Model_atom : aS} {s_Model_end : aS} {J : aJ} {K : aR} {n : Nat} {L : aL} {S : List Value} {M : aM} : am_run (c_Model_read s_Model_token s_Model_fail s_Model_opens s_Model_closes s_Model_begin s_Model_atom s_Model_end) k_Model_read J K (n + 1) 6 L S M = ai_const 0 7 (am_run (c_Model_read s_Model_token s_Model_fail s_Model_opens s_Model_closes s_Model_begin s_Model_atom s_Model_end) k_Model_read J K n) K 6 L S M := by rfl
set_option maxRecDepth 20000 in
theorem r_Model_read_7 {s_Model_token : aS} {s_Model_fail : aS} {s_Model_opens : aS} {s_Model_closes : aS} {s_Model_begin : aS} {s_Model_atom : aS} {s_Model_end : aS} {J : aJ} {K : aR} {n : Nat} {L : aL} {S : List Value} {M : aM} : am_run (c_Model_read s_Model_token s_Model_fail s_Model_opens s_Model_closes s_Model_begin s_Model_atom s_Model_end) k_Model_read J K (n + 1) 7 L S M = ai_putf 7 2 10 (am_run (c_Model_read s_Model_token s_Model_fail s_Model_opens s_Model_closes s_Model_begin s_Model_atom s_Model_end) k_Model_read J K n) K 7 L S M := by rfl
set_option maxRecDepth 20000 in
theorem r_Model_read_10 {s_Model_token : aS} {s_Model_fail : aS} {s_Model_opens : aS} {s_Model_closes : aS} {s_Model_begin : aS} {s_Model_atom : aS} {s_Model_end : aS} {J : aJ} {K : aR} {n : Nat} {L : aL} {S : List Value} {M : aM} : am_run (c_Model_read s_Model_token s_Model_fail s_Model_opens s_Model_closes s_Model_begin s_Model_atom s_Model_end) k_Model_read J K (n + 1) 10 L S M = ai_aload 0 11 (am_run (c_Model_read s_Model_token s_Model_fail s_Model_opens s_Model_closes s_Model_begin s_Model_atom s_Model_end) k_Model_read J K n) K 10 L S M := by rfl
set_option maxRecDepth 20000 in
theorem r_Model_read_11 {s_Model_token : aS} {s_Model_fail : aS} {s_Model_opens : aS} {s_Model_closes : aS} {s_Model_begin : aS} {s_Model_atom : aS} {s_Model_end : aS} {J : aJ} {K : aR} {n : Nat} {L : aL} {S : List Value} {M : aM} : am_run (c_Model_read s_Model_token s_Model_fail s_Model_opens s_Model_closes s_Model_begin s_Model_atom s_Model_end) k_Model_read J K (n + 1) 11 L S M = ai_const 0 12 (am_run (c_Model_read s_Model_token s_Model_fail s_Model_opens s_Model_closes s_Model_begin s_Model_atom s_Model_end) k_Model_read J K n) K 11 L S M := by rfl
set_option maxRecDepth 20000 in
theorem r_Model_read_12 {s_Model_token : aS} {s_Model_fail : aS} {s_Model_opens : aS} {s_Model_closes : aS} {s_Model_begin : aS} {s_Model_atom : aS} {s_Model_end : aS} {J : aJ} {K : aR} {n : Nat} {L : aL} {S : List Value} {M : aM} : am_run (c_Model_read s_Model_token s_Model_fail s_Model_opens s_Model_closes s_Model_begin s_Model_atom s_Model_end) k_Model_read J K (n + 1) 12 L S M = ai_putf 7 5 15 (am_run (c_Model_read s_Model_token s_Model_fail s_Model_opens s_Model_closes s_Model_begin s_Model_atom s_Model_end) k_Model_read J K n) K 12 L S M := by rfl
set_option maxRecDepth 20000 in
theorem r_Model_read_15 {s_Model_token : aS} {s_Model_fail : aS} {s_Model_opens : aS} {s_Model_closes : aS} {s_Model_begin : aS} {s_Model_atom : aS} {s_Model_end : aS} {J : aJ} {K : aR} {n : Nat} {L : aL} {S : List Value} {M : aM} : am_run (c_Model_read s_Model_token s_Model_fail s_Model_opens s_Model_closes s_Model_begin s_Model_atom s_Model_end) k_Model_read J K (n + 1) 15 L S M = ai_aload 0 16 (am_run (c_Model_read s_Model_token s_Model_fail s_Model_opens s_Model_closes s_Model_begin s_Model_atom s_Model_end) k_Model_read J K n) K 15 L S M := by rfl
set_option maxRecDepth 20000 in
theorem r_Model_read_16 {s_Model_token : aS} {s_Model_fail : aS} {s_Model_opens : aS} {s_Model_closes : aS} {s_Model_begin : aS} {s_Model_atom : aS} {s_Model_end : aS} {J : aJ} {K : aR} {n : Nat} {L : aL} {S : List Value} {M : aM} : am_run (c_Model_read s_Model_token s_Model_fail s_Model_opens s_Model_closes s_Model_begin s_Model_atom s_Model_end) k_Model_read J K (n + 1) 16 L S M = ai_const 0 17 (am_run (c_Model_read s_Model_token s_Model_fail s_Model_opens s_Model_closes s_Model_begin s_Model_atom s_Model_end) k_Model_read J K n) K 16 L S M := by rfl
set_option maxRecDepth 20000 in
theorem r_Model_read_17 {s_Model_token : aS} {s_Model_fail : aS} {s_Model_opens : aS} {s_Model_closes : aS} {s_Model_begin : aS} {s_Model_atom : aS} {s_Model_end : aS} {J : aJ} {K : aR} {n : Nat} {L : aL} {S : List Value} {M : aM} : am_run (c_Model_read s_Model_token s_Model_fail s_Model_opens s_Model_closes s_Model_begin s_Model_atom s_Model_end) k_Model_read J K (n + 1) 17 L S M = ai_putf 7 11 20 (am_run (c_Model_read s_Model_token s_Model_fail s_Model_opens s_Model_closes s_Model_begin s_Model_atom s_Model_end) k_Model_read J K n) K 17 L S M := by rfl
set_option maxRecDepth 20000 in
theorem r_Model_read_20 {s_Model_token : aS} {s_Model_fail : aS} {s_Model_opens : aS} {s_Model_closes : aS} {s_Model_begin : aS} {s_Model_atom : aS} {s_Model_end : aS} {J : aJ} {K : aR} {n : Nat} {L : aL} {S : List Value} {M : aM} : am_run (c_Model_read s_Model_token s_Model_fail s_Model_opens s_Model_closes s_Model_begin s_Model_atom s_Model_end) k_Model_read J K (n + 1) 20 L S M = ai_aload 0 21 (am_run (c_Model_read s_Model_token s_Model_fail s_Model_opens s_Model_closes s_Model_begin s_Model_atom s_Model_end) k_Model_read J K n) K 20 L S M := by rfl
set_option maxRecDepth 20000 in
theorem r_Model_read_21 {s_Model_token : aS} {s_Model_fail : aS} {s_Model_opens : aS} {s_Model_closes : aS} {s_Model_begin : aS} {s_Model_atom : aS} {s_Model_end : aS} {J : aJ} {K : aR} {n : Nat} {L : aL} {S : List Value} {M : aM} : am_run (c_Model_read s_Model_token s_Model_fail s_Model_opens s_Model_closes s_Model_begin s_Model_atom s_Model_end) k_Model_read J K (n + 1) 21 L S M = ai_const 0 22 (am_run (c_Model_read s_Model_token s_Model_fail s_Model_opens s_Model_closes s_Model_begin s_Model_atom s_Model_end) k_Model_read J K n) K 21 L S M := by rfl
set_option maxRecDepth 20000 in
theorem r_Model_read_22 {s_Model_token : aS} {s_Model_fail : aS} {s_Model_opens : aS} {s_Model_closes : aS} {s_Model_begin : aS} {s_Model_atom : aS} {s_Model_end : aS} {J : aJ} {K : aR} {n : Nat} {L : aL} {S : List Value} {M : aM} : am_run (c_Model_read s_Model_token s_Model_fail s_Model_opens s_Model_closes s_Model_begin s_Model_atom s_Model_end) k_Model_read J K (n + 1) 22 L S M = ai_putf 7 13 25 (am_run (c_Model_read s_Model_token s_Model_fail s_Model_opens s_Model_closes s_Model_begin s_Model_atom s_Model_end) k_Model_read J K n) K 22 L S M := by rfl
set_option maxRecDepth 20000 in
theorem r_Model_read_25 {s_Model_token : aS} {s_Model_fail : aS} {s_Model_opens : aS} {s_Model_closes : aS} {s_Model_begin : aS} {s_Model_atom : aS} {s_Model_end : aS} {J : aJ} {K : aR} {n : Nat} {L : aL} {S : List Value} {M : aM} : am_run (c_Model_read s_Model_token s_Model_fail s_Model_opens s_Model_closes s_Model_begin s_Model_atom s_Model_end) k_Model_read J K (n + 1) 25 L S M = ai_const 1 26 (am_run (c_Model_read s_Model_token s_Model_fail s_Model_opens s_Model_closes s_Model_begin s_Model_atom s_Model_end) k_Model_read J K n) K 25 L S M := by rfl
set_option maxRecDepth 20000 in
theorem r_Model_read_26 {s_Model_token : aS} {s_Model_fail : aS} {s_Model_opens : aS} {s_Model_closes : aS} {s_Model_begin : aS} {s_Model_atom : aS} {s_Model_end : aS} {J : aJ} {K : aR} {n : Nat} {L : aL} {S : List Value} {M : aM} : am_run (c_Model_read s_Model_token s_Model_fail s_Model_opens s_Model_closes s_Model_begin s_Model_atom s_Model_end) k_Model_read J K (n + 1) 26 L S M = ai_istore 1 27 (am_run (c_Model_read s_Model_token s_Model_fail s_Model_opens s_Model_closes s_Model_begin s_Model_atom s_Model_end) k_Model_read J K n) K 26 L S M := by rfl
set_option maxRecDepth 20000 in
theorem r_Model_read_27 {s_Model_token : aS} {s_Model_fail : aS} {s_Model_opens : aS} {s_Model_closes : aS} {s_Model_begin : aS} {s_Model_atom : aS} {s_Model_end : aS} {J : aJ} {K : aR} {n : Nat} {L : aL} {S : List Value} {M : aM} : am_run (c_Model_read s_Model_token s_Model_fail s_Model_opens s_Model_closes s_Model_begin s_Model_atom s_Model_end) k_Model_read J K (n + 1) 27 L S M = J 27 L S M := by rfl
set_option maxRecDepth 20000 in
theorem r_Model_read_28 {s_Model_token : aS} {s_Model_fail : aS} {s_Model_opens : aS} {s_Model_closes : aS} {s_Model_begin : aS} {s_Model_atom : aS} {s_Model_end : aS} {J : aJ} {K : aR} {n : Nat} {L : aL} {S : List Value} {M : aM} : am_run (c_Model_read s_Model_token s_Model_fail s_Model_opens s_Model_closes s_Model_begin s_Model_atom s_Model_end) k_Model_read J K (n + 1) 28 L S M = ai_ifeq 201 31 (am_run (c_Model_read s_Model_token s_Model_fail s_Model_opens s_Model_closes s_Model_begin s_Model_atom s_Model_end) k_Model_read J K n) K 28 L S M := by rfl
set_option maxRecDepth 20000 in
theorem r_Model_read_31 {s_Model_token : aS} {s_Model_fail : aS} {s_Model_opens : aS} {s_Model_closes : aS} {s_Model_begin : aS} {s_Model_atom : aS} {s_Model_end : aS} {J : aJ} {K : aR} {n : Nat} {L : aL} {S : List Value} {M : aM} : am_run (c_Model_read s_Model_token s_Model_fail s_Model_opens s_Model_closes s_Model_begin s_Model_atom s_Model_end) k_Model_read J K (n + 1) 31 L S M = ai_aload 0 32 (am_run (c_Model_read s_Model_token s_Model_fail s_Model_opens s_Model_closes s_Model_begin s_Model_atom s_Model_end) k_Model_read J K n) K 31 L S M := by rfl
set_option maxRecDepth 20000 in
theorem r_Model_read_32 {s_Model_token : aS} {s_Model_fail : aS} {s_Model_opens : aS} {s_Model_closes : aS} {s_Model_begin : aS} {s_Model_atom : aS} {s_Model_end : aS} {J : aJ} {K : aR} {n : Nat} {L : aL} {S : List Value} {M : aM} : am_run (c_Model_read s_Model_token s_Model_fail s_Model_opens s_Model_closes s_Model_begin s_Model_atom s_Model_end) k_Model_read J K (n + 1) 32 L S M = ai_getf 7 4 35 (am_run (c_Model_read s_Model_token s_Model_fail s_Model_opens s_Model_closes s_Model_begin s_Model_atom s_Model_end) k_Model_read J K n) K 32 L S M := by rfl
set_option maxRecDepth 20000 in
theorem r_Model_read_35 {s_Model_token : aS} {s_Model_fail : aS} {s_Model_opens : aS} {s_Model_closes : aS} {s_Model_begin : aS} {s_Model_atom : aS} {s_Model_end : aS} {J : aJ} {K : aR} {n : Nat} {L : aL} {S : List Value} {M : aM} : am_run (c_Model_read s_Model_token s_Model_fail s_Model_opens s_Model_closes s_Model_begin s_Model_atom s_Model_end) k_Model_read J K (n + 1) 35 L S M = ai_ifge 201 38 (am_run (c_Model_read s_Model_token s_Model_fail s_Model_opens s_Model_closes s_Model_begin s_Model_atom s_Model_end) k_Model_read J K n) K 35 L S M := by rfl
set_option maxRecDepth 20000 in
theorem r_Model_read_38 {s_Model_token : aS} {s_Model_fail : aS} {s_Model_opens : aS} {s_Model_closes : aS} {s_Model_begin : aS} {s_Model_atom : aS} {s_Model_end : aS} {J : aJ} {K : aR} {n : Nat} {L : aL} {S : List Value} {M : aM} : am_run (c_Model_read s_Model_token s_Model_fail s_Model_opens s_Model_closes s_Model_begin s_Model_atom s_Model_end) k_Model_read J K (n + 1) 38 L S M = ai_aload 0 39 (am_run (c_Model_read s_Model_token s_Model_fail s_Model_opens s_Model_closes s_Model_begin s_Model_atom s_Model_end) k_Model_read J K n) K 38 L S M := by rfl
set_option maxRecDepth 20000 in
theorem r_Model_read_39 {s_Model_token : aS} {s_Model_fail : aS} {s_Model_opens : aS} {s_Model_closes : aS} {s_Model_begin : aS} {s_Model_atom : aS} {s_Model_end : aS} {J : aJ} {K : aR} {n : Nat} {L : aL} {S : List Value} {M : aM} : am_run (c_Model_read s_Model_token s_Model_fail s_Model_opens s_Model_closes s_Model_begin s_Model_atom s_Model_end) k_Model_read J K (n + 1) 39 L S M = ai_callv1 7 s_Model_token 42 (am_run (c_Model_read s_Model_token s_Model_fail s_Model_opens s_Model_closes s_Model_begin s_Model_atom s_Model_end) k_Model_read J K n) K 39 L S M := by rfl
set_option maxRecDepth 20000 in
theorem r_Model_read_42 {s_Model_token : aS} {s_Model_fail : aS} {s_Model_opens : aS} {s_Model_closes : aS} {s_Model_begin : aS} {s_Model_atom : aS} {s_Model_end : aS} {J : aJ} {K : aR} {n : Nat} {L : aL} {S : List Value} {M : aM} : am_run (c_Model_read s_Model_token s_Model_fail s_Model_opens s_Model_closes s_Model_begin s_Model_atom s_Model_end) k_Model_read J K (n + 1) 42 L S M = ai_istore 2 43 (am_run (c_Model_read s_Model_token s_Model_fail s_Model_opens s_Model_closes s_Model_begin s_Model_atom s_Model_end) k_Model_read J K n) K 42 L S M := by rfl
set_option maxRecDepth 20000 in
theorem r_Model_read_43 {s_Model_token : aS} {s_Model_fail : aS} {s_Model_opens : aS} {s_Model_closes : aS} {s_Model_begin : aS} {s_Model_atom : aS} {s_Model_end : aS} {J : aJ} {K : aR} {n : Nat} {L : aL} {S : List Value} {M : aM} : am_run (c_Model_read s_Model_token s_Model_fail s_Model_opens s_Model_closes s_Model_begin s_Model_atom s_Model_end) k_Model_read J K (n + 1) 43 L S M = ai_iload 2 44 (am_run (c_Model_read s_Model_token s_Model_fail s_Model_opens s_Model_closes s_Model_begin s_Model_atom s_Model_end) k_Model_read J K n) K 43 L S M := by rfl
set_option maxRecDepth 20000 in
theorem r_Model_read_44 {s_Model_token : aS} {s_Model_fail : aS} {s_Model_opens : aS} {s_Model_closes : aS} {s_Model_begin : aS} {s_Model_atom : aS} {s_Model_end : aS} {J : aJ} {K : aR} {n : Nat} {L : aL} {S : List Value} {M : aM} : am_run (c_Model_read s_Model_token s_Model_fail s_Model_opens s_Model_closes s_Model_begin s_Model_atom s_Model_end) k_Model_read J K (n + 1) 44 L S M = ai_const 10 46 (am_run (c_Model_read s_Model_token s_Model_fail s_Model_opens s_Model_closes s_Model_begin s_Model_atom s_Model_end) k_Model_read J K n) K 44 L S M := by rfl
set_option maxRecDepth 20000 in
theorem r_Model_read_46 {s_Model_token : aS} {s_Model_fail : aS} {s_Model_opens : aS} {s_Model_closes : aS} {s_Model_begin : aS} {s_Model_atom : aS} {s_Model_end : aS} {J : aJ} {K : aR} {n : Nat} {L : aL} {S : List Value} {M : aM} : am_run (c_Model_read s_Model_token s_Model_fail s_Model_opens s_Model_closes s_Model_begin s_Model_atom s_Model_end) k_Model_read J K (n + 1) 46 L S M = ai_cmpne 69 49 (am_run (c_Model_read s_Model_token s_Model_fail s_Model_opens s_Model_closes s_Model_begin s_Model_atom s_Model_end) k_Model_read J K n) K 46 L S M := by rfl
set_option maxRecDepth 20000 in
theorem r_Model_read_49 {s_Model_token : aS} {s_Model_fail : aS} {s_Model_opens : aS} {s_Model_closes : aS} {s_Model_begin : aS} {s_Model_atom : aS} {s_Model_end : aS} {J : aJ} {K : aR} {n : Nat} {L : aL} {S : List Value} {M : aM} : am_run (c_Model_read s_Model_token s_Model_fail s_Model_opens s_Model_closes s_Model_begin s_Model_atom s_Model_end) k_Model_read J K (n + 1) 49 L S M = ai_aload 0 50 (am_run (c_Model_read s_Model_token s_Model_fail s_Model_opens s_Model_closes s_Model_begin s_Model_atom s_Model_end) k_Model_read J K n) K 49 L S M := by rfl
set_option maxRecDepth 20000 in
theorem r_Model_read_50 {s_Model_token : aS} {s_Model_fail : aS} {s_Model_opens : aS} {s_Model_closes : aS} {s_Model_begin : aS} {s_Model_atom : aS} {s_Model_end : aS} {J : aJ} {K : aR} {n : Nat} {L : aL} {S : List Value} {M : aM} : am_run (c_Model_read s_Model_token s_Model_fail s_Model_opens s_Model_closes s_Model_begin s_Model_atom s_Model_end) k_Model_read J K (n + 1) 50 L S M = ai_getf 7 13 53 (am_run (c_Model_read s_Model_token s_Model_fail s_Model_opens s_Model_closes s_Model_begin s_Model_atom s_Model_end) k_Model_read J K n) K 50 L S M := by rfl
set_option maxRecDepth 20000 in
theorem r_Model_read_53 {s_Model_token : aS} {s_Model_fail : aS} {s_Model_opens : aS} {s_Model_closes : aS} {s_Model_begin : aS} {s_Model_atom : aS} {s_Model_end : aS} {J : aJ} {K : aR} {n : Nat} {L : aL} {S : List Value} {M : aM} : am_run (c_Model_read s_Model_token s_Model_fail s_Model_opens s_Model_closes s_Model_begin s_Model_atom s_Model_end) k_Model_read J K (n + 1) 53 L S M = ai_ifle 64 56 (am_run (c_Model_read s_Model_token s_Model_fail s_Model_opens s_Model_closes s_Model_begin s_Model_atom s_Model_end) k_Model_read J K n) K 53 L S M := by rfl
set_option maxRecDepth 20000 in
theorem r_Model_read_56 {s_Model_token : aS} {s_Model_fail : aS} {s_Model_opens : aS} {s_Model_closes : aS} {s_Model_begin : aS} {s_Model_atom : aS} {s_Model_end : aS} {J : aJ} {K : aR} {n : Nat} {L : aL} {S : List Value} {M : aM} : am_run (c_Model_read s_Model_token s_Model_fail s_Model_opens s_Model_closes s_Model_begin s_Model_atom s_Model_end) k_Model_read J K (n + 1) 56 L S M = ai_aload 0 57 (am_run (c_Model_read s_Model_token s_Model_fail s_Model_opens s_Model_closes s_Model_begin s_Model_atom s_Model_end) k_Model_read J K n) K 56 L S M := by rfl
set_option maxRecDepth 20000 in
theorem r_Model_read_57 {s_Model_token : aS} {s_Model_fail : aS} {s_Model_opens : aS} {s_Model_closes : aS} {s_Model_begin : aS} {s_Model_atom : aS} {s_Model_end : aS} {J : aJ} {K : aR} {n : Nat} {L : aL} {S : List Value} {M : aM} : am_run (c_Model_read s_Model_token s_Model_fail s_Model_opens s_Model_closes s_Model_begin s_Model_atom s_Model_end) k_Model_read J K (n + 1) 57 L S M = ai_aload 0 58 (am_run (c_Model_read s_Model_token s_Model_fail s_Model_opens s_Model_closes s_Model_begin s_Model_atom s_Model_end) k_Model_read J K n) K 57 L S M := by rfl
set_option maxRecDepth 20000 in
theorem r_Model_read_58 {s_Model_token : aS} {s_Model_fail : aS} {s_Model_opens : aS} {s_Model_closes : aS} {s_Model_begin : aS} {s_Model_atom : aS} {s_Model_end : aS} {J : aJ} {K : aR} {n : Nat} {L : aL} {S : List Value} {M : aM} : am_run (c_Model_read s_Model_token s_Model_fail s_Model_opens s_Model_closes s_Model_begin s_Model_atom s_Model_end) k_Model_read J K (n + 1) 58 L S M = ai_getf 7 1 61 (am_run (c_Model_read s_Model_token s_Model_fail s_Model_opens s_Model_closes s_Model_begin s_Model_atom s_Model_end) k_Model_read J K n) K 58 L S M := by rfl
set_option maxRecDepth 20000 in
theorem r_Model_read_61 {s_Model_token : aS} {s_Model_fail : aS} {s_Model_opens : aS} {s_Model_closes : aS} {s_Model_begin : aS} {s_Model_atom : aS} {s_Model_end : aS} {J : aJ} {K : aR} {n : Nat} {L : aL} {S : List Value} {M : aM} : am_run (c_Model_read s_Model_token s_Model_fail s_Model_opens s_Model_closes s_Model_begin s_Model_atom s_Model_end) k_Model_read J K (n + 1) 61 L S M = ai_callv2 7 s_Model_fail 64 (am_run (c_Model_read s_Model_token s_Model_fail s_Model_opens s_Model_closes s_Model_begin s_Model_atom s_Model_end) k_Model_read J K n) K 61 L S M := by rfl
set_option maxRecDepth 20000 in
theorem r_Model_read_64 {s_Model_token : aS} {s_Model_fail : aS} {s_Model_opens : aS} {s_Model_closes : aS} {s_Model_begin : aS} {s_Model_atom : aS} {s_Model_end : aS} {J : aJ} {K : aR} {n : Nat} {L : aL} {S : List Value} {M : aM} : am_run (c_Model_read s_Model_token s_Model_fail s_Model_opens s_Model_closes s_Model_begin s_Model_atom s_Model_end) k_Model_read J K (n + 1) 64 L S M = ai_const 0 65 (am_run (c_Model_read s_Model_token s_Model_fail s_Model_opens s_Model_closes s_Model_begin s_Model_atom s_Model_end) k_Model_read J K n) K 64 L S M := by rfl
set_option maxRecDepth 20000 in
theorem r_Model_read_65 {s_Model_token : aS} {s_Model_fail : aS} {s_Model_opens : aS} {s_Model_closes : aS} {s_Model_begin : aS} {s_Model_atom : aS} {s_Model_end : aS} {J : aJ} {K : aR} {n : Nat} {L : aL} {S : List Value} {M : aM} : am_run (c_Model_read s_Model_token s_Model_fail s_Model_opens s_Model_closes s_Model_begin s_Model_atom s_Model_end) k_Model_read J K (n + 1) 65 L S M = ai_istore 1 66 (am_run (c_Model_read s_Model_token s_Model_fail s_Model_opens s_Model_closes s_Model_begin s_Model_atom s_Model_end) k_Model_read J K n) K 65 L S M := by rfl
set_option maxRecDepth 20000 in
theorem r_Model_read_66 {s_Model_token : aS} {s_Model_fail : aS} {s_Model_opens : aS} {s_Model_closes : aS} {s_Model_begin : aS} {s_Model_atom : aS} {s_Model_end : aS} {J : aJ} {K : aR} {n : Nat} {L : aL} {S : List Value} {M : aM} : am_run (c_Model_read s_Model_token s_Model_fail s_Model_opens s_Model_closes s_Model_begin s_Model_atom s_Model_end) k_Model_read J K (n + 1) 66 L S M = ai_goto 198 (am_run (c_Model_read s_Model_token s_Model_fail s_Model_opens s_Model_closes s_Model_begin s_Model_atom s_Model_end) k_Model_read J K n) K 66 L S M := by rfl
set_option maxRecDepth 20000 in
theorem r_Model_read_69 {s_Model_token : aS} {s_Model_fail : aS} {s_Model_opens : aS} {s_Model_closes : aS} {s_Model_begin : aS} {s_Model_atom : aS} {s_Model_end : aS} {J : aJ} {K : aR} {n : Nat} {L : aL} {S : List Value} {M : aM} : am_run (c_Model_read s_Model_token s_Model_fail s_Model_opens s_Model_closes s_Model_begin s_Model_atom s_Model_end) k_Model_read J K (n + 1) 69 L S M = ai_iload 2 70 (am_run (c_Model_read s_Model_token s_Model_fail s_Model_opens s_Model_closes s_Model_begin s_Model_atom s_Model_end) k_Model_read J K n) K 69 L S M := by rfl
set_option maxRecDepth 20000 in
theorem r_Model_read_70 {s_Model_token : aS} {s_Model_fail : aS} {s_Model_opens : aS} {s_Model_closes : aS} {s_Model_begin : aS} {s_Model_atom : aS} {s_Model_end : aS} {J : aJ} {K : aR} {n : Nat} {L : aL} {S : List Value} {M : aM} : am_run (c_Model_read s_Model_token s_Model_fail s_Model_opens s_Model_closes s_Model_begin s_Model_atom s_Model_end) k_Model_read J K (n + 1) 70 L S M = ai_const 12 72 (am_run (c_Model_read s_Model_token s_Model_fail s_Model_opens s_Model_closes s_Model_begin s_Model_atom s_Model_end) k_Model_read J K n) K 70 L S M := by rfl
set_option maxRecDepth 20000 in
theorem r_Model_read_72 {s_Model_token : aS} {s_Model_fail : aS} {s_Model_opens : aS} {s_Model_closes : aS} {s_Model_begin : aS} {s_Model_atom : aS} {s_Model_end : aS} {J : aJ} {K : aR} {n : Nat} {L : aL} {S : List Value} {M : aM} : am_run (c_Model_read s_Model_token s_Model_fail s_Model_opens s_Model_closes s_Model_begin s_Model_atom s_Model_end) k_Model_read J K (n + 1) 72 L S M = ai_cmpeq 81 75 (am_run (c_Model_read s_Model_token s_Model_fail s_Model_opens s_Model_closes s_Model_begin s_Model_atom s_Model_end) k_Model_read J K n) K 72 L S M := by rfl
set_option maxRecDepth 20000 in
theorem r_Model_read_75 {s_Model_token : aS} {s_Model_fail : aS} {s_Model_opens : aS} {s_Model_closes : aS} {s_Model_begin : aS} {s_Model_atom : aS} {s_Model_end : aS} {J : aJ} {K : aR} {n : Nat} {L : aL} {S : List Value} {M : aM} : am_run (c_Model_read s_Model_token s_Model_fail s_Model_opens s_Model_closes s_Model_begin s_Model_atom s_Model_end) k_Model_read J K (n + 1) 75 L S M = ai_iload 2 76 (am_run (c_Model_read s_Model_token s_Model_fail s_Model_opens s_Model_closes s_Model_begin s_Model_atom s_Model_end) k_Model_read J K n) K 75 L S M := by rfl
set_option maxRecDepth 20000 in
theorem r_Model_read_76 {s_Model_token : aS} {s_Model_fail : aS} {s_Model_opens : aS} {s_Model_closes : aS} {s_Model_begin : aS} {s_Model_atom : aS} {s_Model_end : aS} {J : aJ} {K : aR} {n : Nat} {L : aL} {S : List Value} {M : aM} : am_run (c_Model_read s_Model_token s_Model_fail s_Model_opens s_Model_closes s_Model_begin s_Model_atom s_Model_end) k_Model_read J K (n + 1) 76 L S M = ai_const 14 78 (am_run (c_Model_read s_Model_token s_Model_fail s_Model_opens s_Model_closes s_Model_begin s_Model_atom s_Model_end) k_Model_read J K n) K 76 L S M := by rfl
set_option maxRecDepth 20000 in
theorem r_Model_read_78 {s_Model_token : aS} {s_Model_fail : aS} {s_Model_opens : aS} {s_Model_closes : aS} {s_Model_begin : aS} {s_Model_atom : aS} {s_Model_end : aS} {J : aJ} {K : aR} {n : Nat} {L : aL} {S : List Value} {M : aM} : am_run (c_Model_read s_Model_token s_Model_fail s_Model_opens s_Model_closes s_Model_begin s_Model_atom s_Model_end) k_Model_read J K (n + 1) 78 L S M = ai_cmpne 99 81 (am_run (c_Model_read s_Model_token s_Model_fail s_Model_opens s_Model_closes s_Model_begin s_Model_atom s_Model_end) k_Model_read J K n) K 78 L S M := by rfl
set_option maxRecDepth 20000 in
theorem r_Model_read_81 {s_Model_token : aS} {s_Model_fail : aS} {s_Model_opens : aS} {s_Model_closes : aS} {s_Model_begin : aS} {s_Model_atom : aS} {s_Model_end : aS} {J : aJ} {K : aR} {n : Nat} {L : aL} {S : List Value} {M : aM} : am_run (c_Model_read s_Model_token s_Model_fail s_Model_opens s_Model_closes s_Model_begin s_Model_atom s_Model_end) k_Model_read J K (n + 1) 81 L S M = ai_aload 0 82 (am_run (c_Model_read s_Model_token s_Model_fail s_Model_opens s_Model_closes s_Model_begin s_Model_atom s_Model_end) k_Model_read J K n) K 81 L S M := by rfl
set_option maxRecDepth 20000 in
theorem r_Model_read_82 {s_Model_token : aS} {s_Model_fail : aS} {s_Model_opens : aS} {s_Model_closes : aS} {s_Model_begin : aS} {s_Model_atom : aS} {s_Model_end : aS} {J : aJ} {K : aR} {n : Nat} {L : aL} {S : List Value} {M : aM} : am_run (c_Model_read s_Model_token s_Model_fail s_Model_opens s_Model_closes s_Model_begin s_Model_atom s_Model_end) k_Model_read J K (n + 1) 82 L S M = ai_iload 2 83 (am_run (c_Model_read s_Model_token s_Model_fail s_Model_opens s_Model_closes s_Model_begin s_Model_atom s_Model_end) k_Model_read J K n) K 82 L S M := by rfl
set_option maxRecDepth 20000 in
theorem r_Model_read_83 {s_Model_token : aS} {s_Model_fail : aS} {s_Model_opens : aS} {s_Model_closes : aS} {s_Model_begin : aS} {s_Model_atom : aS} {s_Model_end : aS} {J : aJ} {K : aR} {n : Nat} {L : aL} {S : List Value} {M : aM} : am_run (c_Model_read s_Model_token s_Model_fail s_Model_opens s_Model_closes s_Model_begin s_Model_atom s_Model_end) k_Model_read J K (n + 1) 83 L S M = ai_const 14 85 (am_run (c_Model_read s_Model_token s_Model_fail s_Model_opens s_Model_closes s_Model_begin s_Model_atom s_Model_end) k_Model_read J K n) K 83 L S M := by rfl
set_option maxRecDepth 20000 in
theorem r_Model_read_85 {s_Model_token : aS} {s_Model_fail : aS} {s_Model_opens : aS} {s_Model_closes : aS} {s_Model_begin : aS} {s_Model_atom : aS} {s_Model_end : aS} {J : aJ} {K : aR} {n : Nat} {L : aL} {S : List Value} {M : aM} : am_run (c_Model_read s_Model_token s_Model_fail s_Model_opens s_Model_closes s_Model_begin s_Model_atom s_Model_end) k_Model_read J K (n + 1) 85 L S M = ai_cmpne 92 88 (am_run (c_Model_read s_Model_token s_Model_fail s_Model_opens s_Model_closes s_Model_begin s_Model_atom s_Model_end) k_Model_read J K n) K 85 L S M := by rfl
set_option maxRecDepth 20000 in
theorem r_Model_read_88 {s_Model_token : aS} {s_Model_fail : aS} {s_Model_opens : aS} {s_Model_closes : aS} {s_Model_begin : aS} {s_Model_atom : aS} {s_Model_end : aS} {J : aJ} {K : aR} {n : Nat} {L : aL} {S : List Value} {M : aM} : am_run (c_Model_read s_Model_token s_Model_fail s_Model_opens s_Model_closes s_Model_begin s_Model_atom s_Model_end) k_Model_read J K (n + 1) 88 L S M = ai_const 1 89 (am_run (c_Model_read s_Model_token s_Model_fail s_Model_opens s_Model_closes s_Model_begin s_Model_atom s_Model_end) k_Model_read J K n) K 88 L S M := by rfl
set_option maxRecDepth 20000 in
theorem r_Model_read_89 {s_Model_token : aS} {s_Model_fail : aS} {s_Model_opens : aS} {s_Model_closes : aS} {s_Model_begin : aS} {s_Model_atom : aS} {s_Model_end : aS} {J : aJ} {K : aR} {n : Nat} {L : aL} {S : List Value} {M : aM} : am_run (c_Model_read s_Model_token s_Model_fail s_Model_opens s_Model_closes s_Model_begin s_Model_atom s_Model_end) k_Model_read J K (n + 1) 89 L S M = ai_goto 93 (am_run (c_Model_read s_Model_token s_Model_fail s_Model_opens s_Model_closes s_Model_begin s_Model_atom s_Model_end) k_Model_read J K n) K 89 L S M := by rfl
set_option maxRecDepth 20000 in
theorem r_Model_read_92 {s_Model_token : aS} {s_Model_fail : aS} {s_Model_opens : aS} {s_Model_closes : aS} {s_Model_begin : aS} {s_Model_atom : aS} {s_Model_end : aS} {J : aJ} {K : aR} {n : Nat} {L : aL} {S : List Value} {M : aM} : am_run (c_Model_read s_Model_token s_Model_fail s_Model_opens s_Model_closes s_Model_begin s_Model_atom s_Model_end) k_Model_read J K (n + 1) 92 L S M = ai_const 0 93 (am_run (c_Model_read s_Model_token s_Model_fail s_Model_opens s_Model_closes s_Model_begin s_Model_atom s_Model_end) k_Model_read J K n) K 92 L S M := by rfl
set_option maxRecDepth 20000 in
theorem r_Model_read_93 {s_Model_token : aS} {s_Model_fail : aS} {s_Model_opens : aS} {s_Model_closes : aS} {s_Model_begin : aS} {s_Model_atom : aS} {s_Model_end : aS} {J : aJ} {K : aR} {n : Nat} {L : aL} {S : List Value} {M : aM} : am_run (c_Model_read s_Model_token s_Model_fail s_Model_opens s_Model_closes s_Model_begin s_Model_atom s_Model_end) k_Model_read J K (n + 1) 93 L S M = ai_callv2 7 s_Model_opens 96 (am_run (c_Model_read s_Model_token s_Model_fail s_Model_opens s_Model_closes s_Model_begin s_Model_atom s_Model_end) k_Model_read J K n) K 93 L S M := by rfl
set_option maxRecDepth 20000 in
theorem r_Model_read_96 {s_Model_token : aS} {s_Model_fail : aS} {s_Model_opens : aS} {s_Model_closes : aS} {s_Model_begin : aS} {s_Model_atom : aS} {s_Model_end : aS} {J : aJ} {K : aR} {n : Nat} {L : aL} {S : List Value} {M : aM} : am_run (c_Model_read s_Model_token s_Model_fail s_Model_opens s_Model_closes s_Model_begin s_Model_atom s_Model_end) k_Model_read J K (n + 1) 96 L S M = ai_goto 198 (am_run (c_Model_read s_Model_token s_Model_fail s_Model_opens s_Model_closes s_Model_begin s_Model_atom s_Model_end) k_Model_read J K n) K 96 L S M := by rfl
set_option maxRecDepth 20000 in
theorem r_Model_read_99 {s_Model_token : aS} {s_Model_fail : aS} {s_Model_opens : aS} {s_Model_closes : aS} {s_Model_begin : aS} {s_Model_atom : aS} {s_Model_end : aS} {J : aJ} {K : aR} {n : Nat} {L : aL} {S : List Value} {M : aM} : am_run (c_Model_read s_Model_token s_Model_fail s_Model_opens s_Model_closes s_Model_begin s_Model_atom s_Model_end) k_Model_read J K (n + 1) 99 L S M = ai_iload 2 100 (am_run (c_Model_read s_Model_token s_Model_fail s_Model_opens s_Model_closes s_Model_begin s_Model_atom s_Model_end) k_Model_read J K n) K 99 L S M := by rfl
set_option maxRecDepth 20000 in
theorem r_Model_read_100 {s_Model_token : aS} {s_Model_fail : aS} {s_Model_opens : aS} {s_Model_closes : aS} {s_Model_begin : aS} {s_Model_atom : aS} {s_Model_end : aS} {J : aJ} {K : aR} {n : Nat} {L : aL} {S : List Value} {M : aM} : am_run (c_Model_read s_Model_token s_Model_fail s_Model_opens s_Model_closes s_Model_begin s_Model_atom s_Model_end) k_Model_read J K (n + 1) 100 L S M = ai_const 13 102 (am_run (c_Model_read s_Model_token s_Model_fail s_Model_opens s_Model_closes s_Model_begin s_Model_atom s_Model_end) k_Model_read J K n) K 100 L S M := by rfl
set_option maxRecDepth 20000 in
theorem r_Model_read_102 {s_Model_token : aS} {s_Model_fail : aS} {s_Model_opens : aS} {s_Model_closes : aS} {s_Model_begin : aS} {s_Model_atom : aS} {s_Model_end : aS} {J : aJ} {K : aR} {n : Nat} {L : aL} {S : List Value} {M : aM} : am_run (c_Model_read s_Model_token s_Model_fail s_Model_opens s_Model_closes s_Model_begin s_Model_atom s_Model_end) k_Model_read J K (n + 1) 102 L S M = ai_cmpne 112 105 (am_run (c_Model_read s_Model_token s_Model_fail s_Model_opens s_Model_closes s_Model_begin s_Model_atom s_Model_end) k_Model_read J K n) K 102 L S M := by rfl
set_option maxRecDepth 20000 in
theorem r_Model_read_105 {s_Model_token : aS} {s_Model_fail : aS} {s_Model_opens : aS} {s_Model_closes : aS} {s_Model_begin : aS} {s_Model_atom : aS} {s_Model_end : aS} {J : aJ} {K : aR} {n : Nat} {L : aL} {S : List Value} {M : aM} : am_run (c_Model_read s_Model_token s_Model_fail s_Model_opens s_Model_closes s_Model_begin s_Model_atom s_Model_end) k_Model_read J K (n + 1) 105 L S M = ai_aload 0 106 (am_run (c_Model_read s_Model_token s_Model_fail s_Model_opens s_Model_closes s_Model_begin s_Model_atom s_Model_end) k_Model_read J K n) K 105 L S M := by rfl
set_option maxRecDepth 20000 in
theorem r_Model_read_106 {s_Model_token : aS} {s_Model_fail : aS} {s_Model_opens : aS} {s_Model_closes : aS} {s_Model_begin : aS} {s_Model_atom : aS} {s_Model_end : aS} {J : aJ} {K : aR} {n : Nat} {L : aL} {S : List Value} {M : aM} : am_run (c_Model_read s_Model_token s_Model_fail s_Model_opens s_Model_closes s_Model_begin s_Model_atom s_Model_end) k_Model_read J K (n + 1) 106 L S M = ai_callv1 7 s_Model_closes 109 (am_run (c_Model_read s_Model_token s_Model_fail s_Model_opens s_Model_closes s_Model_begin s_Model_atom s_Model_end) k_Model_read J K n) K 106 L S M := by rfl
set_option maxRecDepth 20000 in
theorem r_Model_read_109 {s_Model_token : aS} {s_Model_fail : aS} {s_Model_opens : aS} {s_Model_closes : aS} {s_Model_begin : aS} {s_Model_atom : aS} {s_Model_end : aS} {J : aJ} {K : aR} {n : Nat} {L : aL} {S : List Value} {M : aM} : am_run (c_Model_read s_Model_token s_Model_fail s_Model_opens s_Model_closes s_Model_begin s_Model_atom s_Model_end) k_Model_read J K (n + 1) 109 L S M = ai_goto 198 (am_run (c_Model_read s_Model_token s_Model_fail s_Model_opens s_Model_closes s_Model_begin s_Model_atom s_Model_end) k_Model_read J K n) K 109 L S M := by rfl
set_option maxRecDepth 20000 in
theorem r_Model_read_112 {s_Model_token : aS} {s_Model_fail : aS} {s_Model_opens : aS} {s_Model_closes : aS} {s_Model_begin : aS} {s_Model_atom : aS} {s_Model_end : aS} {J : aJ} {K : aR} {n : Nat} {L : aL} {S : List Value} {M : aM} : am_run (c_Model_read s_Model_token s_Model_fail s_Model_opens s_Model_closes s_Model_begin s_Model_atom s_Model_end) k_Model_read J K (n + 1) 112 L S M = ai_iload 2 113 (am_run (c_Model_read s_Model_token s_Model_fail s_Model_opens s_Model_closes s_Model_begin s_Model_atom s_Model_end) k_Model_read J K n) K 112 L S M := by rfl
set_option maxRecDepth 20000 in
theorem r_Model_read_113 {s_Model_token : aS} {s_Model_fail : aS} {s_Model_opens : aS} {s_Model_closes : aS} {s_Model_begin : aS} {s_Model_atom : aS} {s_Model_end : aS} {J : aJ} {K : aR} {n : Nat} {L : aL} {S : List Value} {M : aM} : am_run (c_Model_read s_Model_token s_Model_fail s_Model_opens s_Model_closes s_Model_begin s_Model_atom s_Model_end) k_Model_read J K (n + 1) 113 L S M = ai_const 15 115 (am_run (c_Model_read s_Model_token s_Model_fail s_Model_opens s_Model_closes s_Model_begin s_Model_atom s_Model_end) k_Model_read J K n) K 113 L S M := by rfl
set_option maxRecDepth 20000 in
theorem r_Model_read_115 {s_Model_token : aS} {s_Model_fail : aS} {s_Model_opens : aS} {s_Model_closes : aS} {s_Model_begin : aS} {s_Model_atom : aS} {s_Model_end : aS} {J : aJ} {K : aR} {n : Nat} {L : aL} {S : List Value} {M : aM} : am_run (c_Model_read s_Model_token s_Model_fail s_Model_opens s_Model_closes s_Model_begin s_Model_atom s_Model_end) k_Model_read J K (n + 1) 115 L S M = ai_cmpne 155 118 (am_run (c_Model_read s_Model_token s_Model_fail s_Model_opens s_Model_closes s_Model_begin s_Model_atom s_Model_end) k_Model_read J K n) K 115 L S M := by rfl
set_option maxRecDepth 20000 in
theorem r_Model_read_118 {s_Model_token : aS} {s_Model_fail : aS} {s_Model_opens : aS} {s_Model_closes : aS} {s_Model_begin : aS} {s_Model_atom : aS} {s_Model_end : aS} {J : aJ} {K : aR} {n : Nat} {L : aL} {S : List Value} {M : aM} : am_run (c_Model_read s_Model_token s_Model_fail s_Model_opens s_Model_closes s_Model_begin s_Model_atom s_Model_end) k_Model_read J K (n + 1) 118 L S M = ai_aload 0 119 (am_run (c_Model_read s_Model_token s_Model_fail s_Model_opens s_Model_closes s_Model_begin s_Model_atom s_Model_end) k_Model_read J K n) K 118 L S M := by rfl
set_option maxRecDepth 20000 in
theorem r_Model_read_119 {s_Model_token : aS} {s_Model_fail : aS} {s_Model_opens : aS} {s_Model_closes : aS} {s_Model_begin : aS} {s_Model_atom : aS} {s_Model_end : aS} {J : aJ} {K : aR} {n : Nat} {L : aL} {S : List Value} {M : aM} : am_run (c_Model_read s_Model_token s_Model_fail s_Model_opens s_Model_closes s_Model_begin s_Model_atom s_Model_end) k_Model_read J K (n + 1) 119 L S M = ai_getf 7 13 122 (am_run (c_Model_read s_Model_token s_Model_fail s_Model_opens s_Model_closes s_Model_begin s_Model_atom s_Model_end) k_Model_read J K n) K 119 L S M := by rfl
set_option maxRecDepth 20000 in
theorem r_Model_read_122 {s_Model_token : aS} {s_Model_fail : aS} {s_Model_opens : aS} {s_Model_closes : aS} {s_Model_begin : aS} {s_Model_atom : aS} {s_Model_end : aS} {J : aJ} {K : aR} {n : Nat} {L : aL} {S : List Value} {M : aM} : am_run (c_Model_read s_Model_token s_Model_fail s_Model_opens s_Model_closes s_Model_begin s_Model_atom s_Model_end) k_Model_read J K (n + 1) 122 L S M = ai_ifle 155 125 (am_run (c_Model_read s_Model_token s_Model_fail s_Model_opens s_Model_closes s_Model_begin s_Model_atom s_Model_end) k_Model_read J K n) K 122 L S M := by rfl
set_option maxRecDepth 20000 in
theorem r_Model_read_125 {s_Model_token : aS} {s_Model_fail : aS} {s_Model_opens : aS} {s_Model_closes : aS} {s_Model_begin : aS} {s_Model_atom : aS} {s_Model_end : aS} {J : aJ} {K : aR} {n : Nat} {L : aL} {S : List Value} {M : aM} : am_run (c_Model_read s_Model_token s_Model_fail s_Model_opens s_Model_closes s_Model_begin s_Model_atom s_Model_end) k_Model_read J K (n + 1) 125 L S M = ai_aload 0 126 (am_run (c_Model_read s_Model_token s_Model_fail s_Model_opens s_Model_closes s_Model_begin s_Model_atom s_Model_end) k_Model_read J K n) K 125 L S M := by rfl
set_option maxRecDepth 20000 in
theorem r_Model_read_126 {s_Model_token : aS} {s_Model_fail : aS} {s_Model_opens : aS} {s_Model_closes : aS} {s_Model_begin : aS} {s_Model_atom : aS} {s_Model_end : aS} {J : aJ} {K : aR} {n : Nat} {L : aL} {S : List Value} {M : aM} : am_run (c_Model_read s_Model_token s_Model_fail s_Model_opens s_Model_closes s_Model_begin s_Model_atom s_Model_end) k_Model_read J K (n + 1) 126 L S M = ai_getf 7 16 129 (am_run (c_Model_read s_Model_token s_Model_fail s_Model_opens s_Model_closes s_Model_begin s_Model_atom s_Model_end) k_Model_read J K n) K 126 L S M := by rfl
set_option maxRecDepth 20000 in
theorem r_Model_read_129 {s_Model_token : aS} {s_Model_fail : aS} {s_Model_opens : aS} {s_Model_closes : aS} {s_Model_begin : aS} {s_Model_atom : aS} {s_Model_end : aS} {J : aJ} {K : aR} {n : Nat} {L : aL} {S : List Value} {M : aM} : am_run (c_Model_read s_Model_token s_Model_fail s_Model_opens s_Model_closes s_Model_begin s_Model_atom s_Model_end) k_Model_read J K (n + 1) 129 L S M = ai_aload 0 130 (am_run (c_Model_read s_Model_token s_Model_fail s_Model_opens s_Model_closes s_Model_begin s_Model_atom s_Model_end) k_Model_read J K n) K 129 L S M := by rfl
set_option maxRecDepth 20000 in
theorem r_Model_read_130 {s_Model_token : aS} {s_Model_fail : aS} {s_Model_opens : aS} {s_Model_closes : aS} {s_Model_begin : aS} {s_Model_atom : aS} {s_Model_end : aS} {J : aJ} {K : aR} {n : Nat} {L : aL} {S : List Value} {M : aM} : am_run (c_Model_read s_Model_token s_Model_fail s_Model_opens s_Model_closes s_Model_begin s_Model_atom s_Model_end) k_Model_read J K (n + 1) 130 L S M = ai_getf 7 13 133 (am_run (c_Model_read s_Model_token s_Model_fail s_Model_opens s_Model_closes s_Model_begin s_Model_atom s_Model_end) k_Model_read J K n) K 130 L S M := by rfl
set_option maxRecDepth 20000 in
theorem r_Model_read_133 {s_Model_token : aS} {s_Model_fail : aS} {s_Model_opens : aS} {s_Model_closes : aS} {s_Model_begin : aS} {s_Model_atom : aS} {s_Model_end : aS} {J : aJ} {K : aR} {n : Nat} {L : aL} {S : List Value} {M : aM} : am_run (c_Model_read s_Model_token s_Model_fail s_Model_opens s_Model_closes s_Model_begin s_Model_atom s_Model_end) k_Model_read J K (n + 1) 133 L S M = ai_const 1 134 (am_run (c_Model_read s_Model_token s_Model_fail s_Model_opens s_Model_closes s_Model_begin s_Model_atom s_Model_end) k_Model_read J K n) K 133 L S M := by rfl
set_option maxRecDepth 20000 in
theorem r_Model_read_134 {s_Model_token : aS} {s_Model_fail : aS} {s_Model_opens : aS} {s_Model_closes : aS} {s_Model_begin : aS} {s_Model_atom : aS} {s_Model_end : aS} {J : aJ} {K : aR} {n : Nat} {L : aL} {S : List Value} {M : aM} : am_run (c_Model_read s_Model_token s_Model_fail s_Model_opens s_Model_closes s_Model_begin s_Model_atom s_Model_end) k_Model_read J K (n + 1) 134 L S M = ai_isub 135 (am_run (c_Model_read s_Model_token s_Model_fail s_Model_opens s_Model_closes s_Model_begin s_Model_atom s_Model_end) k_Model_read J K n) K 134 L S M := by rfl
set_option maxRecDepth 20000 in
theorem r_Model_read_135 {s_Model_token : aS} {s_Model_fail : aS} {s_Model_opens : aS} {s_Model_closes : aS} {s_Model_begin : aS} {s_Model_atom : aS} {s_Model_end : aS} {J : aJ} {K : aR} {n : Nat} {L : aL} {S : List Value} {M : aM} : am_run (c_Model_read s_Model_token s_Model_fail s_Model_opens s_Model_closes s_Model_begin s_Model_atom s_Model_end) k_Model_read J K (n + 1) 135 L S M = ai_iald 136 (am_run (c_Model_read s_Model_token s_Model_fail s_Model_opens s_Model_closes s_Model_begin s_Model_atom s_Model_end) k_Model_read J K n) K 135 L S M := by rfl
set_option maxRecDepth 20000 in
theorem r_Model_read_136 {s_Model_token : aS} {s_Model_fail : aS} {s_Model_opens : aS} {s_Model_closes : aS} {s_Model_begin : aS} {s_Model_atom : aS} {s_Model_end : aS} {J : aJ} {K : aR} {n : Nat} {L : aL} {S : List Value} {M : aM} : am_run (c_Model_read s_Model_token s_Model_fail s_Model_opens s_Model_closes s_Model_begin s_Model_atom s_Model_end) k_Model_read J K (n + 1) 136 L S M = ai_const 1 137 (am_run (c_Model_read s_Model_token s_Model_fail s_Model_opens s_Model_closes s_Model_begin s_Model_atom s_Model_end) k_Model_read J K n) K 136 L S M := by rfl
set_option maxRecDepth 20000 in
theorem r_Model_read_137 {s_Model_token : aS} {s_Model_fail : aS} {s_Model_opens : aS} {s_Model_closes : aS} {s_Model_begin : aS} {s_Model_atom : aS} {s_Model_end : aS} {J : aJ} {K : aR} {n : Nat} {L : aL} {S : List Value} {M : aM} : am_run (c_Model_read s_Model_token s_Model_fail s_Model_opens s_Model_closes s_Model_begin s_Model_atom s_Model_end) k_Model_read J K (n + 1) 137 L S M = ai_cmpne 155 140 (am_run (c_Model_read s_Model_token s_Model_fail s_Model_opens s_Model_closes s_Model_begin s_Model_atom s_Model_end) k_Model_read J K n) K 137 L S M := by rfl
set_option maxRecDepth 20000 in
theorem r_Model_read_140 {s_Model_token : aS} {s_Model_fail : aS} {s_Model_opens : aS} {s_Model_closes : aS} {s_Model_begin : aS} {s_Model_atom : aS} {s_Model_end : aS} {J : aJ} {K : aR} {n : Nat} {L : aL} {S : List Value} {M : aM} : am_run (c_Model_read s_Model_token s_Model_fail s_Model_opens s_Model_closes s_Model_begin s_Model_atom s_Model_end) k_Model_read J K (n + 1) 140 L S M = ai_aload 0 141 (am_run (c_Model_read s_Model_token s_Model_fail s_Model_opens s_Model_closes s_Model_begin s_Model_atom s_Model_end) k_Model_read J K n) K 140 L S M := by rfl
set_option maxRecDepth 20000 in
theorem r_Model_read_141 {s_Model_token : aS} {s_Model_fail : aS} {s_Model_opens : aS} {s_Model_closes : aS} {s_Model_begin : aS} {s_Model_atom : aS} {s_Model_end : aS} {J : aJ} {K : aR} {n : Nat} {L : aL} {S : List Value} {M : aM} : am_run (c_Model_read s_Model_token s_Model_fail s_Model_opens s_Model_closes s_Model_begin s_Model_atom s_Model_end) k_Model_read J K (n + 1) 141 L S M = ai_getf 7 16 144 (am_run (c_Model_read s_Model_token s_Model_fail s_Model_opens s_Model_closes s_Model_begin s_Model_atom s_Model_end) k_Model_read J K n) K 141 L S M := by rfl
set_option maxRecDepth 20000 in
theorem r_Model_read_144 {s_Model_token : aS} {s_Model_fail : aS} {s_Model_opens : aS} {s_Model_closes : aS} {s_Model_begin : aS} {s_Model_atom : aS} {s_Model_end : aS} {J : aJ} {K : aR} {n : Nat} {L : aL} {S : List Value} {M : aM} : am_run (c_Model_read s_Model_token s_Model_fail s_Model_opens s_Model_closes s_Model_begin s_Model_atom s_Model_end) k_Model_read J K (n + 1) 144 L S M = ai_aload 0 145 (am_run (c_Model_read s_Model_token s_Model_fail s_Model_opens s_Model_closes s_Model_begin s_Model_atom s_Model_end) k_Model_read J K n) K 144 L S M := by rfl
set_option maxRecDepth 20000 in
theorem r_Model_read_145 {s_Model_token : aS} {s_Model_fail : aS} {s_Model_opens : aS} {s_Model_closes : aS} {s_Model_begin : aS} {s_Model_atom : aS} {s_Model_end : aS} {J : aJ} {K : aR} {n : Nat} {L : aL} {S : List Value} {M : aM} : am_run (c_Model_read s_Model_token s_Model_fail s_Model_opens s_Model_closes s_Model_begin s_Model_atom s_Model_end) k_Model_read J K (n + 1) 145 L S M = ai_getf 7 13 148 (am_run (c_Model_read s_Model_token s_Model_fail s_Model_opens s_Model_closes s_Model_begin s_Model_atom s_Model_end) k_Model_read J K n) K 145 L S M := by rfl
set_option maxRecDepth 20000 in
theorem r_Model_read_148 {s_Model_token : aS} {s_Model_fail : aS} {s_Model_opens : aS} {s_Model_closes : aS} {s_Model_begin : aS} {s_Model_atom : aS} {s_Model_end : aS} {J : aJ} {K : aR} {n : Nat} {L : aL} {S : List Value} {M : aM} : am_run (c_Model_read s_Model_token s_Model_fail s_Model_opens s_Model_closes s_Model_begin s_Model_atom s_Model_end) k_Model_read J K (n + 1) 148 L S M = ai_const 1 149 (am_run (c_Model_read s_Model_token s_Model_fail s_Model_opens s_Model_closes s_Model_begin s_Model_atom s_Model_end) k_Model_read J K n) K 148 L S M := by rfl
set_option maxRecDepth 20000 in
theorem r_Model_read_149 {s_Model_token : aS} {s_Model_fail : aS} {s_Model_opens : aS} {s_Model_closes : aS} {s_Model_begin : aS} {s_Model_atom : aS} {s_Model_end : aS} {J : aJ} {K : aR} {n : Nat} {L : aL} {S : List Value} {M : aM} : am_run (c_Model_read s_Model_token s_Model_fail s_Model_opens s_Model_closes s_Model_begin s_Model_atom s_Model_end) k_Model_read J K (n + 1) 149 L S M = ai_isub 150 (am_run (c_Model_read s_Model_token s_Model_fail s_Model_opens s_Model_closes s_Model_begin s_Model_atom s_Model_end) k_Model_read J K n) K 149 L S M := by rfl
set_option maxRecDepth 20000 in
theorem r_Model_read_150 {s_Model_token : aS} {s_Model_fail : aS} {s_Model_opens : aS} {s_Model_closes : aS} {s_Model_begin : aS} {s_Model_atom : aS} {s_Model_end : aS} {J : aJ} {K : aR} {n : Nat} {L : aL} {S : List Value} {M : aM} : am_run (c_Model_read s_Model_token s_Model_fail s_Model_opens s_Model_closes s_Model_begin s_Model_atom s_Model_end) k_Model_read J K (n + 1) 150 L S M = ai_const 2 151 (am_run (c_Model_read s_Model_token s_Model_fail s_Model_opens s_Model_closes s_Model_begin s_Model_atom s_Model_end) k_Model_read J K n) K 150 L S M := by rfl
set_option maxRecDepth 20000 in
theorem r_Model_read_151 {s_Model_token : aS} {s_Model_fail : aS} {s_Model_opens : aS} {s_Model_closes : aS} {s_Model_begin : aS} {s_Model_atom : aS} {s_Model_end : aS} {J : aJ} {K : aR} {n : Nat} {L : aL} {S : List Value} {M : aM} : am_run (c_Model_read s_Model_token s_Model_fail s_Model_opens s_Model_closes s_Model_begin s_Model_atom s_Model_end) k_Model_read J K (n + 1) 151 L S M = ai_iast 152 (am_run (c_Model_read s_Model_token s_Model_fail s_Model_opens s_Model_closes s_Model_begin s_Model_atom s_Model_end) k_Model_read J K n) K 151 L S M := by rfl
set_option maxRecDepth 20000 in
theorem r_Model_read_152 {s_Model_token : aS} {s_Model_fail : aS} {s_Model_opens : aS} {s_Model_closes : aS} {s_Model_begin : aS} {s_Model_atom : aS} {s_Model_end : aS} {J : aJ} {K : aR} {n : Nat} {L : aL} {S : List Value} {M : aM} : am_run (c_Model_read s_Model_token s_Model_fail s_Model_opens s_Model_closes s_Model_begin s_Model_atom s_Model_end) k_Model_read J K (n + 1) 152 L S M = ai_goto 198 (am_run (c_Model_read s_Model_token s_Model_fail s_Model_opens s_Model_closes s_Model_begin s_Model_atom s_Model_end) k_Model_read J K n) K 152 L S M := by rfl
set_option maxRecDepth 20000 in
theorem r_Model_read_155 {s_Model_token : aS} {s_Model_fail : aS} {s_Model_opens : aS} {s_Model_closes : aS} {s_Model_begin : aS} {s_Model_atom : aS} {s_Model_end : aS} {J : aJ} {K : aR} {n : Nat} {L : aL} {S : List Value} {M : aM} : am_run (c_Model_read s_Model_token s_Model_fail s_Model_opens s_Model_closes s_Model_begin s_Model_atom s_Model_end) k_Model_read J K (n + 1) 155 L S M = ai_iload 2 156 (am_run (c_Model_read s_Model_token s_Model_fail s_Model_opens s_Model_closes s_Model_begin s_Model_atom s_Model_end) k_Model_read J K n) K 155 L S M := by rfl
set_option maxRecDepth 20000 in
theorem r_Model_read_156 {s_Model_token : aS} {s_Model_fail : aS} {s_Model_opens : aS} {s_Model_closes : aS} {s_Model_begin : aS} {s_Model_atom : aS} {s_Model_end : aS} {J : aJ} {K : aR} {n : Nat} {L : aL} {S : List Value} {M : aM} : am_run (c_Model_read s_Model_token s_Model_fail s_Model_opens s_Model_closes s_Model_begin s_Model_atom s_Model_end) k_Model_read J K (n + 1) 156 L S M = ai_const 11 158 (am_run (c_Model_read s_Model_token s_Model_fail s_Model_opens s_Model_closes s_Model_begin s_Model_atom s_Model_end) k_Model_read J K n) K 156 L S M := by rfl
set_option maxRecDepth 20000 in
theorem r_Model_read_158 {s_Model_token : aS} {s_Model_fail : aS} {s_Model_opens : aS} {s_Model_closes : aS} {s_Model_begin : aS} {s_Model_atom : aS} {s_Model_end : aS} {J : aJ} {K : aR} {n : Nat} {L : aL} {S : List Value} {M : aM} : am_run (c_Model_read s_Model_token s_Model_fail s_Model_opens s_Model_closes s_Model_begin s_Model_atom s_Model_end) k_Model_read J K (n + 1) 158 L S M = ai_cmpeq 167 161 (am_run (c_Model_read s_Model_token s_Model_fail s_Model_opens s_Model_closes s_Model_begin s_Model_atom s_Model_end) k_Model_read J K n) K 158 L S M := by rfl
set_option maxRecDepth 20000 in
theorem r_Model_read_161 {s_Model_token : aS} {s_Model_fail : aS} {s_Model_opens : aS} {s_Model_closes : aS} {s_Model_begin : aS} {s_Model_atom : aS} {s_Model_end : aS} {J : aJ} {K : aR} {n : Nat} {L : aL} {S : List Value} {M : aM} : am_run (c_Model_read s_Model_token s_Model_fail s_Model_opens s_Model_closes s_Model_begin s_Model_atom s_Model_end) k_Model_read J K (n + 1) 161 L S M = ai_iload 2 162 (am_run (c_Model_read s_Model_token s_Model_fail s_Model_opens s_Model_closes s_Model_begin s_Model_atom s_Model_end) k_Model_read J K n) K 161 L S M := by rfl
set_option maxRecDepth 20000 in
theorem r_Model_read_162 {s_Model_token : aS} {s_Model_fail : aS} {s_Model_opens : aS} {s_Model_closes : aS} {s_Model_begin : aS} {s_Model_atom : aS} {s_Model_end : aS} {J : aJ} {K : aR} {n : Nat} {L : aL} {S : List Value} {M : aM} : am_run (c_Model_read s_Model_token s_Model_fail s_Model_opens s_Model_closes s_Model_begin s_Model_atom s_Model_end) k_Model_read J K (n + 1) 162 L S M = ai_const 15 164 (am_run (c_Model_read s_Model_token s_Model_fail s_Model_opens s_Model_closes s_Model_begin s_Model_atom s_Model_end) k_Model_read J K n) K 162 L S M := by rfl
set_option maxRecDepth 20000 in
theorem r_Model_read_164 {s_Model_token : aS} {s_Model_fail : aS} {s_Model_opens : aS} {s_Model_closes : aS} {s_Model_begin : aS} {s_Model_atom : aS} {s_Model_end : aS} {J : aJ} {K : aR} {n : Nat} {L : aL} {S : List Value} {M : aM} : am_run (c_Model_read s_Model_token s_Model_fail s_Model_opens s_Model_closes s_Model_begin s_Model_atom s_Model_end) k_Model_read J K (n + 1) 164 L S M = ai_cmpne 178 167 (am_run (c_Model_read s_Model_token s_Model_fail s_Model_opens s_Model_closes s_Model_begin s_Model_atom s_Model_end) k_Model_read J K n) K 164 L S M := by rfl
set_option maxRecDepth 20000 in
theorem r_Model_read_167 {s_Model_token : aS} {s_Model_fail : aS} {s_Model_opens : aS} {s_Model_closes : aS} {s_Model_begin : aS} {s_Model_atom : aS} {s_Model_end : aS} {J : aJ} {K : aR} {n : Nat} {L : aL} {S : List Value} {M : aM} : am_run (c_Model_read s_Model_token s_Model_fail s_Model_opens s_Model_closes s_Model_begin s_Model_atom s_Model_end) k_Model_read J K (n + 1) 167 L S M = ai_aload 0 168 (am_run (c_Model_read s_Model_token s_Model_fail s_Model_opens s_Model_closes s_Model_begin s_Model_atom s_Model_end) k_Model_read J K n) K 167 L S M := by rfl
set_option maxRecDepth 20000 in
theorem r_Model_read_168 {s_Model_token : aS} {s_Model_fail : aS} {s_Model_opens : aS} {s_Model_closes : aS} {s_Model_begin : aS} {s_Model_atom : aS} {s_Model_end : aS} {J : aJ} {K : aR} {n : Nat} {L : aL} {S : List Value} {M : aM} : am_run (c_Model_read s_Model_token s_Model_fail s_Model_opens s_Model_closes s_Model_begin s_Model_atom s_Model_end) k_Model_read J K (n + 1) 168 L S M = ai_aload 0 169 (am_run (c_Model_read s_Model_token s_Model_fail s_Model_opens s_Model_closes s_Model_begin s_Model_atom s_Model_end) k_Model_read J K n) K 168 L S M := by rfl
set_option maxRecDepth 20000 in
theorem r_Model_read_169 {s_Model_token : aS} {s_Model_fail : aS} {s_Model_opens : aS} {s_Model_closes : aS} {s_Model_begin : aS} {s_Model_atom : aS} {s_Model_end : aS} {J : aJ} {K : aR} {n : Nat} {L : aL} {S : List Value} {M : aM} : am_run (c_Model_read s_Model_token s_Model_fail s_Model_opens s_Model_closes s_Model_begin s_Model_atom s_Model_end) k_Model_read J K (n + 1) 169 L S M = ai_getf 7 3 172 (am_run (c_Model_read s_Model_token s_Model_fail s_Model_opens s_Model_closes s_Model_begin s_Model_atom s_Model_end) k_Model_read J K n) K 169 L S M := by rfl
set_option maxRecDepth 20000 in
theorem r_Model_read_172 {s_Model_token : aS} {s_Model_fail : aS} {s_Model_opens : aS} {s_Model_closes : aS} {s_Model_begin : aS} {s_Model_atom : aS} {s_Model_end : aS} {J : aJ} {K : aR} {n : Nat} {L : aL} {S : List Value} {M : aM} : am_run (c_Model_read s_Model_token s_Model_fail s_Model_opens s_Model_closes s_Model_begin s_Model_atom s_Model_end) k_Model_read J K (n + 1) 172 L S M = ai_callv2 7 s_Model_fail 175 (am_run (c_Model_read s_Model_token s_Model_fail s_Model_opens s_Model_closes s_Model_begin s_Model_atom s_Model_end) k_Model_read J K n) K 172 L S M := by rfl
set_option maxRecDepth 20000 in
theorem r_Model_read_175 {s_Model_token : aS} {s_Model_fail : aS} {s_Model_opens : aS} {s_Model_closes : aS} {s_Model_begin : aS} {s_Model_atom : aS} {s_Model_end : aS} {J : aJ} {K : aR} {n : Nat} {L : aL} {S : List Value} {M : aM} : am_run (c_Model_read s_Model_token s_Model_fail s_Model_opens s_Model_closes s_Model_begin s_Model_atom s_Model_end) k_Model_read J K (n + 1) 175 L S M = ai_goto 198 (am_run (c_Model_read s_Model_token s_Model_fail s_Model_opens s_Model_closes s_Model_begin s_Model_atom s_Model_end) k_Model_read J K n) K 175 L S M := by rfl
set_option maxRecDepth 20000 in
theorem r_Model_read_178 {s_Model_token : aS} {s_Model_fail : aS} {s_Model_opens : aS} {s_Model_closes : aS} {s_Model_begin : aS} {s_Model_atom : aS} {s_Model_end : aS} {J : aJ} {K : aR} {n : Nat} {L : aL} {S : List Value} {M : aM} : am_run (c_Model_read s_Model_token s_Model_fail s_Model_opens s_Model_closes s_Model_begin s_Model_atom s_Model_end) k_Model_read J K (n + 1) 178 L S M = ai_aload 0 179 (am_run (c_Model_read s_Model_token s_Model_fail s_Model_opens s_Model_closes s_Model_begin s_Model_atom s_Model_end) k_Model_read J K n) K 178 L S M := by rfl
set_option maxRecDepth 20000 in
theorem r_Model_read_179 {s_Model_token : aS} {s_Model_fail : aS} {s_Model_opens : aS} {s_Model_closes : aS} {s_Model_begin : aS} {s_Model_atom : aS} {s_Model_end : aS} {J : aJ} {K : aR} {n : Nat} {L : aL} {S : List Value} {M : aM} : am_run (c_Model_read s_Model_token s_Model_fail s_Model_opens s_Model_closes s_Model_begin s_Model_atom s_Model_end) k_Model_read J K (n + 1) 179 L S M = ai_callv1 7 s_Model_begin 182 (am_run (c_Model_read s_Model_token s_Model_fail s_Model_opens s_Model_closes s_Model_begin s_Model_atom s_Model_end) k_Model_read J K n) K 179 L S M := by rfl
set_option maxRecDepth 20000 in
theorem r_Model_read_182 {s_Model_token : aS} {s_Model_fail : aS} {s_Model_opens : aS} {s_Model_closes : aS} {s_Model_begin : aS} {s_Model_atom : aS} {s_Model_end : aS} {J : aJ} {K : aR} {n : Nat} {L : aL} {S : List Value} {M : aM} : am_run (c_Model_read s_Model_token s_Model_fail s_Model_opens s_Model_closes s_Model_begin s_Model_atom s_Model_end) k_Model_read J K (n + 1) 182 L S M = ai_aload 0 183 (am_run (c_Model_read s_Model_token s_Model_fail s_Model_opens s_Model_closes s_Model_begin s_Model_atom s_Model_end) k_Model_read J K n) K 182 L S M := by rfl
set_option maxRecDepth 20000 in
theorem r_Model_read_183 {s_Model_token : aS} {s_Model_fail : aS} {s_Model_opens : aS} {s_Model_closes : aS} {s_Model_begin : aS} {s_Model_atom : aS} {s_Model_end : aS} {J : aJ} {K : aR} {n : Nat} {L : aL} {S : List Value} {M : aM} : am_run (c_Model_read s_Model_token s_Model_fail s_Model_opens s_Model_closes s_Model_begin s_Model_atom s_Model_end) k_Model_read J K (n + 1) 183 L S M = ai_getf 7 4 186 (am_run (c_Model_read s_Model_token s_Model_fail s_Model_opens s_Model_closes s_Model_begin s_Model_atom s_Model_end) k_Model_read J K n) K 183 L S M := by rfl
set_option maxRecDepth 20000 in
theorem r_Model_read_186 {s_Model_token : aS} {s_Model_fail : aS} {s_Model_opens : aS} {s_Model_closes : aS} {s_Model_begin : aS} {s_Model_atom : aS} {s_Model_end : aS} {J : aJ} {K : aR} {n : Nat} {L : aL} {S : List Value} {M : aM} : am_run (c_Model_read s_Model_token s_Model_fail s_Model_opens s_Model_closes s_Model_begin s_Model_atom s_Model_end) k_Model_read J K (n + 1) 186 L S M = ai_ifge 198 189 (am_run (c_Model_read s_Model_token s_Model_fail s_Model_opens s_Model_closes s_Model_begin s_Model_atom s_Model_end) k_Model_read J K n) K 186 L S M := by rfl
set_option maxRecDepth 20000 in
theorem r_Model_read_189 {s_Model_token : aS} {s_Model_fail : aS} {s_Model_opens : aS} {s_Model_closes : aS} {s_Model_begin : aS} {s_Model_atom : aS} {s_Model_end : aS} {J : aJ} {K : aR} {n : Nat} {L : aL} {S : List Value} {M : aM} : am_run (c_Model_read s_Model_token s_Model_fail s_Model_opens s_Model_closes s_Model_begin s_Model_atom s_Model_end) k_Model_read J K (n + 1) 189 L S M = ai_aload 0 190 (am_run (c_Model_read s_Model_token s_Model_fail s_Model_opens s_Model_closes s_Model_begin s_Model_atom s_Model_end) k_Model_read J K n) K 189 L S M := by rfl
set_option maxRecDepth 20000 in
theorem r_Model_read_190 {s_Model_token : aS} {s_Model_fail : aS} {s_Model_opens : aS} {s_Model_closes : aS} {s_Model_begin : aS} {s_Model_atom : aS} {s_Model_end : aS} {J : aJ} {K : aR} {n : Nat} {L : aL} {S : List Value} {M : aM} : am_run (c_Model_read s_Model_token s_Model_fail s_Model_opens s_Model_closes s_Model_begin s_Model_atom s_Model_end) k_Model_read J K (n + 1) 190 L S M = ai_aload 0 191 (am_run (c_Model_read s_Model_token s_Model_fail s_Model_opens s_Model_closes s_Model_begin s_Model_atom s_Model_end) k_Model_read J K n) K 190 L S M := by rfl
set_option maxRecDepth 20000 in
theorem r_Model_read_191 {s_Model_token : aS} {s_Model_fail : aS} {s_Model_opens : aS} {s_Model_closes : aS} {s_Model_begin : aS} {s_Model_atom : aS} {s_Model_end : aS} {J : aJ} {K : aR} {n : Nat} {L : aL} {S : List Value} {M : aM} : am_run (c_Model_read s_Model_token s_Model_fail s_Model_opens s_Model_closes s_Model_begin s_Model_atom s_Model_end) k_Model_read J K (n + 1) 191 L S M = ai_iload 2 192 (am_run (c_Model_read s_Model_token s_Model_fail s_Model_opens s_Model_closes s_Model_begin s_Model_atom s_Model_end) k_Model_read J K n) K 191 L S M := by rfl
set_option maxRecDepth 20000 in
theorem r_Model_read_192 {s_Model_token : aS} {s_Model_fail : aS} {s_Model_opens : aS} {s_Model_closes : aS} {s_Model_begin : aS} {s_Model_atom : aS} {s_Model_end : aS} {J : aJ} {K : aR} {n : Nat} {L : aL} {S : List Value} {M : aM} : am_run (c_Model_read s_Model_token s_Model_fail s_Model_opens s_Model_closes s_Model_begin s_Model_atom s_Model_end) k_Model_read J K (n + 1) 192 L S M = ai_callv2 7 s_Model_atom 195 (am_run (c_Model_read s_Model_token s_Model_fail s_Model_opens s_Model_closes s_Model_begin s_Model_atom s_Model_end) k_Model_read J K n) K 192 L S M := by rfl
set_option maxRecDepth 20000 in
theorem r_Model_read_195 {s_Model_token : aS} {s_Model_fail : aS} {s_Model_opens : aS} {s_Model_closes : aS} {s_Model_begin : aS} {s_Model_atom : aS} {s_Model_end : aS} {J : aJ} {K : aR} {n : Nat} {L : aL} {S : List Value} {M : aM} : am_run (c_Model_read s_Model_token s_Model_fail s_Model_opens s_Model_closes s_Model_begin s_Model_atom s_Model_end) k_Model_read J K (n + 1) 195 L S M = ai_callv2 7 s_Model_end 198 (am_run (c_Model_read s_Model_token s_Model_fail s_Model_opens s_Model_closes s_Model_begin s_Model_atom s_Model_end) k_Model_read J K n) K 195 L S M := by rfl
set_option maxRecDepth 20000 in
theorem r_Model_read_198 {s_Model_token : aS} {s_Model_fail : aS} {s_Model_opens : aS} {s_Model_closes : aS} {s_Model_begin : aS} {s_Model_atom : aS} {s_Model_end : aS} {J : aJ} {K : aR} {n : Nat} {L : aL} {S : List Value} {M : aM} : am_run (c_Model_read s_Model_token s_Model_fail s_Model_opens s_Model_closes s_Model_begin s_Model_atom s_Model_end) k_Model_read J K (n + 1) 198 L S M = ai_goto 27 (am_run (c_Model_read s_Model_token s_Model_fail s_Model_opens s_Model_closes s_Model_begin s_Model_atom s_Model_end) k_Model_read J K n) K 198 L S M := by rfl
set_option maxRecDepth 20000 in
theorem r_Model_read_201 {s_Model_token : aS} {s_Model_fail : aS} {s_Model_opens : aS} {s_Model_closes : aS} {s_Model_begin : aS} {s_Model_atom : aS} {s_Model_end : aS} {J : aJ} {K : aR} {n : Nat} {L : aL} {S : List Value} {M : aM} : am_run (c_Model_read s_Model_token s_Model_fail s_Model_opens s_Model_closes s_Model_begin s_Model_atom s_Model_end) k_Model_read J K (n + 1) 201 L S M = ai_aload 0 202 (am_run (c_Model_read s_Model_token s_Model_fail s_Model_opens s_Model_closes s_Model_begin s_Model_atom s_Model_end) k_Model_read J K n) K 201 L S M := by rfl
set_option maxRecDepth 20000 in
theorem r_Model_read_202 {s_Model_token : aS} {s_Model_fail : aS} {s_Model_opens : aS} {s_Model_closes : aS} {s_Model_begin : aS} {s_Model_atom : aS} {s_Model_end : aS} {J : aJ} {K : aR} {n : Nat} {L : aL} {S : List Value} {M : aM} : am_run (c_Model_read s_Model_token s_Model_fail s_Model_opens s_Model_closes s_Model_begin s_Model_atom s_Model_end) k_Model_read J K (n + 1) 202 L S M = ai_const 0 203 (am_run (c_Model_read s_Model_token s_Model_fail s_Model_opens s_Model_closes s_Model_begin s_Model_atom s_Model_end) k_Model_read J K n) K 202 L S M := by rfl
set_option maxRecDepth 20000 in
theorem r_Model_read_203 {s_Model_token : aS} {s_Model_fail : aS} {s_Model_opens : aS} {s_Model_closes : aS} {s_Model_begin : aS} {s_Model_atom : aS} {s_Model_end : aS} {J : aJ} {K : aR} {n : Nat} {L : aL} {S : List Value} {M : aM} : am_run (c_Model_read s_Model_token s_Model_fail s_Model_opens s_Model_closes s_Model_begin s_Model_atom s_Model_end) k_Model_read J K (n + 1) 203 L S M = ai_putf 7 1 206 (am_run (c_Model_read s_Model_token s_Model_fail s_Model_opens s_Model_closes s_Model_begin s_Model_atom s_Model_end) k_Model_read J K n) K 203 L S M := by rfl
set_option maxRecDepth 20000 in
theorem r_Model_read_206 {s_Model_token : aS} {s_Model_fail : aS} {s_Model_opens : aS} {s_Model_closes : aS} {s_Model_begin : aS} {s_Model_atom : aS} {s_Model_end : aS} {J : aJ} {K : aR} {n : Nat} {L : aL} {S : List Value} {M : aM} : am_run (c_Model_read s_Model_token s_Model_fail s_Model_opens s_Model_closes s_Model_begin s_Model_atom s_Model_end) k_Model_read J K (n + 1) 206 L S M = ai_aload 0 207 (am_run (c_Model_read s_Model_token s_Model_fail s_Model_opens s_Model_closes s_Model_begin s_Model_atom s_Model_end) k_Model_read J K n) K 206 L S M := by rfl
set_option maxRecDepth 20000 in
theorem r_Model_read_207 {s_Model_token : aS} {s_Model_fail : aS} {s_Model_opens : aS} {s_Model_closes : aS} {s_Model_begin : aS} {s_Model_atom : aS} {s_Model_end : aS} {J : aJ} {K : aR} {n : Nat} {L : aL} {S : List Value} {M : aM} : am_run (c_Model_read s_Model_token s_Model_fail s_Model_opens s_Model_closes s_Model_begin s_Model_atom s_Model_end) k_Model_read J K (n + 1) 207 L S M = ai_aload 0 208 (am_run (c_Model_read s_Model_token s_Model_fail s_Model_opens s_Model_closes s_Model_begin s_Model_atom s_Model_end) k_Model_read J K n) K 207 L S M := by rfl
set_option maxRecDepth 20000 in
theorem r_Model_read_208 {s_Model_token : aS} {s_Model_fail : aS} {s_Model_opens : aS} {s_Model_closes : aS} {s_Model_begin : aS} {s_Model_atom : aS} {s_Model_end : aS} {J : aJ} {K : aR} {n : Nat} {L : aL} {S : List Value} {M : aM} : am_run (c_Model_read s_Model_token s_Model_fail s_Model_opens s_Model_closes s_Model_begin s_Model_atom s_Model_end) k_Model_read J K (n + 1) 208 L S M = ai_getf 7 4 211 (am_run (c_Model_read s_Model_token s_Model_fail s_Model_opens s_Model_closes s_Model_begin s_Model_atom s_Model_end) k_Model_read J K n) K 208 L S M := by rfl
set_option maxRecDepth 20000 in
theorem r_Model_read_211 {s_Model_token : aS} {s_Model_fail : aS} {s_Model_opens : aS} {s_Model_closes : aS} {s_Model_begin : aS} {s_Model_atom : aS} {s_Model_end : aS} {J : aJ} {K : aR} {n : Nat} {L : aL} {S : List Value} {M : aM} : am_run (c_Model_read s_Model_token s_Model_fail s_Model_opens s_Model_closes s_Model_begin s_Model_atom s_Model_end) k_Model_read J K (n + 1) 211 L S M = ai_ifge 221 214 (am_run (c_Model_read s_Model_token s_Model_fail s_Model_opens s_Model_closes s_Model_begin s_Model_atom s_Model_end) k_Model_read J K n) K 211 L S M := by rfl
set_option maxRecDepth 20000 in
theorem r_Model_read_214 {s_Model_token : aS} {s_Model_fail : aS} {s_Model_opens : aS} {s_Model_closes : aS} {s_Model_begin : aS} {s_Model_atom : aS} {s_Model_end : aS} {J : aJ} {K : aR} {n : Nat} {L : aL} {S : List Value} {M : aM} : am_run (c_Model_read s_Model_token s_Model_fail s_Model_opens s_Model_closes s_Model_begin s_Model_atom s_Model_end) k_Model_read J K (n + 1) 214 L S M = ai_aload 0 215 (am_run (c_Model_read s_Model_token s_Model_fail s_Model_opens s_Model_closes s_Model_begin s_Model_atom s_Model_end) k_Model_read J K n) K 214 L S M := by rfl
set_option maxRecDepth 20000 in
theorem r_Model_read_215 {s_Model_token : aS} {s_Model_fail : aS} {s_Model_opens : aS} {s_Model_closes : aS} {s_Model_begin : aS} {s_Model_atom : aS} {s_Model_end : aS} {J : aJ} {K : aR} {n : Nat} {L : aL} {S : List Value} {M : aM} : am_run (c_Model_read s_Model_token s_Model_fail s_Model_opens s_Model_closes s_Model_begin s_Model_atom s_Model_end) k_Model_read J K (n + 1) 215 L S M = ai_getf 7 5 218 (am_run (c_Model_read s_Model_token s_Model_fail s_Model_opens s_Model_closes s_Model_begin s_Model_atom s_Model_end) k_Model_read J K n) K 215 L S M := by rfl
set_option maxRecDepth 20000 in
theorem r_Model_read_218 {s_Model_token : aS} {s_Model_fail : aS} {s_Model_opens : aS} {s_Model_closes : aS} {s_Model_begin : aS} {s_Model_atom : aS} {s_Model_end : aS} {J : aJ} {K : aR} {n : Nat} {L : aL} {S : List Value} {M : aM} : am_run (c_Model_read s_Model_token s_Model_fail s_Model_opens s_Model_closes s_Model_begin s_Model_atom s_Model_end) k_Model_read J K (n + 1) 218 L S M = ai_goto 222 (am_run (c_Model_read s_Model_token s_Model_fail s_Model_opens s_Model_closes s_Model_begin s_Model_atom s_Model_end) k_Model_read J K n) K 218 L S M := by rfl
set_option maxRecDepth 20000 in
theorem r_Model_read_221 {s_Model_token : aS} {s_Model_fail : aS} {s_Model_opens : aS} {s_Model_closes : aS} {s_Model_begin : aS} {s_Model_atom : aS} {s_Model_end : aS} {J : aJ} {K : aR} {n : Nat} {L : aL} {S : List Value} {M : aM} : am_run (c_Model_read s_Model_token s_Model_fail s_Model_opens s_Model_closes s_Model_begin s_Model_atom s_Model_end) k_Model_read J K (n + 1) 221 L S M = ai_const 0 222 (am_run (c_Model_read s_Model_token s_Model_fail s_Model_opens s_Model_closes s_Model_begin s_Model_atom s_Model_end) k_Model_read J K n) K 221 L S M := by rfl
set_option maxRecDepth 20000 in
theorem r_Model_read_222 {s_Model_token : aS} {s_Model_fail : aS} {s_Model_opens : aS} {s_Model_closes : aS} {s_Model_begin : aS} {s_Model_atom : aS} {s_Model_end : aS} {J : aJ} {K : aR} {n : Nat} {L : aL} {S : List Value} {M : aM} : am_run (c_Model_read s_Model_token s_Model_fail s_Model_opens s_Model_closes s_Model_begin s_Model_atom s_Model_end) k_Model_read J K (n + 1) 222 L S M = ai_putf 7 5 225 (am_run (c_Model_read s_Model_token s_Model_fail s_Model_opens s_Model_closes s_Model_begin s_Model_atom s_Model_end) k_Model_read J K n) K 222 L S M := by rfl
set_option maxRecDepth 20000 in
theorem r_Model_read_225 {s_Model_token : aS} {s_Model_fail : aS} {s_Model_opens : aS} {s_Model_closes : aS} {s_Model_begin : aS} {s_Model_atom : aS} {s_Model_end : aS} {J : aJ} {K : aR} {n : Nat} {L : aL} {S : List Value} {M : aM} : am_run (c_Model_read s_Model_token s_Model_fail s_Model_opens s_Model_closes s_Model_begin s_Model_atom s_Model_end) k_Model_read J K (n + 1) 225 L S M = ai_aload 0 226 (am_run (c_Model_read s_Model_token s_Model_fail s_Model_opens s_Model_closes s_Model_begin s_Model_atom s_Model_end) k_Model_read J K n) K 225 L S M := by rfl
set_option maxRecDepth 20000 in
theorem r_Model_read_226 {s_Model_token : aS} {s_Model_fail : aS} {s_Model_opens : aS} {s_Model_closes : aS} {s_Model_begin : aS} {s_Model_atom : aS} {s_Model_end : aS} {J : aJ} {K : aR} {n : Nat} {L : aL} {S : List Value} {M : aM} : am_run (c_Model_read s_Model_token s_Model_fail s_Model_opens s_Model_closes s_Model_begin s_Model_atom s_Model_end) k_Model_read J K (n + 1) 226 L S M = ai_aload 0 227 (am_run (c_Model_read s_Model_token s_Model_fail s_Model_opens s_Model_closes s_Model_begin s_Model_atom s_Model_end) k_Model_read J K n) K 226 L S M := by rfl
set_option maxRecDepth 20000 in
theorem r_Model_read_227 {s_Model_token : aS} {s_Model_fail : aS} {s_Model_opens : aS} {s_Model_closes : aS} {s_Model_begin : aS} {s_Model_atom : aS} {s_Model_end : aS} {J : aJ} {K : aR} {n : Nat} {L : aL} {S : List Value} {M : aM} : am_run (c_Model_read s_Model_token s_Model_fail s_Model_opens s_Model_closes s_Model_begin s_Model_atom s_Model_end) k_Model_read J K (n + 1) 227 L S M = ai_getf 7 4 230 (am_run (c_Model_read s_Model_token s_Model_fail s_Model_opens s_Model_closes s_Model_begin s_Model_atom s_Model_end) k_Model_read J K n) K 227 L S M := by rfl
set_option maxRecDepth 20000 in
theorem r_Model_read_230 {s_Model_token : aS} {s_Model_fail : aS} {s_Model_opens : aS} {s_Model_closes : aS} {s_Model_begin : aS} {s_Model_atom : aS} {s_Model_end : aS} {J : aJ} {K : aR} {n : Nat} {L : aL} {S : List Value} {M : aM} : am_run (c_Model_read s_Model_token s_Model_fail s_Model_opens s_Model_closes s_Model_begin s_Model_atom s_Model_end) k_Model_read J K (n + 1) 230 L S M = ai_ifge 240 233 (am_run (c_Model_read s_Model_token s_Model_fail s_Model_opens s_Model_closes s_Model_begin s_Model_atom s_Model_end) k_Model_read J K n) K 230 L S M := by rfl
set_option maxRecDepth 20000 in
theorem r_Model_read_233 {s_Model_token : aS} {s_Model_fail : aS} {s_Model_opens : aS} {s_Model_closes : aS} {s_Model_begin : aS} {s_Model_atom : aS} {s_Model_end : aS} {J : aJ} {K : aR} {n : Nat} {L : aL} {S : List Value} {M : aM} : am_run (c_Model_read s_Model_token s_Model_fail s_Model_opens s_Model_closes s_Model_begin s_Model_atom s_Model_end) k_Model_read J K (n + 1) 233 L S M = ai_aload 0 234 (am_run (c_Model_read s_Model_token s_Model_fail s_Model_opens s_Model_closes s_Model_begin s_Model_atom s_Model_end) k_Model_read J K n) K 233 L S M := by rfl
set_option maxRecDepth 20000 in
theorem r_Model_read_234 {s_Model_token : aS} {s_Model_fail : aS} {s_Model_opens : aS} {s_Model_closes : aS} {s_Model_begin : aS} {s_Model_atom : aS} {s_Model_end : aS} {J : aJ} {K : aR} {n : Nat} {L : aL} {S : List Value} {M : aM} : am_run (c_Model_read s_Model_token s_Model_fail s_Model_opens s_Model_closes s_Model_begin s_Model_atom s_Model_end) k_Model_read J K (n + 1) 234 L S M = ai_getf 7 11 237 (am_run (c_Model_read s_Model_token s_Model_fail s_Model_opens s_Model_closes s_Model_begin s_Model_atom s_Model_end) k_Model_read J K n) K 234 L S M := by rfl
set_option maxRecDepth 20000 in
theorem r_Model_read_237 {s_Model_token : aS} {s_Model_fail : aS} {s_Model_opens : aS} {s_Model_closes : aS} {s_Model_begin : aS} {s_Model_atom : aS} {s_Model_end : aS} {J : aJ} {K : aR} {n : Nat} {L : aL} {S : List Value} {M : aM} : am_run (c_Model_read s_Model_token s_Model_fail s_Model_opens s_Model_closes s_Model_begin s_Model_atom s_Model_end) k_Model_read J K (n + 1) 237 L S M = ai_goto 241 (am_run (c_Model_read s_Model_token s_Model_fail s_Model_opens s_Model_closes s_Model_begin s_Model_atom s_Model_end) k_Model_read J K n) K 237 L S M := by rfl
set_option maxRecDepth 20000 in
theorem r_Model_read_240 {s_Model_token : aS} {s_Model_fail : aS} {s_Model_opens : aS} {s_Model_closes : aS} {s_Model_begin : aS} {s_Model_atom : aS} {s_Model_end : aS} {J : aJ} {K : aR} {n : Nat} {L : aL} {S : List Value} {M : aM} : am_run (c_Model_read s_Model_token s_Model_fail s_Model_opens s_Model_closes s_Model_begin s_Model_atom s_Model_end) k_Model_read J K (n + 1) 240 L S M = ai_const 0 241 (am_run (c_Model_read s_Model_token s_Model_fail s_Model_opens s_Model_closes s_Model_begin s_Model_atom s_Model_end) k_Model_read J K n) K 240 L S M := by rfl
set_option maxRecDepth 20000 in
theorem r_Model_read_241 {s_Model_token : aS} {s_Model_fail : aS} {s_Model_opens : aS} {s_Model_closes : aS} {s_Model_begin : aS} {s_Model_atom : aS} {s_Model_end : aS} {J : aJ} {K : aR} {n : Nat} {L : aL} {S : List Value} {M : aM} : am_run (c_Model_read s_Model_token s_Model_fail s_Model_opens s_Model_closes s_Model_begin s_Model_atom s_Model_end) k_Model_read J K (n + 1) 241 L S M = ai_putf 7 11 244 (am_run (c_Model_read s_Model_token s_Model_fail s_Model_opens s_Model_closes s_Model_begin s_Model_atom s_Model_end) k_Model_read J K n) K 241 L S M := by rfl
set_option maxRecDepth 20000 in
theorem r_Model_read_244 {s_Model_token : aS} {s_Model_fail : aS} {s_Model_opens : aS} {s_Model_closes : aS} {s_Model_begin : aS} {s_Model_atom : aS} {s_Model_end : aS} {J : aJ} {K : aR} {n : Nat} {L : aL} {S : List Value} {M : aM} : am_run (c_Model_read s_Model_token s_Model_fail s_Model_opens s_Model_closes s_Model_begin s_Model_atom s_Model_end) k_Model_read J K (n + 1) 244 L S M = ai_aload 0 245 (am_run (c_Model_read s_Model_token s_Model_fail s_Model_opens s_Model_closes s_Model_begin s_Model_atom s_Model_end) k_Model_read J K n) K 244 L S M := by rfl
set_option maxRecDepth 20000 in
theorem r_Model_read_245 {s_Model_token : aS} {s_Model_fail : aS} {s_Model_opens : aS} {s_Model_closes : aS} {s_Model_begin : aS} {s_Model_atom : aS} {s_Model_end : aS} {J : aJ} {K : aR} {n : Nat} {L : aL} {S : List Value} {M : aM} : am_run (c_Model_read s_Model_token s_Model_fail s_Model_opens s_Model_closes s_Model_begin s_Model_atom s_Model_end) k_Model_read J K (n + 1) 245 L S M = ai_getf 7 4 248 (am_run (c_Model_read s_Model_token s_Model_fail s_Model_opens s_Model_closes s_Model_begin s_Model_atom s_Model_end) k_Model_read J K n) K 245 L S M := by rfl
set_option maxRecDepth 20000 in
theorem r_Model_read_248 {s_Model_token : aS} {s_Model_fail : aS} {s_Model_opens : aS} {s_Model_closes : aS} {s_Model_begin : aS} {s_Model_atom : aS} {s_Model_end : aS} {J : aJ} {K : aR} {n : Nat} {L : aL} {S : List Value} {M : aM} : am_run (c_Model_read s_Model_token s_Model_fail s_Model_opens s_Model_closes s_Model_begin s_Model_atom s_Model_end) k_Model_read J K (n + 1) 248 L S M = ai_ifge 258 251 (am_run (c_Model_read s_Model_token s_Model_fail s_Model_opens s_Model_closes s_Model_begin s_Model_atom s_Model_end) k_Model_read J K n) K 248 L S M := by rfl
set_option maxRecDepth 20000 in
theorem r_Model_read_251 {s_Model_token : aS} {s_Model_fail : aS} {s_Model_opens : aS} {s_Model_closes : aS} {s_Model_begin : aS} {s_Model_atom : aS} {s_Model_end : aS} {J : aJ} {K : aR} {n : Nat} {L : aL} {S : List Value} {M : aM} : am_run (c_Model_read s_Model_token s_Model_fail s_Model_opens s_Model_closes s_Model_begin s_Model_atom s_Model_end) k_Model_read J K (n + 1) 251 L S M = ai_aload 0 252 (am_run (c_Model_read s_Model_token s_Model_fail s_Model_opens s_Model_closes s_Model_begin s_Model_atom s_Model_end) k_Model_read J K n) K 251 L S M := by rfl
set_option maxRecDepth 20000 in
theorem r_Model_read_252 {s_Model_token : aS} {s_Model_fail : aS} {s_Model_opens : aS} {s_Model_closes : aS} {s_Model_begin : aS} {s_Model_atom : aS} {s_Model_end : aS} {J : aJ} {K : aR} {n : Nat} {L : aL} {S : List Value} {M : aM} : am_run (c_Model_read s_Model_token s_Model_fail s_Model_opens s_Model_closes s_Model_begin s_Model_atom s_Model_end) k_Model_read J K (n + 1) 252 L S M = ai_getf 7 11 255 (am_run (c_Model_read s_Model_token s_Model_fail s_Model_opens s_Model_closes s_Model_begin s_Model_atom s_Model_end) k_Model_read J K n) K 252 L S M := by rfl
set_option maxRecDepth 20000 in
theorem r_Model_read_255 {s_Model_token : aS} {s_Model_fail : aS} {s_Model_opens : aS} {s_Model_closes : aS} {s_Model_begin : aS} {s_Model_atom : aS} {s_Model_end : aS} {J : aJ} {K : aR} {n : Nat} {L : aL} {S : List Value} {M : aM} : am_run (c_Model_read s_Model_token s_Model_fail s_Model_opens s_Model_closes s_Model_begin s_Model_atom s_Model_end) k_Model_read J K (n + 1) 255 L S M = ai_goto 259 (am_run (c_Model_read s_Model_token s_Model_fail s_Model_opens s_Model_closes s_Model_begin s_Model_atom s_Model_end) k_Model_read J K n) K 255 L S M := by rfl
set_option maxRecDepth 20000 in
theorem r_Model_read_258 {s_Model_token : aS} {s_Model_fail : aS} {s_Model_opens : aS} {s_Model_closes : aS} {s_Model_begin : aS} {s_Model_atom : aS} {s_Model_end : aS} {J : aJ} {K : aR} {n : Nat} {L : aL} {S : List Value} {M : aM} : am_run (c_Model_read s_Model_token s_Model_fail s_Model_opens s_Model_closes s_Model_begin s_Model_atom s_Model_end) k_Model_read J K (n + 1) 258 L S M = ai_const (-1) 259 (am_run (c_Model_read s_Model_token s_Model_fail s_Model_opens s_Model_closes s_Model_begin s_Model_atom s_Model_end) k_Model_read J K n) K 258 L S M := by rfl
set_option maxRecDepth 20000 in
theorem r_Model_read_259 {s_Model_token : aS} {s_Model_fail : aS} {s_Model_opens : aS} {s_Model_closes : aS} {s_Model_begin : aS} {s_Model_atom : aS} {s_Model_end : aS} {J : aJ} {K : aR} {n : Nat} {L : aL} {S : List Value} {M : aM} : am_run (c_Model_read s_Model_token s_Model_fail s_Model_opens s_Model_closes s_Model_begin s_Model_atom s_Model_end) k_Model_read J K (n + 1) 259 L S M = ai_iret (am_run (c_Model_read s_Model_token s_Model_fail s_Model_opens s_Model_closes s_Model_begin s_Model_atom s_Model_end) k_Model_read J K n) K 259 L S M := by rfl
def c_Model_place : List (Nat × aI) := [
  (0, ai_aload 0 1),
  (1, ai_getf 7 4 4),
  (4, ai_iret)]
set_option maxRecDepth 100000 in
set_option maxHeartbeats 4000000 in
theorem tb_Model_place {G : aG} {d : Nat} : am_tab G Y_Model_place d (c_Model_place) := by
  intro K p e s m args below meth c C
  exact ⟨as_aload_n C (pc := 0) (q := 0) (by decide +kernel) rfl rfl,
    as_getf C (pc := 1) (T := T_Model) (N := 21) rfl in_Model (by decide) rfl w_521 (by decide +kernel) rfl,
    as_iret C (pc := 4) rfl (by decide +kernel), trivial⟩
abbrev k_Model_place : List Nat := []
theorem r_Model_place_0 {J : aJ} {K : aR} {n : Nat} {L : aL} {S : List Value} {M : aM} : am_run (c_Model_place) k_Model_place J K (n + 1) 0 L S M = ai_aload 0 1 (am_run (c_Model_place) k_Model_place J K n) K 0 L S M := by rfl
theorem r_Model_place_1 {J : aJ} {K : aR} {n : Nat} {L : aL} {S : List Value} {M : aM} : am_run (c_Model_place) k_Model_place J K (n + 1) 1 L S M = ai_getf 7 4 4 (am_run (c_Model_place) k_Model_place J K n) K 1 L S M := by rfl
theorem r_Model_place_4 {J : aJ} {K : aR} {n : Nat} {L : aL} {S : List Value} {M : aM} : am_run (c_Model_place) k_Model_place J K (n + 1) 4 L S M = ai_iret (am_run (c_Model_place) k_Model_place J K n) K 4 L S M := by rfl
def c_Model_isNode : List (Nat × aI) := [
  (0, ai_iload 1 1),
  (1, ai_iflt 16 4),
  (4, ai_iload 1 5),
  (5, ai_aload 0 6),
  (6, ai_getf 7 5 9),
  (9, ai_cmpge 16 12),
  (12, ai_const 1 13),
  (13, ai_goto 17),
  (16, ai_const 0 17),
  (17, ai_zret)]
set_option maxRecDepth 100000 in
set_option maxHeartbeats 4000000 in
theorem tb_Model_isNode {G : aG} {d : Nat} : am_tab G Y_Model_isNode d (c_Model_isNode) := by
  intro K p e s m args below meth c C
  exact ⟨as_iload_n C (pc := 0) (q := 1) (by decide +kernel) rfl rfl,
    as_iflt C (pc := 1) (off := 15) (by decide +kernel) (by decide) rfl,
    as_iload_n C (pc := 4) (q := 1) (by decide +kernel) rfl rfl,
    as_aload_n C (pc := 5) (q := 0) (by decide +kernel) rfl rfl,
    as_getf C (pc := 6) (T := T_Model) (N := 21) rfl in_Model (by decide) rfl w_522 (by decide +kernel) rfl,
    as_cmpge C (pc := 9) (off := 7) (by decide +kernel) (by decide) rfl,
    as_iconst C (pc := 12) (n := 1) (by decide +kernel) (by decide +kernel) rfl,
    as_goto C (pc := 13) (off := 4) (by decide +kernel) (by decide),
    as_iconst C (pc := 16) (n := 0) (by decide +kernel) (by decide +kernel) rfl,
    as_zret C (pc := 17) rfl (by decide +kernel), trivial⟩
abbrev k_Model_isNode : List Nat := []
theorem r_Model_isNode_0 {J : aJ} {K : aR} {n : Nat} {L : aL} {S : List Value} {M : aM} : am_run (c_Model_isNode) k_Model_isNode J K (n + 1) 0 L S M = ai_iload 1 1 (am_run (c_Model_isNode) k_Model_isNode J K n) K 0 L S M := by rfl
theorem r_Model_isNode_1 {J : aJ} {K : aR} {n : Nat} {L : aL} {S : List Value} {M : aM} : am_run (c_Model_isNode) k_Model_isNode J K (n + 1) 1 L S M = ai_iflt 16 4 (am_run (c_Model_isNode) k_Model_isNode J K n) K 1 L S M := by rfl
theorem r_Model_isNode_4 {J : aJ} {K : aR} {n : Nat} {L : aL} {S : List Value} {M : aM} : am_run (c_Model_isNode) k_Model_isNode J K (n + 1) 4 L S M = ai_iload 1 5 (am_run (c_Model_isNode) k_Model_isNode J K n) K 4 L S M := by rfl
theorem r_Model_isNode_5 {J : aJ} {K : aR} {n : Nat} {L : aL} {S : List Value} {M : aM} : am_run (c_Model_isNode) k_Model_isNode J K (n + 1) 5 L S M = ai_aload 0 6 (am_run (c_Model_isNode) k_Model_isNode J K n) K 5 L S M := by rfl
theorem r_Model_isNode_6 {J : aJ} {K : aR} {n : Nat} {L : aL} {S : List Value} {M : aM} : am_run (c_Model_isNode) k_Model_isNode J K (n + 1) 6 L S M = ai_getf 7 5 9 (am_run (c_Model_isNode) k_Model_isNode J K n) K 6 L S M := by rfl
theorem r_Model_isNode_9 {J : aJ} {K : aR} {n : Nat} {L : aL} {S : List Value} {M : aM} : am_run (c_Model_isNode) k_Model_isNode J K (n + 1) 9 L S M = ai_cmpge 16 12 (am_run (c_Model_isNode) k_Model_isNode J K n) K 9 L S M := by rfl
theorem r_Model_isNode_12 {J : aJ} {K : aR} {n : Nat} {L : aL} {S : List Value} {M : aM} : am_run (c_Model_isNode) k_Model_isNode J K (n + 1) 12 L S M = ai_const 1 13 (am_run (c_Model_isNode) k_Model_isNode J K n) K 12 L S M := by rfl
theorem r_Model_isNode_13 {J : aJ} {K : aR} {n : Nat} {L : aL} {S : List Value} {M : aM} : am_run (c_Model_isNode) k_Model_isNode J K (n + 1) 13 L S M = ai_goto 17 (am_run (c_Model_isNode) k_Model_isNode J K n) K 13 L S M := by rfl
theorem r_Model_isNode_16 {J : aJ} {K : aR} {n : Nat} {L : aL} {S : List Value} {M : aM} : am_run (c_Model_isNode) k_Model_isNode J K (n + 1) 16 L S M = ai_const 0 17 (am_run (c_Model_isNode) k_Model_isNode J K n) K 16 L S M := by rfl
theorem r_Model_isNode_17 {J : aJ} {K : aR} {n : Nat} {L : aL} {S : List Value} {M : aM} : am_run (c_Model_isNode) k_Model_isNode J K (n + 1) 17 L S M = ai_zret (am_run (c_Model_isNode) k_Model_isNode J K n) K 17 L S M := by rfl
def c_Model_datum : List (Nat × aI) := [
  (0, ai_iload 1 1),
  (1, ai_iflt 21 4),
  (4, ai_iload 1 5),
  (5, ai_aload 0 6),
  (6, ai_getf 7 11 9),
  (9, ai_cmpge 21 12),
  (12, ai_aload 0 13),
  (13, ai_getf 7 12 16),
  (16, ai_iload 1 17),
  (17, ai_iald 18),
  (18, ai_goto 22),
  (21, ai_const (-1) 22),
  (22, ai_iret)]
set_option maxRecDepth 100000 in
set_option maxHeartbeats 4000000 in
theorem tb_Model_datum {G : aG} {d : Nat} : am_tab G Y_Model_datum d (c_Model_datum) := by
  intro K p e s m args below meth c C
  exact ⟨as_iload_n C (pc := 0) (q := 1) (by decide +kernel) rfl rfl,
    as_iflt C (pc := 1) (off := 20) (by decide +kernel) (by decide) rfl,
    as_iload_n C (pc := 4) (q := 1) (by decide +kernel) rfl rfl,
    as_aload_n C (pc := 5) (q := 0) (by decide +kernel) rfl rfl,
    as_getf C (pc := 6) (T := T_Model) (N := 21) rfl in_Model (by decide) rfl w_528 (by decide +kernel) rfl,
    as_cmpge C (pc := 9) (off := 12) (by decide +kernel) (by decide) rfl,
    as_aload_n C (pc := 12) (q := 0) (by decide +kernel) rfl rfl,
    as_getf C (pc := 13) (T := T_Model) (N := 21) rfl in_Model (by decide) rfl w_529 (by decide +kernel) rfl,
    as_iload_n C (pc := 16) (q := 1) (by decide +kernel) rfl rfl,
    as_iald C (pc := 17) (by decide +kernel) rfl,
    as_goto C (pc := 18) (off := 4) (by decide +kernel) (by decide),
    as_iconst C (pc := 21) (n := (-1)) (by decide +kernel) (by decide +kernel) rfl,
    as_iret C (pc := 22) rfl (by decide +kernel), trivial⟩
abbrev k_Model_datum : List Nat := []
theorem r_Model_datum_0 {J : aJ} {K : aR} {n : Nat} {L : aL} {S : List Value} {M : aM} : am_run (c_Model_datum) k_Model_datum J K (n + 1) 0 L S M = ai_iload 1 1 (am_run (c_Model_datum) k_Model_datum J K n) K 0 L S M := by rfl
theorem r_Model_datum_1 {J : aJ} {K : aR} {n : Nat} {L : aL} {S : List Value} {M : aM} : am_run (c_Model_datum) k_Model_datum J K (n + 1) 1 L S M = ai_iflt 21 4 (am_run (c_Model_datum) k_Model_datum J K n) K 1 L S M := by rfl
theorem r_Model_datum_4 {J : aJ} {K : aR} {n : Nat} {L : aL} {S : List Value} {M : aM} : am_run (c_Model_datum) k_Model_datum J K (n + 1) 4 L S M = ai_iload 1 5 (am_run (c_Model_datum) k_Model_datum J K n) K 4 L S M := by rfl
theorem r_Model_datum_5 {J : aJ} {K : aR} {n : Nat} {L : aL} {S : List Value} {M : aM} : am_run (c_Model_datum) k_Model_datum J K (n + 1) 5 L S M = ai_aload 0 6 (am_run (c_Model_datum) k_Model_datum J K n) K 5 L S M := by rfl
theorem r_Model_datum_6 {J : aJ} {K : aR} {n : Nat} {L : aL} {S : List Value} {M : aM} : am_run (c_Model_datum) k_Model_datum J K (n + 1) 6 L S M = ai_getf 7 11 9 (am_run (c_Model_datum) k_Model_datum J K n) K 6 L S M := by rfl
theorem r_Model_datum_9 {J : aJ} {K : aR} {n : Nat} {L : aL} {S : List Value} {M : aM} : am_run (c_Model_datum) k_Model_datum J K (n + 1) 9 L S M = ai_cmpge 21 12 (am_run (c_Model_datum) k_Model_datum J K n) K 9 L S M := by rfl
theorem r_Model_datum_12 {J : aJ} {K : aR} {n : Nat} {L : aL} {S : List Value} {M : aM} : am_run (c_Model_datum) k_Model_datum J K (n + 1) 12 L S M = ai_aload 0 13 (am_run (c_Model_datum) k_Model_datum J K n) K 12 L S M := by rfl
theorem r_Model_datum_13 {J : aJ} {K : aR} {n : Nat} {L : aL} {S : List Value} {M : aM} : am_run (c_Model_datum) k_Model_datum J K (n + 1) 13 L S M = ai_getf 7 12 16 (am_run (c_Model_datum) k_Model_datum J K n) K 13 L S M := by rfl
theorem r_Model_datum_16 {J : aJ} {K : aR} {n : Nat} {L : aL} {S : List Value} {M : aM} : am_run (c_Model_datum) k_Model_datum J K (n + 1) 16 L S M = ai_iload 1 17 (am_run (c_Model_datum) k_Model_datum J K n) K 16 L S M := by rfl
theorem r_Model_datum_17 {J : aJ} {K : aR} {n : Nat} {L : aL} {S : List Value} {M : aM} : am_run (c_Model_datum) k_Model_datum J K (n + 1) 17 L S M = ai_iald 18 (am_run (c_Model_datum) k_Model_datum J K n) K 17 L S M := by rfl
theorem r_Model_datum_18 {J : aJ} {K : aR} {n : Nat} {L : aL} {S : List Value} {M : aM} : am_run (c_Model_datum) k_Model_datum J K (n + 1) 18 L S M = ai_goto 22 (am_run (c_Model_datum) k_Model_datum J K n) K 18 L S M := by rfl
theorem r_Model_datum_21 {J : aJ} {K : aR} {n : Nat} {L : aL} {S : List Value} {M : aM} : am_run (c_Model_datum) k_Model_datum J K (n + 1) 21 L S M = ai_const (-1) 22 (am_run (c_Model_datum) k_Model_datum J K n) K 21 L S M := by rfl
theorem r_Model_datum_22 {J : aJ} {K : aR} {n : Nat} {L : aL} {S : List Value} {M : aM} : am_run (c_Model_datum) k_Model_datum J K (n + 1) 22 L S M = ai_iret (am_run (c_Model_datum) k_Model_datum J K n) K 22 L S M := by rfl
def c_Model_kind (s_Model_isNode : aS) : List (Nat × aI) := [
  (0, ai_aload 0 1),
  (1, ai_iload 1 2),
  (2, ai_callv2 7 s_Model_isNode 5),
  (5, ai_ifeq 17 8),
  (8, ai_aload 0 9),
  (9, ai_getf 7 6 12),
  (12, ai_iload 1 13),
  (13, ai_iald 14),
  (14, ai_goto 18),
  (17, ai_const 0 18),
  (18, ai_iret)]
set_option maxRecDepth 100000 in
set_option maxHeartbeats 4000000 in
theorem tb_Model_kind {G : aG} {d : Nat} {s_Model_isNode : aS} {d_Model_isNode : Nat} (h_Model_isNode : am_Sp G Y_Model_isNode d_Model_isNode s_Model_isNode) (l_Model_isNode : d_Model_isNode < d) : am_tab G Y_Model_kind d (c_Model_kind s_Model_isNode) := by
  intro K p e s m args below meth c C
  exact ⟨as_aload_n C (pc := 0) (q := 0) (by decide +kernel) rfl rfl,
    as_iload_n C (pc := 1) (q := 1) (by decide +kernel) rfl rfl,
    as_callv2 C (pc := 2) h_Model_isNode (T := T_Model) (N := 21) rfl w_703 w_78 w_702 w_62 w_700 hy_Model_isNode (am_rm_of l_Model_isNode (by decide)) (by decide +kernel) rfl,
    as_ifeq C (pc := 5) (off := 12) (by decide +kernel) (by decide) rfl,
    as_aload_n C (pc := 8) (q := 0) (by decide +kernel) rfl rfl,
    as_getf C (pc := 9) (T := T_Model) (N := 21) rfl in_Model (by decide) rfl w_523 (by decide +kernel) rfl,
    as_iload_n C (pc := 12) (q := 1) (by decide +kernel) rfl rfl,
    as_iald C (pc := 13) (by decide +kernel) rfl,
    as_goto C (pc := 14) (off := 4) (by decide +kernel) (by decide),
    as_iconst C (pc := 17) (n := 0) (by decide +kernel) (by decide +kernel) rfl,
    as_iret C (pc := 18) rfl (by decide +kernel), trivial⟩
abbrev k_Model_kind : List Nat := []
theorem r_Model_kind_0 {s_Model_isNode : aS} {J : aJ} {K : aR} {n : Nat} {L : aL} {S : List Value} {M : aM} : am_run (c_Model_kind s_Model_isNode) k_Model_kind J K (n + 1) 0 L S M = ai_aload 0 1 (am_run (c_Model_kind s_Model_isNode) k_Model_kind J K n) K 0 L S M := by rfl
theorem r_Model_kind_1 {s_Model_isNode : aS} {J : aJ} {K : aR} {n : Nat} {L : aL} {S : List Value} {M : aM} : am_run (c_Model_kind s_Model_isNode) k_Model_kind J K (n + 1) 1 L S M = ai_iload 1 2 (am_run (c_Model_kind s_Model_isNode) k_Model_kind J K n) K 1 L S M := by rfl
theorem r_Model_kind_2 {s_Model_isNode : aS} {J : aJ} {K : aR} {n : Nat} {L : aL} {S : List Value} {M : aM} : am_run (c_Model_kind s_Model_isNode) k_Model_kind J K (n + 1) 2 L S M = ai_callv2 7 s_Model_isNode 5 (am_run (c_Model_kind s_Model_isNode) k_Model_kind J K n) K 2 L S M := by rfl
theorem r_Model_kind_5 {s_Model_isNode : aS} {J : aJ} {K : aR} {n : Nat} {L : aL} {S : List Value} {M : aM} : am_run (c_Model_kind s_Model_isNode) k_Model_kind J K (n + 1) 5 L S M = ai_ifeq 17 8 (am_run (c_Model_kind s_Model_isNode) k_Model_kind J K n) K 5 L S M := by rfl
theorem r_Model_kind_8 {s_Model_isNode : aS} {J : aJ} {K : aR} {n : Nat} {L : aL} {S : List Value} {M : aM} : am_run (c_Model_kind s_Model_isNode) k_Model_kind J K (n + 1) 8 L S M = ai_aload 0 9 (am_run (c_Model_kind s_Model_isNode) k_Model_kind J K n) K 8 L S M := by rfl
theorem r_Model_kind_9 {s_Model_isNode : aS} {J : aJ} {K : aR} {n : Nat} {L : aL} {S : List Value} {M : aM} : am_run (c_Model_kind s_Model_isNode) k_Model_kind J K (n + 1) 9 L S M = ai_getf 7 6 12 (am_run (c_Model_kind s_Model_isNode) k_Model_kind J K n) K 9 L S M := by rfl
theorem r_Model_kind_12 {s_Model_isNode : aS} {J : aJ} {K : aR} {n : Nat} {L : aL} {S : List Value} {M : aM} : am_run (c_Model_kind s_Model_isNode) k_Model_kind J K (n + 1) 12 L S M = ai_iload 1 13 (am_run (c_Model_kind s_Model_isNode) k_Model_kind J K n) K 12 L S M := by rfl
theorem r_Model_kind_13 {s_Model_isNode : aS} {J : aJ} {K : aR} {n : Nat} {L : aL} {S : List Value} {M : aM} : am_run (c_Model_kind s_Model_isNode) k_Model_kind J K (n + 1) 13 L S M = ai_iald 14 (am_run (c_Model_kind s_Model_isNode) k_Model_kind J K n) K 13 L S M := by rfl
theorem r_Model_kind_14 {s_Model_isNode : aS} {J : aJ} {K : aR} {n : Nat} {L : aL} {S : List Value} {M : aM} : am_run (c_Model_kind s_Model_isNode) k_Model_kind J K (n + 1) 14 L S M = ai_goto 18 (am_run (c_Model_kind s_Model_isNode) k_Model_kind J K n) K 14 L S M := by rfl
theorem r_Model_kind_17 {s_Model_isNode : aS} {J : aJ} {K : aR} {n : Nat} {L : aL} {S : List Value} {M : aM} : am_run (c_Model_kind s_Model_isNode) k_Model_kind J K (n + 1) 17 L S M = ai_const 0 18 (am_run (c_Model_kind s_Model_isNode) k_Model_kind J K n) K 17 L S M := by rfl
theorem r_Model_kind_18 {s_Model_isNode : aS} {J : aJ} {K : aR} {n : Nat} {L : aL} {S : List Value} {M : aM} : am_run (c_Model_kind s_Model_isNode) k_Model_kind J K (n + 1) 18 L S M = ai_iret (am_run (c_Model_kind s_Model_isNode) k_Model_kind J K n) K 18 L S M := by rfl
def c_Model_value (s_Model_isNode : aS) : List (Nat × aI) := [
  (0, ai_aload 0 1),
  (1, ai_iload 1 2),
  (2, ai_callv2 7 s_Model_isNode 5),
  (5, ai_ifeq 17 8),
  (8, ai_aload 0 9),
  (9, ai_getf 7 7 12),
  (12, ai_iload 1 13),
  (13, ai_iald 14),
  (14, ai_goto 18),
  (17, ai_const 0 18),
  (18, ai_iret)]
set_option maxRecDepth 100000 in
set_option maxHeartbeats 4000000 in
theorem tb_Model_value {G : aG} {d : Nat} {s_Model_isNode : aS} {d_Model_isNode : Nat} (h_Model_isNode : am_Sp G Y_Model_isNode d_Model_isNode s_Model_isNode) (l_Model_isNode : d_Model_isNode < d) : am_tab G Y_Model_value d (c_Model_value s_Model_isNode) := by
  intro K p e s m args below meth c C
  exact ⟨as_aload_n C (pc := 0) (q := 0) (by decide +kernel) rfl rfl,
    as_iload_n C (pc := 1) (q := 1) (by decide +kernel) rfl rfl,
    as_callv2 C (pc := 2) h_Model_isNode (T := T_Model) (N := 21) rfl w_703 w_78 w_702 w_62 w_700 hy_Model_isNode (am_rm_of l_Model_isNode (by decide)) (by decide +kernel) rfl,
    as_ifeq C (pc := 5) (off := 12) (by decide +kernel) (by decide) rfl,
    as_aload_n C (pc := 8) (q := 0) (by decide +kernel) rfl rfl,
    as_getf C (pc := 9) (T := T_Model) (N := 21) rfl in_Model (by decide) rfl w_524 (by decide +kernel) rfl,
    as_iload_n C (pc := 12) (q := 1) (by decide +kernel) rfl rfl,
    as_iald C (pc := 13) (by decide +kernel) rfl,
    as_goto C (pc := 14) (off := 4) (by decide +kernel) (by decide),
    as_iconst C (pc := 17) (n := 0) (by decide +kernel) (by decide +kernel) rfl,
    as_iret C (pc := 18) rfl (by decide +kernel), trivial⟩
abbrev k_Model_value : List Nat := []
theorem r_Model_value_0 {s_Model_isNode : aS} {J : aJ} {K : aR} {n : Nat} {L : aL} {S : List Value} {M : aM} : am_run (c_Model_value s_Model_isNode) k_Model_value J K (n + 1) 0 L S M = ai_aload 0 1 (am_run (c_Model_value s_Model_isNode) k_Model_value J K n) K 0 L S M := by rfl
theorem r_Model_value_1 {s_Model_isNode : aS} {J : aJ} {K : aR} {n : Nat} {L : aL} {S : List Value} {M : aM} : am_run (c_Model_value s_Model_isNode) k_Model_value J K (n + 1) 1 L S M = ai_iload 1 2 (am_run (c_Model_value s_Model_isNode) k_Model_value J K n) K 1 L S M := by rfl
theorem r_Model_value_2 {s_Model_isNode : aS} {J : aJ} {K : aR} {n : Nat} {L : aL} {S : List Value} {M : aM} : am_run (c_Model_value s_Model_isNode) k_Model_value J K (n + 1) 2 L S M = ai_callv2 7 s_Model_isNode 5 (am_run (c_Model_value s_Model_isNode) k_Model_value J K n) K 2 L S M := by rfl
theorem r_Model_value_5 {s_Model_isNode : aS} {J : aJ} {K : aR} {n : Nat} {L : aL} {S : List Value} {M : aM} : am_run (c_Model_value s_Model_isNode) k_Model_value J K (n + 1) 5 L S M = ai_ifeq 17 8 (am_run (c_Model_value s_Model_isNode) k_Model_value J K n) K 5 L S M := by rfl
theorem r_Model_value_8 {s_Model_isNode : aS} {J : aJ} {K : aR} {n : Nat} {L : aL} {S : List Value} {M : aM} : am_run (c_Model_value s_Model_isNode) k_Model_value J K (n + 1) 8 L S M = ai_aload 0 9 (am_run (c_Model_value s_Model_isNode) k_Model_value J K n) K 8 L S M := by rfl
theorem r_Model_value_9 {s_Model_isNode : aS} {J : aJ} {K : aR} {n : Nat} {L : aL} {S : List Value} {M : aM} : am_run (c_Model_value s_Model_isNode) k_Model_value J K (n + 1) 9 L S M = ai_getf 7 7 12 (am_run (c_Model_value s_Model_isNode) k_Model_value J K n) K 9 L S M := by rfl
theorem r_Model_value_12 {s_Model_isNode : aS} {J : aJ} {K : aR} {n : Nat} {L : aL} {S : List Value} {M : aM} : am_run (c_Model_value s_Model_isNode) k_Model_value J K (n + 1) 12 L S M = ai_iload 1 13 (am_run (c_Model_value s_Model_isNode) k_Model_value J K n) K 12 L S M := by rfl
theorem r_Model_value_13 {s_Model_isNode : aS} {J : aJ} {K : aR} {n : Nat} {L : aL} {S : List Value} {M : aM} : am_run (c_Model_value s_Model_isNode) k_Model_value J K (n + 1) 13 L S M = ai_iald 14 (am_run (c_Model_value s_Model_isNode) k_Model_value J K n) K 13 L S M := by rfl
theorem r_Model_value_14 {s_Model_isNode : aS} {J : aJ} {K : aR} {n : Nat} {L : aL} {S : List Value} {M : aM} : am_run (c_Model_value s_Model_isNode) k_Model_value J K (n + 1) 14 L S M = ai_goto 18 (am_run (c_Model_value s_Model_isNode) k_Model_value J K n) K 14 L S M := by rfl
theorem r_Model_value_17 {s_Model_isNode : aS} {J : aJ} {K : aR} {n : Nat} {L : aL} {S : List Value} {M : aM} : am_run (c_Model_value s_Model_isNode) k_Model_value J K (n + 1) 17 L S M = ai_const 0 18 (am_run (c_Model_value s_Model_isNode) k_Model_value J K n) K 17 L S M := by rfl
theorem r_Model_value_18 {s_Model_isNode : aS} {J : aJ} {K : aR} {n : Nat} {L : aL} {S : List Value} {M : aM} : am_run (c_Model_value s_Model_isNode) k_Model_value J K (n + 1) 18 L S M = ai_iret (am_run (c_Model_value s_Model_isNode) k_Model_value J K n) K 18 L S M := by rfl
def c_Model_byteAt (s_Model_isNode : aS) : List (Nat × aI) := [
  (0, ai_aload 0 1),
  (1, ai_iload 1 2),
  (2, ai_callv2 7 s_Model_isNode 5),
  (5, ai_ifeq 46 8),
  (8, ai_aload 0 9),
  (9, ai_getf 7 6 12),
  (12, ai_iload 1 13),
  (13, ai_iald 14),
  (14, ai_const 2 15),
  (15, ai_cmpeq 28 18),
  (18, ai_aload 0 19),
  (19, ai_getf 7 6 22),
  (22, ai_iload 1 23),
  (23, ai_iald 24),
  (24, ai_const 3 25),
  (25, ai_cmpne 46 28),
  (28, ai_iload 2 29),
  (29, ai_iflt 46 32),
  (32, ai_iload 2 33),
  (33, ai_aload 0 34),
  (34, ai_getf 7 7 37),
  (37, ai_iload 1 38),
  (38, ai_iald 39),
  (39, ai_cmpge 46 42),
  (42, ai_const 1 43),
  (43, ai_goto 47),
  (46, ai_const 0 47),
  (47, ai_istore 3 48),
  (48, ai_iload 3 49),
  (49, ai_ifeq 66 52),
  (52, ai_aload 0 53),
  (53, ai_getf 7 8 56),
  (56, ai_const 20 58),
  (58, ai_iload 1 59),
  (59, ai_imul 60),
  (60, ai_iload 2 61),
  (61, ai_iadd 62),
  (62, ai_iald 63),
  (63, ai_goto 67),
  (66, ai_const (-1) 67),
  (67, ai_iret)]
set_option maxRecDepth 100000 in
set_option maxHeartbeats 4000000 in
theorem tb_Model_byteAt {G : aG} {d : Nat} {s_Model_isNode : aS} {d_Model_isNode : Nat} (h_Model_isNode : am_Sp G Y_Model_isNode d_Model_isNode s_Model_isNode) (l_Model_isNode : d_Model_isNode < d) : am_tab G Y_Model_byteAt d (c_Model_byteAt s_Model_isNode) := by
  intro K p e s m args below meth c C
  exact ⟨as_aload_n C (pc := 0) (q := 0) (by decide +kernel) rfl rfl,
    as_iload_n C (pc := 1) (q := 1) (by decide +kernel) rfl rfl,
    as_callv2 C (pc := 2) h_Model_isNode (T := T_Model) (N := 21) rfl w_703 w_78 w_702 w_62 w_700 hy_Model_isNode (am_rm_of l_Model_isNode (by decide)) (by decide +kernel) rfl,
    as_ifeq C (pc := 5) (off := 41) (by decide +kernel) (by decide) rfl,
    as_aload_n C (pc := 8) (q := 0) (by decide +kernel) rfl rfl,
    as_getf C (pc := 9) (T := T_Model) (N := 21) rfl in_Model (by decide) rfl w_523 (by decide +kernel) rfl,
    as_iload_n C (pc := 12) (q := 1) (by decide +kernel) rfl rfl,
    as_iald C (pc := 13) (by decide +kernel) rfl,
    as_iconst C (pc := 14) (n := 2) (by decide +kernel) (by decide +kernel) rfl,
    as_cmpeq C (pc := 15) (off := 13) (by decide +kernel) (by decide) rfl,
    as_aload_n C (pc := 18) (q := 0) (by decide +kernel) rfl rfl,
    as_getf C (pc := 19) (T := T_Model) (N := 21) rfl in_Model (by decide) rfl w_523 (by decide +kernel) rfl,
    as_iload_n C (pc := 22) (q := 1) (by decide +kernel) rfl rfl,
    as_iald C (pc := 23) (by decide +kernel) rfl,
    as_iconst C (pc := 24) (n := 3) (by decide +kernel) (by decide +kernel) rfl,
    as_cmpne C (pc := 25) (off := 21) (by decide +kernel) (by decide) rfl,
    as_iload_n C (pc := 28) (q := 2) (by decide +kernel) rfl rfl,
    as_iflt C (pc := 29) (off := 17) (by decide +kernel) (by decide) rfl,
    as_iload_n C (pc := 32) (q := 2) (by decide +kernel) rfl rfl,
    as_aload_n C (pc := 33) (q := 0) (by decide +kernel) rfl rfl,
    as_getf C (pc := 34) (T := T_Model) (N := 21) rfl in_Model (by decide) rfl w_524 (by decide +kernel) rfl,
    as_iload_n C (pc := 37) (q := 1) (by decide +kernel) rfl rfl,
    as_iald C (pc := 38) (by decide +kernel) rfl,
    as_cmpge C (pc := 39) (off := 7) (by decide +kernel) (by decide) rfl,
    as_iconst C (pc := 42) (n := 1) (by decide +kernel) (by decide +kernel) rfl,
    as_goto C (pc := 43) (off := 4) (by decide +kernel) (by decide),
    as_iconst C (pc := 46) (n := 0) (by decide +kernel) (by decide +kernel) rfl,
    as_istore_n C (pc := 47) (q := 3) (by decide +kernel) rfl (by decide) rfl,
    as_iload_n C (pc := 48) (q := 3) (by decide +kernel) rfl rfl,
    as_ifeq C (pc := 49) (off := 17) (by decide +kernel) (by decide) rfl,
    as_aload_n C (pc := 52) (q := 0) (by decide +kernel) rfl rfl,
    as_getf C (pc := 53) (T := T_Model) (N := 21) rfl in_Model (by decide) rfl w_525 (by decide +kernel) rfl,
    as_bipush C (pc := 56) (n := 20) (by decide +kernel) (by decide +kernel) rfl,
    as_iload_n C (pc := 58) (q := 1) (by decide +kernel) rfl rfl,
    as_imul C (pc := 59) (by decide +kernel) rfl,
    as_iload_n C (pc := 60) (q := 2) (by decide +kernel) rfl rfl,
    as_iadd C (pc := 61) (by decide +kernel) rfl,
    as_iald C (pc := 62) (by decide +kernel) rfl,
    as_goto C (pc := 63) (off := 4) (by decide +kernel) (by decide),
    as_iconst C (pc := 66) (n := (-1)) (by decide +kernel) (by decide +kernel) rfl,
    as_iret C (pc := 67) rfl (by decide +kernel), trivial⟩
abbrev k_Model_byteAt : List Nat := []
theorem r_Model_byteAt_0 {s_Model_isNode : aS} {J : aJ} {K : aR} {n : Nat} {L : aL} {S : List Value} {M : aM} : am_run (c_Model_byteAt s_Model_isNode) k_Model_byteAt J K (n + 1) 0 L S M = ai_aload 0 1 (am_run (c_Model_byteAt s_Model_isNode) k_Model_byteAt J K n) K 0 L S M := by rfl
theorem r_Model_byteAt_1 {s_Model_isNode : aS} {J : aJ} {K : aR} {n : Nat} {L : aL} {S : List Value} {M : aM} : am_run (c_Model_byteAt s_Model_isNode) k_Model_byteAt J K (n + 1) 1 L S M = ai_iload 1 2 (am_run (c_Model_byteAt s_Model_isNode) k_Model_byteAt J K n) K 1 L S M := by rfl
theorem r_Model_byteAt_2 {s_Model_isNode : aS} {J : aJ} {K : aR} {n : Nat} {L : aL} {S : List Value} {M : aM} : am_run (c_Model_byteAt s_Model_isNode) k_Model_byteAt J K (n + 1) 2 L S M = ai_callv2 7 s_Model_isNode 5 (am_run (c_Model_byteAt s_Model_isNode) k_Model_byteAt J K n) K 2 L S M := by rfl
theorem r_Model_byteAt_5 {s_Model_isNode : aS} {J : aJ} {K : aR} {n : Nat} {L : aL} {S : List Value} {M : aM} : am_run (c_Model_byteAt s_Model_isNode) k_Model_byteAt J K (n + 1) 5 L S M = ai_ifeq 46 8 (am_run (c_Model_byteAt s_Model_isNode) k_Model_byteAt J K n) K 5 L S M := by rfl
theorem r_Model_byteAt_8 {s_Model_isNode : aS} {J : aJ} {K : aR} {n : Nat} {L : aL} {S : List Value} {M : aM} : am_run (c_Model_byteAt s_Model_isNode) k_Model_byteAt J K (n + 1) 8 L S M = ai_aload 0 9 (am_run (c_Model_byteAt s_Model_isNode) k_Model_byteAt J K n) K 8 L S M := by rfl
theorem r_Model_byteAt_9 {s_Model_isNode : aS} {J : aJ} {K : aR} {n : Nat} {L : aL} {S : List Value} {M : aM} : am_run (c_Model_byteAt s_Model_isNode) k_Model_byteAt J K (n + 1) 9 L S M = ai_getf 7 6 12 (am_run (c_Model_byteAt s_Model_isNode) k_Model_byteAt J K n) K 9 L S M := by rfl
theorem r_Model_byteAt_12 {s_Model_isNode : aS} {J : aJ} {K : aR} {n : Nat} {L : aL} {S : List Value} {M : aM} : am_run (c_Model_byteAt s_Model_isNode) k_Model_byteAt J K (n + 1) 12 L S M = ai_iload 1 13 (am_run (c_Model_byteAt s_Model_isNode) k_Model_byteAt J K n) K 12 L S M := by rfl
theorem r_Model_byteAt_13 {s_Model_isNode : aS} {J : aJ} {K : aR} {n : Nat} {L : aL} {S : List Value} {M : aM} : am_run (c_Model_byteAt s_Model_isNode) k_Model_byteAt J K (n + 1) 13 L S M = ai_iald 14 (am_run (c_Model_byteAt s_Model_isNode) k_Model_byteAt J K n) K 13 L S M := by rfl
theorem r_Model_byteAt_14 {s_Model_isNode : aS} {J : aJ} {K : aR} {n : Nat} {L : aL} {S : List Value} {M : aM} : am_run (c_Model_byteAt s_Model_isNode) k_Model_byteAt J K (n + 1) 14 L S M = ai_const 2 15 (am_run (c_Model_byteAt s_Model_isNode) k_Model_byteAt J K n) K 14 L S M := by rfl
theorem r_Model_byteAt_15 {s_Model_isNode : aS} {J : aJ} {K : aR} {n : Nat} {L : aL} {S : List Value} {M : aM} : am_run (c_Model_byteAt s_Model_isNode) k_Model_byteAt J K (n + 1) 15 L S M = ai_cmpeq 28 18 (am_run (c_Model_byteAt s_Model_isNode) k_Model_byteAt J K n) K 15 L S M := by rfl
theorem r_Model_byteAt_18 {s_Model_isNode : aS} {J : aJ} {K : aR} {n : Nat} {L : aL} {S : List Value} {M : aM} : am_run (c_Model_byteAt s_Model_isNode) k_Model_byteAt J K (n + 1) 18 L S M = ai_aload 0 19 (am_run (c_Model_byteAt s_Model_isNode) k_Model_byteAt J K n) K 18 L S M := by rfl
theorem r_Model_byteAt_19 {s_Model_isNode : aS} {J : aJ} {K : aR} {n : Nat} {L : aL} {S : List Value} {M : aM} : am_run (c_Model_byteAt s_Model_isNode) k_Model_byteAt J K (n + 1) 19 L S M = ai_getf 7 6 22 (am_run (c_Model_byteAt s_Model_isNode) k_Model_byteAt J K n) K 19 L S M := by rfl
theorem r_Model_byteAt_22 {s_Model_isNode : aS} {J : aJ} {K : aR} {n : Nat} {L : aL} {S : List Value} {M : aM} : am_run (c_Model_byteAt s_Model_isNode) k_Model_byteAt J K (n + 1) 22 L S M = ai_iload 1 23 (am_run (c_Model_byteAt s_Model_isNode) k_Model_byteAt J K n) K 22 L S M := by rfl
theorem r_Model_byteAt_23 {s_Model_isNode : aS} {J : aJ} {K : aR} {n : Nat} {L : aL} {S : List Value} {M : aM} : am_run (c_Model_byteAt s_Model_isNode) k_Model_byteAt J K (n + 1) 23 L S M = ai_iald 24 (am_run (c_Model_byteAt s_Model_isNode) k_Model_byteAt J K n) K 23 L S M := by rfl
theorem r_Model_byteAt_24 {s_Model_isNode : aS} {J : aJ} {K : aR} {n : Nat} {L : aL} {S : List Value} {M : aM} : am_run (c_Model_byteAt s_Model_isNode) k_Model_byteAt J K (n + 1) 24 L S M = ai_const 3 25 (am_run (c_Model_byteAt s_Model_isNode) k_Model_byteAt J K n) K 24 L S M := by rfl
theorem r_Model_byteAt_25 {s_Model_isNode : aS} {J : aJ} {K : aR} {n : Nat} {L : aL} {S : List Value} {M : aM} : am_run (c_Model_byteAt s_Model_isNode) k_Model_byteAt J K (n + 1) 25 L S M = ai_cmpne 46 28 (am_run (c_Model_byteAt s_Model_isNode) k_Model_byteAt J K n) K 25 L S M := by rfl
theorem r_Model_byteAt_28 {s_Model_isNode : aS} {J : aJ} {K : aR} {n : Nat} {L : aL} {S : List Value} {M : aM} : am_run (c_Model_byteAt s_Model_isNode) k_Model_byteAt J K (n + 1) 28 L S M = ai_iload 2 29 (am_run (c_Model_byteAt s_Model_isNode) k_Model_byteAt J K n) K 28 L S M := by rfl
theorem r_Model_byteAt_29 {s_Model_isNode : aS} {J : aJ} {K : aR} {n : Nat} {L : aL} {S : List Value} {M : aM} : am_run (c_Model_byteAt s_Model_isNode) k_Model_byteAt J K (n + 1) 29 L S M = ai_iflt 46 32 (am_run (c_Model_byteAt s_Model_isNode) k_Model_byteAt J K n) K 29 L S M := by rfl
theorem r_Model_byteAt_32 {s_Model_isNode : aS} {J : aJ} {K : aR} {n : Nat} {L : aL} {S : List Value} {M : aM} : am_run (c_Model_byteAt s_Model_isNode) k_Model_byteAt J K (n + 1) 32 L S M = ai_iload 2 33 (am_run (c_Model_byteAt s_Model_isNode) k_Model_byteAt J K n) K 32 L S M := by rfl
theorem r_Model_byteAt_33 {s_Model_isNode : aS} {J : aJ} {K : aR} {n : Nat} {L : aL} {S : List Value} {M : aM} : am_run (c_Model_byteAt s_Model_isNode) k_Model_byteAt J K (n + 1) 33 L S M = ai_aload 0 34 (am_run (c_Model_byteAt s_Model_isNode) k_Model_byteAt J K n) K 33 L S M := by rfl
theorem r_Model_byteAt_34 {s_Model_isNode : aS} {J : aJ} {K : aR} {n : Nat} {L : aL} {S : List Value} {M : aM} : am_run (c_Model_byteAt s_Model_isNode) k_Model_byteAt J K (n + 1) 34 L S M = ai_getf 7 7 37 (am_run (c_Model_byteAt s_Model_isNode) k_Model_byteAt J K n) K 34 L S M := by rfl
theorem r_Model_byteAt_37 {s_Model_isNode : aS} {J : aJ} {K : aR} {n : Nat} {L : aL} {S : List Value} {M : aM} : am_run (c_Model_byteAt s_Model_isNode) k_Model_byteAt J K (n + 1) 37 L S M = ai_iload 1 38 (am_run (c_Model_byteAt s_Model_isNode) k_Model_byteAt J K n) K 37 L S M := by rfl
theorem r_Model_byteAt_38 {s_Model_isNode : aS} {J : aJ} {K : aR} {n : Nat} {L : aL} {S : List Value} {M : aM} : am_run (c_Model_byteAt s_Model_isNode) k_Model_byteAt J K (n + 1) 38 L S M = ai_iald 39 (am_run (c_Model_byteAt s_Model_isNode) k_Model_byteAt J K n) K 38 L S M := by rfl
theorem r_Model_byteAt_39 {s_Model_isNode : aS} {J : aJ} {K : aR} {n : Nat} {L : aL} {S : List Value} {M : aM} : am_run (c_Model_byteAt s_Model_isNode) k_Model_byteAt J K (n + 1) 39 L S M = ai_cmpge 46 42 (am_run (c_Model_byteAt s_Model_isNode) k_Model_byteAt J K n) K 39 L S M := by rfl
theorem r_Model_byteAt_42 {s_Model_isNode : aS} {J : aJ} {K : aR} {n : Nat} {L : aL} {S : List Value} {M : aM} : am_run (c_Model_byteAt s_Model_isNode) k_Model_byteAt J K (n + 1) 42 L S M = ai_const 1 43 (am_run (c_Model_byteAt s_Model_isNode) k_Model_byteAt J K n) K 42 L S M := by rfl
theorem r_Model_byteAt_43 {s_Model_isNode : aS} {J : aJ} {K : aR} {n : Nat} {L : aL} {S : List Value} {M : aM} : am_run (c_Model_byteAt s_Model_isNode) k_Model_byteAt J K (n + 1) 43 L S M = ai_goto 47 (am_run (c_Model_byteAt s_Model_isNode) k_Model_byteAt J K n) K 43 L S M := by rfl
theorem r_Model_byteAt_46 {s_Model_isNode : aS} {J : aJ} {K : aR} {n : Nat} {L : aL} {S : List Value} {M : aM} : am_run (c_Model_byteAt s_Model_isNode) k_Model_byteAt J K (n + 1) 46 L S M = ai_const 0 47 (am_run (c_Model_byteAt s_Model_isNode) k_Model_byteAt J K n) K 46 L S M := by rfl
theorem r_Model_byteAt_47 {s_Model_isNode : aS} {J : aJ} {K : aR} {n : Nat} {L : aL} {S : List Value} {M : aM} : am_run (c_Model_byteAt s_Model_isNode) k_Model_byteAt J K (n + 1) 47 L S M = ai_istore 3 48 (am_run (c_Model_byteAt s_Model_isNode) k_Model_byteAt J K n) K 47 L S M := by rfl
theorem r_Model_byteAt_48 {s_Model_isNode : aS} {J : aJ} {K : aR} {n : Nat} {L : aL} {S : List Value} {M : aM} : am_run (c_Model_byteAt s_Model_isNode) k_Model_byteAt J K (n + 1) 48 L S M = ai_iload 3 49 (am_run (c_Model_byteAt s_Model_isNode) k_Model_byteAt J K n) K 48 L S M := by rfl
theorem r_Model_byteAt_49 {s_Model_isNode : aS} {J : aJ} {K : aR} {n : Nat} {L : aL} {S : List Value} {M : aM} : am_run (c_Model_byteAt s_Model_isNode) k_Model_byteAt J K (n + 1) 49 L S M = ai_ifeq 66 52 (am_run (c_Model_byteAt s_Model_isNode) k_Model_byteAt J K n) K 49 L S M := by rfl
theorem r_Model_byteAt_52 {s_Model_isNode : aS} {J : aJ} {K : aR} {n : Nat} {L : aL} {S : List Value} {M : aM} : am_run (c_Model_byteAt s_Model_isNode) k_Model_byteAt J K (n + 1) 52 L S M = ai_aload 0 53 (am_run (c_Model_byteAt s_Model_isNode) k_Model_byteAt J K n) K 52 L S M := by rfl
theorem r_Model_byteAt_53 {s_Model_isNode : aS} {J : aJ} {K : aR} {n : Nat} {L : aL} {S : List Value} {M : aM} : am_run (c_Model_byteAt s_Model_isNode) k_Model_byteAt J K (n + 1) 53 L S M = ai_getf 7 8 56 (am_run (c_Model_byteAt s_Model_isNode) k_Model_byteAt J K n) K 53 L S M := by rfl
theorem r_Model_byteAt_56 {s_Model_isNode : aS} {J : aJ} {K : aR} {n : Nat} {L : aL} {S : List Value} {M : aM} : am_run (c_Model_byteAt s_Model_isNode) k_Model_byteAt J K (n + 1) 56 L S M = ai_const 20 58 (am_run (c_Model_byteAt s_Model_isNode) k_Model_byteAt J K n) K 56 L S M := by rfl
theorem r_Model_byteAt_58 {s_Model_isNode : aS} {J : aJ} {K : aR} {n : Nat} {L : aL} {S : List Value} {M : aM} : am_run (c_Model_byteAt s_Model_isNode) k_Model_byteAt J K (n + 1) 58 L S M = ai_iload 1 59 (am_run (c_Model_byteAt s_Model_isNode) k_Model_byteAt J K n) K 58 L S M := by rfl
theorem r_Model_byteAt_59 {s_Model_isNode : aS} {J : aJ} {K : aR} {n : Nat} {L : aL} {S : List Value} {M : aM} : am_run (c_Model_byteAt s_Model_isNode) k_Model_byteAt J K (n + 1) 59 L S M = ai_imul 60 (am_run (c_Model_byteAt s_Model_isNode) k_Model_byteAt J K n) K 59 L S M := by rfl
theorem r_Model_byteAt_60 {s_Model_isNode : aS} {J : aJ} {K : aR} {n : Nat} {L : aL} {S : List Value} {M : aM} : am_run (c_Model_byteAt s_Model_isNode) k_Model_byteAt J K (n + 1) 60 L S M = ai_iload 2 61 (am_run (c_Model_byteAt s_Model_isNode) k_Model_byteAt J K n) K 60 L S M := by rfl
theorem r_Model_byteAt_61 {s_Model_isNode : aS} {J : aJ} {K : aR} {n : Nat} {L : aL} {S : List Value} {M : aM} : am_run (c_Model_byteAt s_Model_isNode) k_Model_byteAt J K (n + 1) 61 L S M = ai_iadd 62 (am_run (c_Model_byteAt s_Model_isNode) k_Model_byteAt J K n) K 61 L S M := by rfl
theorem r_Model_byteAt_62 {s_Model_isNode : aS} {J : aJ} {K : aR} {n : Nat} {L : aL} {S : List Value} {M : aM} : am_run (c_Model_byteAt s_Model_isNode) k_Model_byteAt J K (n + 1) 62 L S M = ai_iald 63 (am_run (c_Model_byteAt s_Model_isNode) k_Model_byteAt J K n) K 62 L S M := by rfl
theorem r_Model_byteAt_63 {s_Model_isNode : aS} {J : aJ} {K : aR} {n : Nat} {L : aL} {S : List Value} {M : aM} : am_run (c_Model_byteAt s_Model_isNode) k_Model_byteAt J K (n + 1) 63 L S M = ai_goto 67 (am_run (c_Model_byteAt s_Model_isNode) k_Model_byteAt J K n) K 63 L S M := by rfl
theorem r_Model_byteAt_66 {s_Model_isNode : aS} {J : aJ} {K : aR} {n : Nat} {L : aL} {S : List Value} {M : aM} : am_run (c_Model_byteAt s_Model_isNode) k_Model_byteAt J K (n + 1) 66 L S M = ai_const (-1) 67 (am_run (c_Model_byteAt s_Model_isNode) k_Model_byteAt J K n) K 66 L S M := by rfl
theorem r_Model_byteAt_67 {s_Model_isNode : aS} {J : aJ} {K : aR} {n : Nat} {L : aL} {S : List Value} {M : aM} : am_run (c_Model_byteAt s_Model_isNode) k_Model_byteAt J K (n + 1) 67 L S M = ai_iret (am_run (c_Model_byteAt s_Model_isNode) k_Model_byteAt J K n) K 67 L S M := by rfl
def c_Model_part (s_Model_isNode : aS) : List (Nat × aI) := [
  (0, ai_aload 0 1),
  (1, ai_iload 1 2),
  (2, ai_callv2 7 s_Model_isNode 5),
  (5, ai_ifeq 18 8),
  (8, ai_aload 0 9),
  (9, ai_getf 7 6 12),
  (12, ai_iload 1 13),
  (13, ai_iald 14),
  (14, ai_const 4 15),
  (15, ai_cmpeq 22 18),
  (18, ai_const (-1) 19),
  (19, ai_goto 50),
  (22, ai_iload 2 23),
  (23, ai_ifne 35 26),
  (26, ai_aload 0 27),
  (27, ai_getf 7 9 30),
  (30, ai_iload 1 31),
  (31, ai_iald 32),
  (32, ai_goto 50),
  (35, ai_iload 2 36),
  (36, ai_const 1 37),
  (37, ai_cmpne 49 40),
  (40, ai_aload 0 41),
  (41, ai_getf 7 10 44),
  (44, ai_iload 1 45),
  (45, ai_iald 46),
  (46, ai_goto 50),
  (49, ai_const (-1) 50),
  (50, ai_iret)]
set_option maxRecDepth 100000 in
set_option maxHeartbeats 4000000 in
theorem tb_Model_part {G : aG} {d : Nat} {s_Model_isNode : aS} {d_Model_isNode : Nat} (h_Model_isNode : am_Sp G Y_Model_isNode d_Model_isNode s_Model_isNode) (l_Model_isNode : d_Model_isNode < d) : am_tab G Y_Model_part d (c_Model_part s_Model_isNode) := by
  intro K p e s m args below meth c C
  exact ⟨as_aload_n C (pc := 0) (q := 0) (by decide +kernel) rfl rfl,
    as_iload_n C (pc := 1) (q := 1) (by decide +kernel) rfl rfl,
    as_callv2 C (pc := 2) h_Model_isNode (T := T_Model) (N := 21) rfl w_703 w_78 w_702 w_62 w_700 hy_Model_isNode (am_rm_of l_Model_isNode (by decide)) (by decide +kernel) rfl,
    as_ifeq C (pc := 5) (off := 13) (by decide +kernel) (by decide) rfl,
    as_aload_n C (pc := 8) (q := 0) (by decide +kernel) rfl rfl,
    as_getf C (pc := 9) (T := T_Model) (N := 21) rfl in_Model (by decide) rfl w_523 (by decide +kernel) rfl,
    as_iload_n C (pc := 12) (q := 1) (by decide +kernel) rfl rfl,
    as_iald C (pc := 13) (by decide +kernel) rfl,
    as_iconst C (pc := 14) (n := 4) (by decide +kernel) (by decide +kernel) rfl,
    as_cmpeq C (pc := 15) (off := 7) (by decide +kernel) (by decide) rfl,
    as_iconst C (pc := 18) (n := (-1)) (by decide +kernel) (by decide +kernel) rfl,
    as_goto C (pc := 19) (off := 31) (by decide +kernel) (by decide),
    as_iload_n C (pc := 22) (q := 2) (by decide +kernel) rfl rfl,
    as_ifne C (pc := 23) (off := 12) (by decide +kernel) (by decide) rfl,
    as_aload_n C (pc := 26) (q := 0) (by decide +kernel) rfl rfl,
    as_getf C (pc := 27) (T := T_Model) (N := 21) rfl in_Model (by decide) rfl w_526 (by decide +kernel) rfl,
    as_iload_n C (pc := 30) (q := 1) (by decide +kernel) rfl rfl,
    as_iald C (pc := 31) (by decide +kernel) rfl,
    as_goto C (pc := 32) (off := 18) (by decide +kernel) (by decide),
    as_iload_n C (pc := 35) (q := 2) (by decide +kernel) rfl rfl,
    as_iconst C (pc := 36) (n := 1) (by decide +kernel) (by decide +kernel) rfl,
    as_cmpne C (pc := 37) (off := 12) (by decide +kernel) (by decide) rfl,
    as_aload_n C (pc := 40) (q := 0) (by decide +kernel) rfl rfl,
    as_getf C (pc := 41) (T := T_Model) (N := 21) rfl in_Model (by decide) rfl w_527 (by decide +kernel) rfl,
    as_iload_n C (pc := 44) (q := 1) (by decide +kernel) rfl rfl,
    as_iald C (pc := 45) (by decide +kernel) rfl,
    as_goto C (pc := 46) (off := 4) (by decide +kernel) (by decide),
    as_iconst C (pc := 49) (n := (-1)) (by decide +kernel) (by decide +kernel) rfl,
    as_iret C (pc := 50) rfl (by decide +kernel), trivial⟩
abbrev k_Model_part : List Nat := []
theorem r_Model_part_0 {s_Model_isNode : aS} {J : aJ} {K : aR} {n : Nat} {L : aL} {S : List Value} {M : aM} : am_run (c_Model_part s_Model_isNode) k_Model_part J K (n + 1) 0 L S M = ai_aload 0 1 (am_run (c_Model_part s_Model_isNode) k_Model_part J K n) K 0 L S M := by rfl
theorem r_Model_part_1 {s_Model_isNode : aS} {J : aJ} {K : aR} {n : Nat} {L : aL} {S : List Value} {M : aM} : am_run (c_Model_part s_Model_isNode) k_Model_part J K (n + 1) 1 L S M = ai_iload 1 2 (am_run (c_Model_part s_Model_isNode) k_Model_part J K n) K 1 L S M := by rfl
theorem r_Model_part_2 {s_Model_isNode : aS} {J : aJ} {K : aR} {n : Nat} {L : aL} {S : List Value} {M : aM} : am_run (c_Model_part s_Model_isNode) k_Model_part J K (n + 1) 2 L S M = ai_callv2 7 s_Model_isNode 5 (am_run (c_Model_part s_Model_isNode) k_Model_part J K n) K 2 L S M := by rfl
theorem r_Model_part_5 {s_Model_isNode : aS} {J : aJ} {K : aR} {n : Nat} {L : aL} {S : List Value} {M : aM} : am_run (c_Model_part s_Model_isNode) k_Model_part J K (n + 1) 5 L S M = ai_ifeq 18 8 (am_run (c_Model_part s_Model_isNode) k_Model_part J K n) K 5 L S M := by rfl
theorem r_Model_part_8 {s_Model_isNode : aS} {J : aJ} {K : aR} {n : Nat} {L : aL} {S : List Value} {M : aM} : am_run (c_Model_part s_Model_isNode) k_Model_part J K (n + 1) 8 L S M = ai_aload 0 9 (am_run (c_Model_part s_Model_isNode) k_Model_part J K n) K 8 L S M := by rfl
theorem r_Model_part_9 {s_Model_isNode : aS} {J : aJ} {K : aR} {n : Nat} {L : aL} {S : List Value} {M : aM} : am_run (c_Model_part s_Model_isNode) k_Model_part J K (n + 1) 9 L S M = ai_getf 7 6 12 (am_run (c_Model_part s_Model_isNode) k_Model_part J K n) K 9 L S M := by rfl
theorem r_Model_part_12 {s_Model_isNode : aS} {J : aJ} {K : aR} {n : Nat} {L : aL} {S : List Value} {M : aM} : am_run (c_Model_part s_Model_isNode) k_Model_part J K (n + 1) 12 L S M = ai_iload 1 13 (am_run (c_Model_part s_Model_isNode) k_Model_part J K n) K 12 L S M := by rfl
theorem r_Model_part_13 {s_Model_isNode : aS} {J : aJ} {K : aR} {n : Nat} {L : aL} {S : List Value} {M : aM} : am_run (c_Model_part s_Model_isNode) k_Model_part J K (n + 1) 13 L S M = ai_iald 14 (am_run (c_Model_part s_Model_isNode) k_Model_part J K n) K 13 L S M := by rfl
theorem r_Model_part_14 {s_Model_isNode : aS} {J : aJ} {K : aR} {n : Nat} {L : aL} {S : List Value} {M : aM} : am_run (c_Model_part s_Model_isNode) k_Model_part J K (n + 1) 14 L S M = ai_const 4 15 (am_run (c_Model_part s_Model_isNode) k_Model_part J K n) K 14 L S M := by rfl
theorem r_Model_part_15 {s_Model_isNode : aS} {J : aJ} {K : aR} {n : Nat} {L : aL} {S : List Value} {M : aM} : am_run (c_Model_part s_Model_isNode) k_Model_part J K (n + 1) 15 L S M = ai_cmpeq 22 18 (am_run (c_Model_part s_Model_isNode) k_Model_part J K n) K 15 L S M := by rfl
theorem r_Model_part_18 {s_Model_isNode : aS} {J : aJ} {K : aR} {n : Nat} {L : aL} {S : List Value} {M : aM} : am_run (c_Model_part s_Model_isNode) k_Model_part J K (n + 1) 18 L S M = ai_const (-1) 19 (am_run (c_Model_part s_Model_isNode) k_Model_part J K n) K 18 L S M := by rfl
theorem r_Model_part_19 {s_Model_isNode : aS} {J : aJ} {K : aR} {n : Nat} {L : aL} {S : List Value} {M : aM} : am_run (c_Model_part s_Model_isNode) k_Model_part J K (n + 1) 19 L S M = ai_goto 50 (am_run (c_Model_part s_Model_isNode) k_Model_part J K n) K 19 L S M := by rfl
theorem r_Model_part_22 {s_Model_isNode : aS} {J : aJ} {K : aR} {n : Nat} {L : aL} {S : List Value} {M : aM} : am_run (c_Model_part s_Model_isNode) k_Model_part J K (n + 1) 22 L S M = ai_iload 2 23 (am_run (c_Model_part s_Model_isNode) k_Model_part J K n) K 22 L S M := by rfl
theorem r_Model_part_23 {s_Model_isNode : aS} {J : aJ} {K : aR} {n : Nat} {L : aL} {S : List Value} {M : aM} : am_run (c_Model_part s_Model_isNode) k_Model_part J K (n + 1) 23 L S M = ai_ifne 35 26 (am_run (c_Model_part s_Model_isNode) k_Model_part J K n) K 23 L S M := by rfl
theorem r_Model_part_26 {s_Model_isNode : aS} {J : aJ} {K : aR} {n : Nat} {L : aL} {S : List Value} {M : aM} : am_run (c_Model_part s_Model_isNode) k_Model_part J K (n + 1) 26 L S M = ai_aload 0 27 (am_run (c_Model_part s_Model_isNode) k_Model_part J K n) K 26 L S M := by rfl
theorem r_Model_part_27 {s_Model_isNode : aS} {J : aJ} {K : aR} {n : Nat} {L : aL} {S : List Value} {M : aM} : am_run (c_Model_part s_Model_isNode) k_Model_part J K (n + 1) 27 L S M = ai_getf 7 9 30 (am_run (c_Model_part s_Model_isNode) k_Model_part J K n) K 27 L S M := by rfl
theorem r_Model_part_30 {s_Model_isNode : aS} {J : aJ} {K : aR} {n : Nat} {L : aL} {S : List Value} {M : aM} : am_run (c_Model_part s_Model_isNode) k_Model_part J K (n + 1) 30 L S M = ai_iload 1 31 (am_run (c_Model_part s_Model_isNode) k_Model_part J K n) K 30 L S M := by rfl
theorem r_Model_part_31 {s_Model_isNode : aS} {J : aJ} {K : aR} {n : Nat} {L : aL} {S : List Value} {M : aM} : am_run (c_Model_part s_Model_isNode) k_Model_part J K (n + 1) 31 L S M = ai_iald 32 (am_run (c_Model_part s_Model_isNode) k_Model_part J K n) K 31 L S M := by rfl
theorem r_Model_part_32 {s_Model_isNode : aS} {J : aJ} {K : aR} {n : Nat} {L : aL} {S : List Value} {M : aM} : am_run (c_Model_part s_Model_isNode) k_Model_part J K (n + 1) 32 L S M = ai_goto 50 (am_run (c_Model_part s_Model_isNode) k_Model_part J K n) K 32 L S M := by rfl
theorem r_Model_part_35 {s_Model_isNode : aS} {J : aJ} {K : aR} {n : Nat} {L : aL} {S : List Value} {M : aM} : am_run (c_Model_part s_Model_isNode) k_Model_part J K (n + 1) 35 L S M = ai_iload 2 36 (am_run (c_Model_part s_Model_isNode) k_Model_part J K n) K 35 L S M := by rfl
theorem r_Model_part_36 {s_Model_isNode : aS} {J : aJ} {K : aR} {n : Nat} {L : aL} {S : List Value} {M : aM} : am_run (c_Model_part s_Model_isNode) k_Model_part J K (n + 1) 36 L S M = ai_const 1 37 (am_run (c_Model_part s_Model_isNode) k_Model_part J K n) K 36 L S M := by rfl
theorem r_Model_part_37 {s_Model_isNode : aS} {J : aJ} {K : aR} {n : Nat} {L : aL} {S : List Value} {M : aM} : am_run (c_Model_part s_Model_isNode) k_Model_part J K (n + 1) 37 L S M = ai_cmpne 49 40 (am_run (c_Model_part s_Model_isNode) k_Model_part J K n) K 37 L S M := by rfl
theorem r_Model_part_40 {s_Model_isNode : aS} {J : aJ} {K : aR} {n : Nat} {L : aL} {S : List Value} {M : aM} : am_run (c_Model_part s_Model_isNode) k_Model_part J K (n + 1) 40 L S M = ai_aload 0 41 (am_run (c_Model_part s_Model_isNode) k_Model_part J K n) K 40 L S M := by rfl
theorem r_Model_part_41 {s_Model_isNode : aS} {J : aJ} {K : aR} {n : Nat} {L : aL} {S : List Value} {M : aM} : am_run (c_Model_part s_Model_isNode) k_Model_part J K (n + 1) 41 L S M = ai_getf 7 10 44 (am_run (c_Model_part s_Model_isNode) k_Model_part J K n) K 41 L S M := by rfl
theorem r_Model_part_44 {s_Model_isNode : aS} {J : aJ} {K : aR} {n : Nat} {L : aL} {S : List Value} {M : aM} : am_run (c_Model_part s_Model_isNode) k_Model_part J K (n + 1) 44 L S M = ai_iload 1 45 (am_run (c_Model_part s_Model_isNode) k_Model_part J K n) K 44 L S M := by rfl
theorem r_Model_part_45 {s_Model_isNode : aS} {J : aJ} {K : aR} {n : Nat} {L : aL} {S : List Value} {M : aM} : am_run (c_Model_part s_Model_isNode) k_Model_part J K (n + 1) 45 L S M = ai_iald 46 (am_run (c_Model_part s_Model_isNode) k_Model_part J K n) K 45 L S M := by rfl
theorem r_Model_part_46 {s_Model_isNode : aS} {J : aJ} {K : aR} {n : Nat} {L : aL} {S : List Value} {M : aM} : am_run (c_Model_part s_Model_isNode) k_Model_part J K (n + 1) 46 L S M = ai_goto 50 (am_run (c_Model_part s_Model_isNode) k_Model_part J K n) K 46 L S M := by rfl
theorem r_Model_part_49 {s_Model_isNode : aS} {J : aJ} {K : aR} {n : Nat} {L : aL} {S : List Value} {M : aM} : am_run (c_Model_part s_Model_isNode) k_Model_part J K (n + 1) 49 L S M = ai_const (-1) 50 (am_run (c_Model_part s_Model_isNode) k_Model_part J K n) K 49 L S M := by rfl
theorem r_Model_part_50 {s_Model_isNode : aS} {J : aJ} {K : aR} {n : Nat} {L : aL} {S : List Value} {M : aM} : am_run (c_Model_part s_Model_isNode) k_Model_part J K (n + 1) 50 L S M = ai_iret (am_run (c_Model_part s_Model_isNode) k_Model_part J K n) K 50 L S M := by rfl
def c_Model_same : List (Nat × aI) := [
  (0, ai_aload 0 1),
  (1, ai_getf 7 6 4),
  (4, ai_iload 1 5),
  (5, ai_iald 6),
  (6, ai_aload 0 7),
  (7, ai_getf 7 6 10),
  (10, ai_iload 2 11),
  (11, ai_iald 12),
  (12, ai_cmpne 34 15),
  (15, ai_aload 0 16),
  (16, ai_getf 7 7 19),
  (19, ai_iload 1 20),
  (20, ai_iald 21),
  (21, ai_aload 0 22),
  (22, ai_getf 7 7 25),
  (25, ai_iload 2 26),
  (26, ai_iald 27),
  (27, ai_cmpne 34 30),
  (30, ai_const 1 31),
  (31, ai_goto 35),
  (34, ai_const 0 35),
  (35, ai_istore 3 36),
  (36, ai_aload 0 37),
  (37, ai_getf 7 6 40),
  (40, ai_iload 1 41),
  (41, ai_iald 42),
  (42, ai_const 2 43),
  (43, ai_cmpeq 56 46),
  (46, ai_aload 0 47),
  (47, ai_getf 7 6 50),
  (50, ai_iload 1 51),
  (51, ai_iald 52),
  (52, ai_const 3 53),
  (53, ai_cmpne 60 56),
  (56, ai_const 1 57),
  (57, ai_goto 61),
  (60, ai_const 0 61),
  (61, ai_istore 4 63),
  (63, ai_const 0 64),
  (64, ai_istore 5 66),
  (66, ai_iload 3 67),
  (67, ai_ifeq 125 70),
  (70, ai_iload 4 72),
  (72, ai_ifeq 125 75),
  (75, ai_iload 5 77),
  (77, ai_aload 0 78),
  (78, ai_getf 7 7 81),
  (81, ai_iload 1 82),
  (82, ai_iald 83),
  (83, ai_cmpge 125 86),
  (86, ai_aload 0 87),
  (87, ai_getf 7 8 90),
  (90, ai_const 20 92),
  (92, ai_iload 1 93),
  (93, ai_imul 94),
  (94, ai_iload 5 96),
  (96, ai_iadd 97),
  (97, ai_iald 98),
  (98, ai_aload 0 99),
  (99, ai_getf 7 8 102),
  (102, ai_const 20 104),
  (104, ai_iload 2 105),
  (105, ai_imul 106),
  (106, ai_iload 5 108),
  (108, ai_iadd 109),
  (109, ai_iald 110),
  (110, ai_cmpne 117 113),
  (113, ai_const 1 114),
  (114, ai_goto 118),
  (117, ai_const 0 118),
  (118, ai_istore 3 119),
  (119, ai_iinc 5 1 122),
  (122, ai_goto 66),
  (125, ai_iload 3 126),
  (126, ai_zret)]
set_option maxRecDepth 100000 in
set_option maxHeartbeats 4000000 in
theorem tb_Model_same {G : aG} {d : Nat} : am_tab G Y_Model_same d (c_Model_same) := by
  intro K p e s m args below meth c C
  exact ⟨as_aload_n C (pc := 0) (q := 0) (by decide +kernel) rfl rfl,
    as_getf C (pc := 1) (T := T_Model) (N := 21) rfl in_Model (by decide) rfl w_523 (by decide +kernel) rfl,
    as_iload_n C (pc := 4) (q := 1) (by decide +kernel) rfl rfl,
    as_iald C (pc := 5) (by decide +kernel) rfl,
    as_aload_n C (pc := 6) (q := 0) (by decide +kernel) rfl rfl,
    as_getf C (pc := 7) (T := T_Model) (N := 21) rfl in_Model (by decide) rfl w_523 (by decide +kernel) rfl,
    as_iload_n C (pc := 10) (q := 2) (by decide +kernel) rfl rfl,
    as_iald C (pc := 11) (by decide +kernel) rfl,
    as_cmpne C (pc := 12) (off := 22) (by decide +kernel) (by decide) rfl,
    as_aload_n C (pc := 15) (q := 0) (by decide +kernel) rfl rfl,
    as_getf C (pc := 16) (T := T_Model) (N := 21) rfl in_Model (by decide) rfl w_524 (by decide +kernel) rfl,
    as_iload_n C (pc := 19) (q := 1) (by decide +kernel) rfl rfl,
    as_iald C (pc := 20) (by decide +kernel) rfl,
    as_aload_n C (pc := 21) (q := 0) (by decide +kernel) rfl rfl,
    as_getf C (pc := 22) (T := T_Model) (N := 21) rfl in_Model (by decide) rfl w_524 (by decide +kernel) rfl,
    as_iload_n C (pc := 25) (q := 2) (by decide +kernel) rfl rfl,
    as_iald C (pc := 26) (by decide +kernel) rfl,
    as_cmpne C (pc := 27) (off := 7) (by decide +kernel) (by decide) rfl,
    as_iconst C (pc := 30) (n := 1) (by decide +kernel) (by decide +kernel) rfl,
    as_goto C (pc := 31) (off := 4) (by decide +kernel) (by decide),
    as_iconst C (pc := 34) (n := 0) (by decide +kernel) (by decide +kernel) rfl,
    as_istore_n C (pc := 35) (q := 3) (by decide +kernel) rfl (by decide) rfl,
    as_aload_n C (pc := 36) (q := 0) (by decide +kernel) rfl rfl,
    as_getf C (pc := 37) (T := T_Model) (N := 21) rfl in_Model (by decide) rfl w_523 (by decide +kernel) rfl,
    as_iload_n C (pc := 40) (q := 1) (by decide +kernel) rfl rfl,
    as_iald C (pc := 41) (by decide +kernel) rfl,
    as_iconst C (pc := 42) (n := 2) (by decide +kernel) (by decide +kernel) rfl,
    as_cmpeq C (pc := 43) (off := 13) (by decide +kernel) (by decide) rfl,
    as_aload_n C (pc := 46) (q := 0) (by decide +kernel) rfl rfl,
    as_getf C (pc := 47) (T := T_Model) (N := 21) rfl in_Model (by decide) rfl w_523 (by decide +kernel) rfl,
    as_iload_n C (pc := 50) (q := 1) (by decide +kernel) rfl rfl,
    as_iald C (pc := 51) (by decide +kernel) rfl,
    as_iconst C (pc := 52) (n := 3) (by decide +kernel) (by decide +kernel) rfl,
    as_cmpne C (pc := 53) (off := 7) (by decide +kernel) (by decide) rfl,
    as_iconst C (pc := 56) (n := 1) (by decide +kernel) (by decide +kernel) rfl,
    as_goto C (pc := 57) (off := 4) (by decide +kernel) (by decide),
    as_iconst C (pc := 60) (n := 0) (by decide +kernel) (by decide +kernel) rfl,
    as_istore C (pc := 61) (k := 4) (by decide +kernel) (by decide) rfl,
    as_iconst C (pc := 63) (n := 0) (by decide +kernel) (by decide +kernel) rfl,
    as_istore C (pc := 64) (k := 5) (by decide +kernel) (by decide) rfl,
    as_iload_n C (pc := 66) (q := 3) (by decide +kernel) rfl rfl,
    as_ifeq C (pc := 67) (off := 58) (by decide +kernel) (by decide) rfl,
    as_iload C (pc := 70) (k := 4) (by decide +kernel) rfl,
    as_ifeq C (pc := 72) (off := 53) (by decide +kernel) (by decide) rfl,
    as_iload C (pc := 75) (k := 5) (by decide +kernel) rfl,
    as_aload_n C (pc := 77) (q := 0) (by decide +kernel) rfl rfl,
    as_getf C (pc := 78) (T := T_Model) (N := 21) rfl in_Model (by decide) rfl w_524 (by decide +kernel) rfl,
    as_iload_n C (pc := 81) (q := 1) (by decide +kernel) rfl rfl,
    as_iald C (pc := 82) (by decide +kernel) rfl,
    as_cmpge C (pc := 83) (off := 42) (by decide +kernel) (by decide) rfl,
    as_aload_n C (pc := 86) (q := 0) (by decide +kernel) rfl rfl,
    as_getf C (pc := 87) (T := T_Model) (N := 21) rfl in_Model (by decide) rfl w_525 (by decide +kernel) rfl,
    as_bipush C (pc := 90) (n := 20) (by decide +kernel) (by decide +kernel) rfl,
    as_iload_n C (pc := 92) (q := 1) (by decide +kernel) rfl rfl,
    as_imul C (pc := 93) (by decide +kernel) rfl,
    as_iload C (pc := 94) (k := 5) (by decide +kernel) rfl,
    as_iadd C (pc := 96) (by decide +kernel) rfl,
    as_iald C (pc := 97) (by decide +kernel) rfl,
    as_aload_n C (pc := 98) (q := 0) (by decide +kernel) rfl rfl,
    as_getf C (pc := 99) (T := T_Model) (N := 21) rfl in_Model (by decide) rfl w_525 (by decide +kernel) rfl,
    as_bipush C (pc := 102) (n := 20) (by decide +kernel) (by decide +kernel) rfl,
    as_iload_n C (pc := 104) (q := 2) (by decide +kernel) rfl rfl,
    as_imul C (pc := 105) (by decide +kernel) rfl,
    as_iload C (pc := 106) (k := 5) (by decide +kernel) rfl,
    as_iadd C (pc := 108) (by decide +kernel) rfl,
    as_iald C (pc := 109) (by decide +kernel) rfl,
    as_cmpne C (pc := 110) (off := 7) (by decide +kernel) (by decide) rfl,
    as_iconst C (pc := 113) (n := 1) (by decide +kernel) (by decide +kernel) rfl,
    as_goto C (pc := 114) (off := 4) (by decide +kernel) (by decide),
    as_iconst C (pc := 117) (n := 0) (by decide +kernel) (by decide +kernel) rfl,
    as_istore_n C (pc := 118) (q := 3) (by decide +kernel) rfl (by decide) rfl,
    as_iinc C (pc := 119) (k := 5) (n := 1) (by decide +kernel) (by decide +kernel) (by decide) rfl,
    as_goto C (pc := 122) (off := (-56)) (by decide +kernel) (by decide),
    as_iload_n C (pc := 125) (q := 3) (by decide +kernel) rfl rfl,
    as_zret C (pc := 126) rfl (by decide +kernel), trivial⟩
abbrev k_Model_same : List Nat := [66]
set_option maxRecDepth 20000 in
theorem q_Model_same_66 : am_at (c_Model_same) 66 = ai_iload 3 67 := by rfl
set_option maxRecDepth 20000 in
theorem r_Model_same_0 {J : aJ} {K : aR} {n : Nat} {L : aL} {S : List Value} {M : aM} : am_run (c_Model_same) k_Model_same J K (n + 1) 0 L S M = ai_aload 0 1 (am_run (c_Model_same) k_Model_same J K n) K 0 L S M := by rfl
set_option maxRecDepth 20000 in
theorem r_Model_same_1 {J : aJ} {K : aR} {n : Nat} {L : aL} {S : List Value} {M : aM} : am_run (c_Model_same) k_Model_same J K (n + 1) 1 L S M = ai_getf 7 6 4 (am_run (c_Model_same) k_Model_same J K n) K 1 L S M := by rfl
set_option maxRecDepth 20000 in
theorem r_Model_same_4 {J : aJ} {K : aR} {n : Nat} {L : aL} {S : List Value} {M : aM} : am_run (c_Model_same) k_Model_same J K (n + 1) 4 L S M = ai_iload 1 5 (am_run (c_Model_same) k_Model_same J K n) K 4 L S M := by rfl
set_option maxRecDepth 20000 in
theorem r_Model_same_5 {J : aJ} {K : aR} {n : Nat} {L : aL} {S : List Value} {M : aM} : am_run (c_Model_same) k_Model_same J K (n + 1) 5 L S M = ai_iald 6 (am_run (c_Model_same) k_Model_same J K n) K 5 L S M := by rfl
set_option maxRecDepth 20000 in
theorem r_Model_same_6 {J : aJ} {K : aR} {n : Nat} {L : aL} {S : List Value} {M : aM} : am_run (c_Model_same) k_Model_same J K (n + 1) 6 L S M = ai_aload 0 7 (am_run (c_Model_same) k_Model_same J K n) K 6 L S M := by rfl
set_option maxRecDepth 20000 in
theorem r_Model_same_7 {J : aJ} {K : aR} {n : Nat} {L : aL} {S : List Value} {M : aM} : am_run (c_Model_same) k_Model_same J K (n + 1) 7 L S M = ai_getf 7 6 10 (am_run (c_Model_same) k_Model_same J K n) K 7 L S M := by rfl
set_option maxRecDepth 20000 in
theorem r_Model_same_10 {J : aJ} {K : aR} {n : Nat} {L : aL} {S : List Value} {M : aM} : am_run (c_Model_same) k_Model_same J K (n + 1) 10 L S M = ai_iload 2 11 (am_run (c_Model_same) k_Model_same J K n) K 10 L S M := by rfl
set_option maxRecDepth 20000 in
theorem r_Model_same_11 {J : aJ} {K : aR} {n : Nat} {L : aL} {S : List Value} {M : aM} : am_run (c_Model_same) k_Model_same J K (n + 1) 11 L S M = ai_iald 12 (am_run (c_Model_same) k_Model_same J K n) K 11 L S M := by rfl
set_option maxRecDepth 20000 in
theorem r_Model_same_12 {J : aJ} {K : aR} {n : Nat} {L : aL} {S : List Value} {M : aM} : am_run (c_Model_same) k_Model_same J K (n + 1) 12 L S M = ai_cmpne 34 15 (am_run (c_Model_same) k_Model_same J K n) K 12 L S M := by rfl
set_option maxRecDepth 20000 in
theorem r_Model_same_15 {J : aJ} {K : aR} {n : Nat} {L : aL} {S : List Value} {M : aM} : am_run (c_Model_same) k_Model_same J K (n + 1) 15 L S M = ai_aload 0 16 (am_run (c_Model_same) k_Model_same J K n) K 15 L S M := by rfl
set_option maxRecDepth 20000 in
theorem r_Model_same_16 {J : aJ} {K : aR} {n : Nat} {L : aL} {S : List Value} {M : aM} : am_run (c_Model_same) k_Model_same J K (n + 1) 16 L S M = ai_getf 7 7 19 (am_run (c_Model_same) k_Model_same J K n) K 16 L S M := by rfl
set_option maxRecDepth 20000 in
theorem r_Model_same_19 {J : aJ} {K : aR} {n : Nat} {L : aL} {S : List Value} {M : aM} : am_run (c_Model_same) k_Model_same J K (n + 1) 19 L S M = ai_iload 1 20 (am_run (c_Model_same) k_Model_same J K n) K 19 L S M := by rfl
set_option maxRecDepth 20000 in
theorem r_Model_same_20 {J : aJ} {K : aR} {n : Nat} {L : aL} {S : List Value} {M : aM} : am_run (c_Model_same) k_Model_same J K (n + 1) 20 L S M = ai_iald 21 (am_run (c_Model_same) k_Model_same J K n) K 20 L S M := by rfl
set_option maxRecDepth 20000 in
theorem r_Model_same_21 {J : aJ} {K : aR} {n : Nat} {L : aL} {S : List Value} {M : aM} : am_run (c_Model_same) k_Model_same J K (n + 1) 21 L S M = ai_aload 0 22 (am_run (c_Model_same) k_Model_same J K n) K 21 L S M := by rfl
set_option maxRecDepth 20000 in
theorem r_Model_same_22 {J : aJ} {K : aR} {n : Nat} {L : aL} {S : List Value} {M : aM} : am_run (c_Model_same) k_Model_same J K (n + 1) 22 L S M = ai_getf 7 7 25 (am_run (c_Model_same) k_Model_same J K n) K 22 L S M := by rfl
set_option maxRecDepth 20000 in
theorem r_Model_same_25 {J : aJ} {K : aR} {n : Nat} {L : aL} {S : List Value} {M : aM} : am_run (c_Model_same) k_Model_same J K (n + 1) 25 L S M = ai_iload 2 26 (am_run (c_Model_same) k_Model_same J K n) K 25 L S M := by rfl
set_option maxRecDepth 20000 in
theorem r_Model_same_26 {J : aJ} {K : aR} {n : Nat} {L : aL} {S : List Value} {M : aM} : am_run (c_Model_same) k_Model_same J K (n + 1) 26 L S M = ai_iald 27 (am_run (c_Model_same) k_Model_same J K n) K 26 L S M := by rfl
set_option maxRecDepth 20000 in
theorem r_Model_same_27 {J : aJ} {K : aR} {n : Nat} {L : aL} {S : List Value} {M : aM} : am_run (c_Model_same) k_Model_same J K (n + 1) 27 L S M = ai_cmpne 34 30 (am_run (c_Model_same) k_Model_same J K n) K 27 L S M := by rfl
set_option maxRecDepth 20000 in
theorem r_Model_same_30 {J : aJ} {K : aR} {n : Nat} {L : aL} {S : List Value} {M : aM} : am_run (c_Model_same) k_Model_same J K (n + 1) 30 L S M = ai_const 1 31 (am_run (c_Model_same) k_Model_same J K n) K 30 L S M := by rfl
set_option maxRecDepth 20000 in
theorem r_Model_same_31 {J : aJ} {K : aR} {n : Nat} {L : aL} {S : List Value} {M : aM} : am_run (c_Model_same) k_Model_same J K (n + 1) 31 L S M = ai_goto 35 (am_run (c_Model_same) k_Model_same J K n) K 31 L S M := by rfl
set_option maxRecDepth 20000 in
theorem r_Model_same_34 {J : aJ} {K : aR} {n : Nat} {L : aL} {S : List Value} {M : aM} : am_run (c_Model_same) k_Model_same J K (n + 1) 34 L S M = ai_const 0 35 (am_run (c_Model_same) k_Model_same J K n) K 34 L S M := by rfl
set_option maxRecDepth 20000 in
theorem r_Model_same_35 {J : aJ} {K : aR} {n : Nat} {L : aL} {S : List Value} {M : aM} : am_run (c_Model_same) k_Model_same J K (n + 1) 35 L S M = ai_istore 3 36 (am_run (c_Model_same) k_Model_same J K n) K 35 L S M := by rfl
set_option maxRecDepth 20000 in
theorem r_Model_same_36 {J : aJ} {K : aR} {n : Nat} {L : aL} {S : List Value} {M : aM} : am_run (c_Model_same) k_Model_same J K (n + 1) 36 L S M = ai_aload 0 37 (am_run (c_Model_same) k_Model_same J K n) K 36 L S M := by rfl
set_option maxRecDepth 20000 in
theorem r_Model_same_37 {J : aJ} {K : aR} {n : Nat} {L : aL} {S : List Value} {M : aM} : am_run (c_Model_same) k_Model_same J K (n + 1) 37 L S M = ai_getf 7 6 40 (am_run (c_Model_same) k_Model_same J K n) K 37 L S M := by rfl
set_option maxRecDepth 20000 in
theorem r_Model_same_40 {J : aJ} {K : aR} {n : Nat} {L : aL} {S : List Value} {M : aM} : am_run (c_Model_same) k_Model_same J K (n + 1) 40 L S M = ai_iload 1 41 (am_run (c_Model_same) k_Model_same J K n) K 40 L S M := by rfl
set_option maxRecDepth 20000 in
theorem r_Model_same_41 {J : aJ} {K : aR} {n : Nat} {L : aL} {S : List Value} {M : aM} : am_run (c_Model_same) k_Model_same J K (n + 1) 41 L S M = ai_iald 42 (am_run (c_Model_same) k_Model_same J K n) K 41 L S M := by rfl
set_option maxRecDepth 20000 in
theorem r_Model_same_42 {J : aJ} {K : aR} {n : Nat} {L : aL} {S : List Value} {M : aM} : am_run (c_Model_same) k_Model_same J K (n + 1) 42 L S M = ai_const 2 43 (am_run (c_Model_same) k_Model_same J K n) K 42 L S M := by rfl
set_option maxRecDepth 20000 in
theorem r_Model_same_43 {J : aJ} {K : aR} {n : Nat} {L : aL} {S : List Value} {M : aM} : am_run (c_Model_same) k_Model_same J K (n + 1) 43 L S M = ai_cmpeq 56 46 (am_run (c_Model_same) k_Model_same J K n) K 43 L S M := by rfl
set_option maxRecDepth 20000 in
theorem r_Model_same_46 {J : aJ} {K : aR} {n : Nat} {L : aL} {S : List Value} {M : aM} : am_run (c_Model_same) k_Model_same J K (n + 1) 46 L S M = ai_aload 0 47 (am_run (c_Model_same) k_Model_same J K n) K 46 L S M := by rfl
set_option maxRecDepth 20000 in
theorem r_Model_same_47 {J : aJ} {K : aR} {n : Nat} {L : aL} {S : List Value} {M : aM} : am_run (c_Model_same) k_Model_same J K (n + 1) 47 L S M = ai_getf 7 6 50 (am_run (c_Model_same) k_Model_same J K n) K 47 L S M := by rfl
set_option maxRecDepth 20000 in
theorem r_Model_same_50 {J : aJ} {K : aR} {n : Nat} {L : aL} {S : List Value} {M : aM} : am_run (c_Model_same) k_Model_same J K (n + 1) 50 L S M = ai_iload 1 51 (am_run (c_Model_same) k_Model_same J K n) K 50 L S M := by rfl
set_option maxRecDepth 20000 in
theorem r_Model_same_51 {J : aJ} {K : aR} {n : Nat} {L : aL} {S : List Value} {M : aM} : am_run (c_Model_same) k_Model_same J K (n + 1) 51 L S M = ai_iald 52 (am_run (c_Model_same) k_Model_same J K n) K 51 L S M := by rfl
set_option maxRecDepth 20000 in
theorem r_Model_same_52 {J : aJ} {K : aR} {n : Nat} {L : aL} {S : List Value} {M : aM} : am_run (c_Model_same) k_Model_same J K (n + 1) 52 L S M = ai_const 3 53 (am_run (c_Model_same) k_Model_same J K n) K 52 L S M := by rfl
set_option maxRecDepth 20000 in
theorem r_Model_same_53 {J : aJ} {K : aR} {n : Nat} {L : aL} {S : List Value} {M : aM} : am_run (c_Model_same) k_Model_same J K (n + 1) 53 L S M = ai_cmpne 60 56 (am_run (c_Model_same) k_Model_same J K n) K 53 L S M := by rfl
set_option maxRecDepth 20000 in
theorem r_Model_same_56 {J : aJ} {K : aR} {n : Nat} {L : aL} {S : List Value} {M : aM} : am_run (c_Model_same) k_Model_same J K (n + 1) 56 L S M = ai_const 1 57 (am_run (c_Model_same) k_Model_same J K n) K 56 L S M := by rfl
set_option maxRecDepth 20000 in
theorem r_Model_same_57 {J : aJ} {K : aR} {n : Nat} {L : aL} {S : List Value} {M : aM} : am_run (c_Model_same) k_Model_same J K (n + 1) 57 L S M = ai_goto 61 (am_run (c_Model_same) k_Model_same J K n) K 57 L S M := by rfl
set_option maxRecDepth 20000 in
theorem r_Model_same_60 {J : aJ} {K : aR} {n : Nat} {L : aL} {S : List Value} {M : aM} : am_run (c_Model_same) k_Model_same J K (n + 1) 60 L S M = ai_const 0 61 (am_run (c_Model_same) k_Model_same J K n) K 60 L S M := by rfl
set_option maxRecDepth 20000 in
theorem r_Model_same_61 {J : aJ} {K : aR} {n : Nat} {L : aL} {S : List Value} {M : aM} : am_run (c_Model_same) k_Model_same J K (n + 1) 61 L S M = ai_istore 4 63 (am_run (c_Model_same) k_Model_same J K n) K 61 L S M := by rfl
set_option maxRecDepth 20000 in
theorem r_Model_same_63 {J : aJ} {K : aR} {n : Nat} {L : aL} {S : List Value} {M : aM} : am_run (c_Model_same) k_Model_same J K (n + 1) 63 L S M = ai_const 0 64 (am_run (c_Model_same) k_Model_same J K n) K 63 L S M := by rfl
set_option maxRecDepth 20000 in
theorem r_Model_same_64 {J : aJ} {K : aR} {n : Nat} {L : aL} {S : List Value} {M : aM} : am_run (c_Model_same) k_Model_same J K (n + 1) 64 L S M = ai_istore 5 66 (am_run (c_Model_same) k_Model_same J K n) K 64 L S M := by rfl
set_option maxRecDepth 20000 in
theorem r_Model_same_66 {J : aJ} {K : aR} {n : Nat} {L : aL} {S : List Value} {M : aM} : am_run (c_Model_same) k_Model_same J K (n + 1) 66 L S M = J 66 L S M := by rfl
set_option maxRecDepth 20000 in
theorem r_Model_same_67 {J : aJ} {K : aR} {n : Nat} {L : aL} {S : List Value} {M : aM} : am_run (c_Model_same) k_Model_same J K (n + 1) 67 L S M = ai_ifeq 125 70 (am_run (c_Model_same) k_Model_same J K n) K 67 L S M := by rfl
set_option maxRecDepth 20000 in
theorem r_Model_same_70 {J : aJ} {K : aR} {n : Nat} {L : aL} {S : List Value} {M : aM} : am_run (c_Model_same) k_Model_same J K (n + 1) 70 L S M = ai_iload 4 72 (am_run (c_Model_same) k_Model_same J K n) K 70 L S M := by rfl
set_option maxRecDepth 20000 in
theorem r_Model_same_72 {J : aJ} {K : aR} {n : Nat} {L : aL} {S : List Value} {M : aM} : am_run (c_Model_same) k_Model_same J K (n + 1) 72 L S M = ai_ifeq 125 75 (am_run (c_Model_same) k_Model_same J K n) K 72 L S M := by rfl
set_option maxRecDepth 20000 in
theorem r_Model_same_75 {J : aJ} {K : aR} {n : Nat} {L : aL} {S : List Value} {M : aM} : am_run (c_Model_same) k_Model_same J K (n + 1) 75 L S M = ai_iload 5 77 (am_run (c_Model_same) k_Model_same J K n) K 75 L S M := by rfl
set_option maxRecDepth 20000 in
theorem r_Model_same_77 {J : aJ} {K : aR} {n : Nat} {L : aL} {S : List Value} {M : aM} : am_run (c_Model_same) k_Model_same J K (n + 1) 77 L S M = ai_aload 0 78 (am_run (c_Model_same) k_Model_same J K n) K 77 L S M := by rfl
set_option maxRecDepth 20000 in
theorem r_Model_same_78 {J : aJ} {K : aR} {n : Nat} {L : aL} {S : List Value} {M : aM} : am_run (c_Model_same) k_Model_same J K (n + 1) 78 L S M = ai_getf 7 7 81 (am_run (c_Model_same) k_Model_same J K n) K 78 L S M := by rfl
set_option maxRecDepth 20000 in
theorem r_Model_same_81 {J : aJ} {K : aR} {n : Nat} {L : aL} {S : List Value} {M : aM} : am_run (c_Model_same) k_Model_same J K (n + 1) 81 L S M = ai_iload 1 82 (am_run (c_Model_same) k_Model_same J K n) K 81 L S M := by rfl
set_option maxRecDepth 20000 in
theorem r_Model_same_82 {J : aJ} {K : aR} {n : Nat} {L : aL} {S : List Value} {M : aM} : am_run (c_Model_same) k_Model_same J K (n + 1) 82 L S M = ai_iald 83 (am_run (c_Model_same) k_Model_same J K n) K 82 L S M := by rfl
set_option maxRecDepth 20000 in
theorem r_Model_same_83 {J : aJ} {K : aR} {n : Nat} {L : aL} {S : List Value} {M : aM} : am_run (c_Model_same) k_Model_same J K (n + 1) 83 L S M = ai_cmpge 125 86 (am_run (c_Model_same) k_Model_same J K n) K 83 L S M := by rfl
set_option maxRecDepth 20000 in
theorem r_Model_same_86 {J : aJ} {K : aR} {n : Nat} {L : aL} {S : List Value} {M : aM} : am_run (c_Model_same) k_Model_same J K (n + 1) 86 L S M = ai_aload 0 87 (am_run (c_Model_same) k_Model_same J K n) K 86 L S M := by rfl
set_option maxRecDepth 20000 in
theorem r_Model_same_87 {J : aJ} {K : aR} {n : Nat} {L : aL} {S : List Value} {M : aM} : am_run (c_Model_same) k_Model_same J K (n + 1) 87 L S M = ai_getf 7 8 90 (am_run (c_Model_same) k_Model_same J K n) K 87 L S M := by rfl
set_option maxRecDepth 20000 in
theorem r_Model_same_90 {J : aJ} {K : aR} {n : Nat} {L : aL} {S : List Value} {M : aM} : am_run (c_Model_same) k_Model_same J K (n + 1) 90 L S M = ai_const 20 92 (am_run (c_Model_same) k_Model_same J K n) K 90 L S M := by rfl
set_option maxRecDepth 20000 in
theorem r_Model_same_92 {J : aJ} {K : aR} {n : Nat} {L : aL} {S : List Value} {M : aM} : am_run (c_Model_same) k_Model_same J K (n + 1) 92 L S M = ai_iload 1 93 (am_run (c_Model_same) k_Model_same J K n) K 92 L S M := by rfl
set_option maxRecDepth 20000 in
theorem r_Model_same_93 {J : aJ} {K : aR} {n : Nat} {L : aL} {S : List Value} {M : aM} : am_run (c_Model_same) k_Model_same J K (n + 1) 93 L S M = ai_imul 94 (am_run (c_Model_same) k_Model_same J K n) K 93 L S M := by rfl
set_option maxRecDepth 20000 in
theorem r_Model_same_94 {J : aJ} {K : aR} {n : Nat} {L : aL} {S : List Value} {M : aM} : am_run (c_Model_same) k_Model_same J K (n + 1) 94 L S M = ai_iload 5 96 (am_run (c_Model_same) k_Model_same J K n) K 94 L S M := by rfl
set_option maxRecDepth 20000 in
theorem r_Model_same_96 {J : aJ} {K : aR} {n : Nat} {L : aL} {S : List Value} {M : aM} : am_run (c_Model_same) k_Model_same J K (n + 1) 96 L S M = ai_iadd 97 (am_run (c_Model_same) k_Model_same J K n) K 96 L S M := by rfl
set_option maxRecDepth 20000 in
theorem r_Model_same_97 {J : aJ} {K : aR} {n : Nat} {L : aL} {S : List Value} {M : aM} : am_run (c_Model_same) k_Model_same J K (n + 1) 97 L S M = ai_iald 98 (am_run (c_Model_same) k_Model_same J K n) K 97 L S M := by rfl
set_option maxRecDepth 20000 in
theorem r_Model_same_98 {J : aJ} {K : aR} {n : Nat} {L : aL} {S : List Value} {M : aM} : am_run (c_Model_same) k_Model_same J K (n + 1) 98 L S M = ai_aload 0 99 (am_run (c_Model_same) k_Model_same J K n) K 98 L S M := by rfl
set_option maxRecDepth 20000 in
theorem r_Model_same_99 {J : aJ} {K : aR} {n : Nat} {L : aL} {S : List Value} {M : aM} : am_run (c_Model_same) k_Model_same J K (n + 1) 99 L S M = ai_getf 7 8 102 (am_run (c_Model_same) k_Model_same J K n) K 99 L S M := by rfl
set_option maxRecDepth 20000 in
theorem r_Model_same_102 {J : aJ} {K : aR} {n : Nat} {L : aL} {S : List Value} {M : aM} : am_run (c_Model_same) k_Model_same J K (n + 1) 102 L S M = ai_const 20 104 (am_run (c_Model_same) k_Model_same J K n) K 102 L S M := by rfl
set_option maxRecDepth 20000 in
theorem r_Model_same_104 {J : aJ} {K : aR} {n : Nat} {L : aL} {S : List Value} {M : aM} : am_run (c_Model_same) k_Model_same J K (n + 1) 104 L S M = ai_iload 2 105 (am_run (c_Model_same) k_Model_same J K n) K 104 L S M := by rfl
set_option maxRecDepth 20000 in
theorem r_Model_same_105 {J : aJ} {K : aR} {n : Nat} {L : aL} {S : List Value} {M : aM} : am_run (c_Model_same) k_Model_same J K (n + 1) 105 L S M = ai_imul 106 (am_run (c_Model_same) k_Model_same J K n) K 105 L S M := by rfl
set_option maxRecDepth 20000 in
theorem r_Model_same_106 {J : aJ} {K : aR} {n : Nat} {L : aL} {S : List Value} {M : aM} : am_run (c_Model_same) k_Model_same J K (n + 1) 106 L S M = ai_iload 5 108 (am_run (c_Model_same) k_Model_same J K n) K 106 L S M := by rfl
set_option maxRecDepth 20000 in
theorem r_Model_same_108 {J : aJ} {K : aR} {n : Nat} {L : aL} {S : List Value} {M : aM} : am_run (c_Model_same) k_Model_same J K (n + 1) 108 L S M = ai_iadd 109 (am_run (c_Model_same) k_Model_same J K n) K 108 L S M := by rfl
set_option maxRecDepth 20000 in
theorem r_Model_same_109 {J : aJ} {K : aR} {n : Nat} {L : aL} {S : List Value} {M : aM} : am_run (c_Model_same) k_Model_same J K (n + 1) 109 L S M = ai_iald 110 (am_run (c_Model_same) k_Model_same J K n) K 109 L S M := by rfl
set_option maxRecDepth 20000 in
theorem r_Model_same_110 {J : aJ} {K : aR} {n : Nat} {L : aL} {S : List Value} {M : aM} : am_run (c_Model_same) k_Model_same J K (n + 1) 110 L S M = ai_cmpne 117 113 (am_run (c_Model_same) k_Model_same J K n) K 110 L S M := by rfl
set_option maxRecDepth 20000 in
theorem r_Model_same_113 {J : aJ} {K : aR} {n : Nat} {L : aL} {S : List Value} {M : aM} : am_run (c_Model_same) k_Model_same J K (n + 1) 113 L S M = ai_const 1 114 (am_run (c_Model_same) k_Model_same J K n) K 113 L S M := by rfl
set_option maxRecDepth 20000 in
theorem r_Model_same_114 {J : aJ} {K : aR} {n : Nat} {L : aL} {S : List Value} {M : aM} : am_run (c_Model_same) k_Model_same J K (n + 1) 114 L S M = ai_goto 118 (am_run (c_Model_same) k_Model_same J K n) K 114 L S M := by rfl
set_option maxRecDepth 20000 in
theorem r_Model_same_117 {J : aJ} {K : aR} {n : Nat} {L : aL} {S : List Value} {M : aM} : am_run (c_Model_same) k_Model_same J K (n + 1) 117 L S M = ai_const 0 118 (am_run (c_Model_same) k_Model_same J K n) K 117 L S M := by rfl
set_option maxRecDepth 20000 in
theorem r_Model_same_118 {J : aJ} {K : aR} {n : Nat} {L : aL} {S : List Value} {M : aM} : am_run (c_Model_same) k_Model_same J K (n + 1) 118 L S M = ai_istore 3 119 (am_run (c_Model_same) k_Model_same J K n) K 118 L S M := by rfl
set_option maxRecDepth 20000 in
theorem r_Model_same_119 {J : aJ} {K : aR} {n : Nat} {L : aL} {S : List Value} {M : aM} : am_run (c_Model_same) k_Model_same J K (n + 1) 119 L S M = ai_iinc 5 1 122 (am_run (c_Model_same) k_Model_same J K n) K 119 L S M := by rfl
set_option maxRecDepth 20000 in
theorem r_Model_same_122 {J : aJ} {K : aR} {n : Nat} {L : aL} {S : List Value} {M : aM} : am_run (c_Model_same) k_Model_same J K (n + 1) 122 L S M = ai_goto 66 (am_run (c_Model_same) k_Model_same J K n) K 122 L S M := by rfl
set_option maxRecDepth 20000 in
theorem r_Model_same_125 {J : aJ} {K : aR} {n : Nat} {L : aL} {S : List Value} {M : aM} : am_run (c_Model_same) k_Model_same J K (n + 1) 125 L S M = ai_iload 3 126 (am_run (c_Model_same) k_Model_same J K n) K 125 L S M := by rfl
set_option maxRecDepth 20000 in
theorem r_Model_same_126 {J : aJ} {K : aR} {n : Nat} {L : aL} {S : List Value} {M : aM} : am_run (c_Model_same) k_Model_same J K (n + 1) 126 L S M = ai_zret (am_run (c_Model_same) k_Model_same J K n) K 126 L S M := by rfl
def c_Model_like (s_Model_isNode : aS) (s_Model_same : aS) : List (Nat × aI) := [
  (0, ai_aload 0 1),
  (1, ai_iload 1 2),
  (2, ai_callv2 7 s_Model_isNode 5),
  (5, ai_ifeq 16 8),
  (8, ai_aload 0 9),
  (9, ai_iload 2 10),
  (10, ai_callv2 7 s_Model_isNode 13),
  (13, ai_ifne 18 16),
  (16, ai_const 0 17),
  (17, ai_zret),
  (18, ai_aload 0 19),
  (19, ai_getf 7 19 22),
  (22, ai_const 0 23),
  (23, ai_iload 1 24),
  (24, ai_iast 25),
  (25, ai_aload 0 26),
  (26, ai_getf 7 20 29),
  (29, ai_const 0 30),
  (30, ai_iload 2 31),
  (31, ai_iast 32),
  (32, ai_const 1 33),
  (33, ai_istore 3 34),
  (34, ai_const 1 35),
  (35, ai_istore 4 37),
  (37, ai_iload 3 38),
  (38, ai_ifle 155 41),
  (41, ai_iload 4 43),
  (43, ai_ifeq 155 46),
  (46, ai_iload 3 47),
  (47, ai_const 1 48),
  (48, ai_isub 49),
  (49, ai_istore 3 50),
  (50, ai_aload 0 51),
  (51, ai_getf 7 19 54),
  (54, ai_iload 3 55),
  (55, ai_iald 56),
  (56, ai_istore 5 58),
  (58, ai_aload 0 59),
  (59, ai_getf 7 20 62),
  (62, ai_iload 3 63),
  (63, ai_iald 64),
  (64, ai_istore 6 66),
  (66, ai_aload 0 67),
  (67, ai_iload 5 69),
  (69, ai_iload 6 71),
  (71, ai_callv3 7 s_Model_same 74),
  (74, ai_istore 4 76),
  (76, ai_iload 4 78),
  (78, ai_ifeq 152 81),
  (81, ai_aload 0 82),
  (82, ai_getf 7 6 85),
  (85, ai_iload 5 87),
  (87, ai_iald 88),
  (88, ai_const 4 89),
  (89, ai_cmpne 152 92),
  (92, ai_aload 0 93),
  (93, ai_getf 7 19 96),
  (96, ai_iload 3 97),
  (97, ai_aload 0 98),
  (98, ai_getf 7 10 101),
  (101, ai_iload 5 103),
  (103, ai_iald 104),
  (104, ai_iast 105),
  (105, ai_aload 0 106),
  (106, ai_getf 7 20 109),
  (109, ai_iload 3 110),
  (110, ai_aload 0 111),
  (111, ai_getf 7 10 114),
  (114, ai_iload 6 116),
  (116, ai_iald 117),
  (117, ai_iast 118),
  (118, ai_aload 0 119),
  (119, ai_getf 7 19 122),
  (122, ai_iload 3 123),
  (123, ai_const 1 124),
  (124, ai_iadd 125),
  (125, ai_aload 0 126),
  (126, ai_getf 7 9 129),
  (129, ai_iload 5 131),
  (131, ai_iald 132),
  (132, ai_iast 133),
  (133, ai_aload 0 134),
  (134, ai_getf 7 20 137),
  (137, ai_iload 3 138),
  (138, ai_const 1 139),
  (139, ai_iadd 140),
  (140, ai_aload 0 141),
  (141, ai_getf 7 9 144),
  (144, ai_iload 6 146),
  (146, ai_iald 147),
  (147, ai_iast 148),
  (148, ai_iload 3 149),
  (149, ai_const 2 150),
  (150, ai_iadd 151),
  (151, ai_istore 3 152),
  (152, ai_goto 37),
  (155, ai_iload 4 157),
  (157, ai_zret)]
set_option maxRecDepth 100000 in
set_option maxHeartbeats 4000000 in
theorem tb_Model_like {G : aG} {d : Nat} {s_Model_isNode : aS} {d_Model_isNode : Nat} (h_Model_isNode : am_Sp G Y_Model_isNode d_Model_isNode s_Model_isNode) (l_Model_isNode : d_Model_isNode < d) {s_Model_same : aS} {d_Model_same : Nat} (h_Model_same : am_Sp G Y_Model_same d_Model_same s_Model_same) (l_Model_same : d_Model_same < d) : am_tab G Y_Model_like d (c_Model_like s_Model_isNode s_Model_same) := by
  intro K p e s m args below meth c C
  exact ⟨as_aload_n C (pc := 0) (q := 0) (by decide +kernel) rfl rfl,
    as_iload_n C (pc := 1) (q := 1) (by decide +kernel) rfl rfl,
    as_callv2 C (pc := 2) h_Model_isNode (T := T_Model) (N := 21) rfl w_703 w_78 w_702 w_62 w_700 hy_Model_isNode (am_rm_of l_Model_isNode (by decide)) (by decide +kernel) rfl,
    as_ifeq C (pc := 5) (off := 11) (by decide +kernel) (by decide) rfl,
    as_aload_n C (pc := 8) (q := 0) (by decide +kernel) rfl rfl,
    as_iload_n C (pc := 9) (q := 2) (by decide +kernel) rfl rfl,
    as_callv2 C (pc := 10) h_Model_isNode (T := T_Model) (N := 21) rfl w_703 w_78 w_702 w_62 w_700 hy_Model_isNode (am_rm_of l_Model_isNode (by decide)) (by decide +kernel) rfl,
    as_ifne C (pc := 13) (off := 5) (by decide +kernel) (by decide) rfl,
    as_iconst C (pc := 16) (n := 0) (by decide +kernel) (by decide +kernel) rfl,
    as_zret C (pc := 17) rfl (by decide +kernel),
    as_aload_n C (pc := 18) (q := 0) (by decide +kernel) rfl rfl,
    as_getf C (pc := 19) (T := T_Model) (N := 21) rfl in_Model (by decide) rfl w_536 (by decide +kernel) rfl,
    as_iconst C (pc := 22) (n := 0) (by decide +kernel) (by decide +kernel) rfl,
    as_iload_n C (pc := 23) (q := 1) (by decide +kernel) rfl rfl,
    as_iast C (pc := 24) (by decide +kernel) rfl,
    as_aload_n C (pc := 25) (q := 0) (by decide +kernel) rfl rfl,
    as_getf C (pc := 26) (T := T_Model) (N := 21) rfl in_Model (by decide) rfl w_537 (by decide +kernel) rfl,
    as_iconst C (pc := 29) (n := 0) (by decide +kernel) (by decide +kernel) rfl,
    as_iload_n C (pc := 30) (q := 2) (by decide +kernel) rfl rfl,
    as_iast C (pc := 31) (by decide +kernel) rfl,
    as_iconst C (pc := 32) (n := 1) (by decide +kernel) (by decide +kernel) rfl,
    as_istore_n C (pc := 33) (q := 3) (by decide +kernel) rfl (by decide) rfl,
    as_iconst C (pc := 34) (n := 1) (by decide +kernel) (by decide +kernel) rfl,
    as_istore C (pc := 35) (k := 4) (by decide +kernel) (by decide) rfl,
    as_iload_n C (pc := 37) (q := 3) (by decide +kernel) rfl rfl,
    as_ifle C (pc := 38) (off := 117) (by decide +kernel) (by decide) rfl,
    as_iload C (pc := 41) (k := 4) (by decide +kernel) rfl,
    as_ifeq C (pc := 43) (off := 112) (by decide +kernel) (by decide) rfl,
    as_iload_n C (pc := 46) (q := 3) (by decide +kernel) rfl rfl,
    as_iconst C (pc := 47) (n := 1) (by decide +kernel) (by decide +kernel) rfl,
    as_isub C (pc := 48) (by decide +kernel) rfl,
    as_istore_n C (pc := 49) (q := 3) (by decide +kernel) rfl (by decide) rfl,
    as_aload_n C (pc := 50) (q := 0) (by decide +kernel) rfl rfl,
    as_getf C (pc := 51) (T := T_Model) (N := 21) rfl in_Model (by decide) rfl w_536 (by decide +kernel) rfl,
    as_iload_n C (pc := 54) (q := 3) (by decide +kernel) rfl rfl,
    as_iald C (pc := 55) (by decide +kernel) rfl,
    as_istore C (pc := 56) (k := 5) (by decide +kernel) (by decide) rfl,
    as_aload_n C (pc := 58) (q := 0) (by decide +kernel) rfl rfl,
    as_getf C (pc := 59) (T := T_Model) (N := 21) rfl in_Model (by decide) rfl w_537 (by decide +kernel) rfl,
    as_iload_n C (pc := 62) (q := 3) (by decide +kernel) rfl rfl,
    as_iald C (pc := 63) (by decide +kernel) rfl,
    as_istore C (pc := 64) (k := 6) (by decide +kernel) (by decide) rfl,
    as_aload_n C (pc := 66) (q := 0) (by decide +kernel) rfl rfl,
    as_iload C (pc := 67) (k := 5) (by decide +kernel) rfl,
    as_iload C (pc := 69) (k := 6) (by decide +kernel) rfl,
    as_callv3 C (pc := 71) h_Model_same (T := T_Model) (N := 21) rfl w_723 w_78 w_722 w_63 w_720 hy_Model_same (am_rm_of l_Model_same (by decide)) (by decide +kernel) rfl,
    as_istore C (pc := 74) (k := 4) (by decide +kernel) (by decide) rfl,
    as_iload C (pc := 76) (k := 4) (by decide +kernel) rfl,
    as_ifeq C (pc := 78) (off := 74) (by decide +kernel) (by decide) rfl,
    as_aload_n C (pc := 81) (q := 0) (by decide +kernel) rfl rfl,
    as_getf C (pc := 82) (T := T_Model) (N := 21) rfl in_Model (by decide) rfl w_523 (by decide +kernel) rfl,
    as_iload C (pc := 85) (k := 5) (by decide +kernel) rfl,
    as_iald C (pc := 87) (by decide +kernel) rfl,
    as_iconst C (pc := 88) (n := 4) (by decide +kernel) (by decide +kernel) rfl,
    as_cmpne C (pc := 89) (off := 63) (by decide +kernel) (by decide) rfl,
    as_aload_n C (pc := 92) (q := 0) (by decide +kernel) rfl rfl,
    as_getf C (pc := 93) (T := T_Model) (N := 21) rfl in_Model (by decide) rfl w_536 (by decide +kernel) rfl,
    as_iload_n C (pc := 96) (q := 3) (by decide +kernel) rfl rfl,
    as_aload_n C (pc := 97) (q := 0) (by decide +kernel) rfl rfl,
    as_getf C (pc := 98) (T := T_Model) (N := 21) rfl in_Model (by decide) rfl w_527 (by decide +kernel) rfl,
    as_iload C (pc := 101) (k := 5) (by decide +kernel) rfl,
    as_iald C (pc := 103) (by decide +kernel) rfl,
    as_iast C (pc := 104) (by decide +kernel) rfl,
    as_aload_n C (pc := 105) (q := 0) (by decide +kernel) rfl rfl,
    as_getf C (pc := 106) (T := T_Model) (N := 21) rfl in_Model (by decide) rfl w_537 (by decide +kernel) rfl,
    as_iload_n C (pc := 109) (q := 3) (by decide +kernel) rfl rfl,
    as_aload_n C (pc := 110) (q := 0) (by decide +kernel) rfl rfl,
    as_getf C (pc := 111) (T := T_Model) (N := 21) rfl in_Model (by decide) rfl w_527 (by decide +kernel) rfl,
    as_iload C (pc := 114) (k := 6) (by decide +kernel) rfl,
    as_iald C (pc := 116) (by decide +kernel) rfl,
    as_iast C (pc := 117) (by decide +kernel) rfl,
    as_aload_n C (pc := 118) (q := 0) (by decide +kernel) rfl rfl,
    as_getf C (pc := 119) (T := T_Model) (N := 21) rfl in_Model (by decide) rfl w_536 (by decide +kernel) rfl,
    as_iload_n C (pc := 122) (q := 3) (by decide +kernel) rfl rfl,
    as_iconst C (pc := 123) (n := 1) (by decide +kernel) (by decide +kernel) rfl,
    as_iadd C (pc := 124) (by decide +kernel) rfl,
    as_aload_n C (pc := 125) (q := 0) (by decide +kernel) rfl rfl,
    as_getf C (pc := 126) (T := T_Model) (N := 21) rfl in_Model (by decide) rfl w_526 (by decide +kernel) rfl,
    as_iload C (pc := 129) (k := 5) (by decide +kernel) rfl,
    as_iald C (pc := 131) (by decide +kernel) rfl,
    as_iast C (pc := 132) (by decide +kernel) rfl,
    as_aload_n C (pc := 133) (q := 0) (by decide +kernel) rfl rfl,
    as_getf C (pc := 134) (T := T_Model) (N := 21) rfl in_Model (by decide) rfl w_537 (by decide +kernel) rfl,
    as_iload_n C (pc := 137) (q := 3) (by decide +kernel) rfl rfl,
    as_iconst C (pc := 138) (n := 1) (by decide +kernel) (by decide +kernel) rfl,
    as_iadd C (pc := 139) (by decide +kernel) rfl,
    as_aload_n C (pc := 140) (q := 0) (by decide +kernel) rfl rfl,
    as_getf C (pc := 141) (T := T_Model) (N := 21) rfl in_Model (by decide) rfl w_526 (by decide +kernel) rfl,
    as_iload C (pc := 144) (k := 6) (by decide +kernel) rfl,
    as_iald C (pc := 146) (by decide +kernel) rfl,
    as_iast C (pc := 147) (by decide +kernel) rfl,
    as_iload_n C (pc := 148) (q := 3) (by decide +kernel) rfl rfl,
    as_iconst C (pc := 149) (n := 2) (by decide +kernel) (by decide +kernel) rfl,
    as_iadd C (pc := 150) (by decide +kernel) rfl,
    as_istore_n C (pc := 151) (q := 3) (by decide +kernel) rfl (by decide) rfl,
    as_goto C (pc := 152) (off := (-115)) (by decide +kernel) (by decide),
    as_iload C (pc := 155) (k := 4) (by decide +kernel) rfl,
    as_zret C (pc := 157) rfl (by decide +kernel), trivial⟩
abbrev k_Model_like : List Nat := [37]
set_option maxRecDepth 20000 in
theorem q_Model_like_37 {s_Model_isNode : aS} {s_Model_same : aS} : am_at (c_Model_like s_Model_isNode s_Model_same) 37 = ai_iload 3 38 := by rfl
set_option maxRecDepth 20000 in
theorem r_Model_like_0 {s_Model_isNode : aS} {s_Model_same : aS} {J : aJ} {K : aR} {n : Nat} {L : aL} {S : List Value} {M : aM} : am_run (c_Model_like s_Model_isNode s_Model_same) k_Model_like J K (n + 1) 0 L S M = ai_aload 0 1 (am_run (c_Model_like s_Model_isNode s_Model_same) k_Model_like J K n) K 0 L S M := by rfl
set_option maxRecDepth 20000 in
theorem r_Model_like_1 {s_Model_isNode : aS} {s_Model_same : aS} {J : aJ} {K : aR} {n : Nat} {L : aL} {S : List Value} {M : aM} : am_run (c_Model_like s_Model_isNode s_Model_same) k_Model_like J K (n + 1) 1 L S M = ai_iload 1 2 (am_run (c_Model_like s_Model_isNode s_Model_same) k_Model_like J K n) K 1 L S M := by rfl
set_option maxRecDepth 20000 in
theorem r_Model_like_2 {s_Model_isNode : aS} {s_Model_same : aS} {J : aJ} {K : aR} {n : Nat} {L : aL} {S : List Value} {M : aM} : am_run (c_Model_like s_Model_isNode s_Model_same) k_Model_like J K (n + 1) 2 L S M = ai_callv2 7 s_Model_isNode 5 (am_run (c_Model_like s_Model_isNode s_Model_same) k_Model_like J K n) K 2 L S M := by rfl
set_option maxRecDepth 20000 in
theorem r_Model_like_5 {s_Model_isNode : aS} {s_Model_same : aS} {J : aJ} {K : aR} {n : Nat} {L : aL} {S : List Value} {M : aM} : am_run (c_Model_like s_Model_isNode s_Model_same) k_Model_like J K (n + 1) 5 L S M = ai_ifeq 16 8 (am_run (c_Model_like s_Model_isNode s_Model_same) k_Model_like J K n) K 5 L S M := by rfl
set_option maxRecDepth 20000 in
theorem r_Model_like_8 {s_Model_isNode : aS} {s_Model_same : aS} {J : aJ} {K : aR} {n : Nat} {L : aL} {S : List Value} {M : aM} : am_run (c_Model_like s_Model_isNode s_Model_same) k_Model_like J K (n + 1) 8 L S M = ai_aload 0 9 (am_run (c_Model_like s_Model_isNode s_Model_same) k_Model_like J K n) K 8 L S M := by rfl
set_option maxRecDepth 20000 in
theorem r_Model_like_9 {s_Model_isNode : aS} {s_Model_same : aS} {J : aJ} {K : aR} {n : Nat} {L : aL} {S : List Value} {M : aM} : am_run (c_Model_like s_Model_isNode s_Model_same) k_Model_like J K (n + 1) 9 L S M = ai_iload 2 10 (am_run (c_Model_like s_Model_isNode s_Model_same) k_Model_like J K n) K 9 L S M := by rfl
set_option maxRecDepth 20000 in
theorem r_Model_like_10 {s_Model_isNode : aS} {s_Model_same : aS} {J : aJ} {K : aR} {n : Nat} {L : aL} {S : List Value} {M : aM} : am_run (c_Model_like s_Model_isNode s_Model_same) k_Model_like J K (n + 1) 10 L S M = ai_callv2 7 s_Model_isNode 13 (am_run (c_Model_like s_Model_isNode s_Model_same) k_Model_like J K n) K 10 L S M := by rfl
set_option maxRecDepth 20000 in
theorem r_Model_like_13 {s_Model_isNode : aS} {s_Model_same : aS} {J : aJ} {K : aR} {n : Nat} {L : aL} {S : List Value} {M : aM} : am_run (c_Model_like s_Model_isNode s_Model_same) k_Model_like J K (n + 1) 13 L S M = ai_ifne 18 16 (am_run (c_Model_like s_Model_isNode s_Model_same) k_Model_like J K n) K 13 L S M := by rfl
set_option maxRecDepth 20000 in
theorem r_Model_like_16 {s_Model_isNode : aS} {s_Model_same : aS} {J : aJ} {K : aR} {n : Nat} {L : aL} {S : List Value} {M : aM} : am_run (c_Model_like s_Model_isNode s_Model_same) k_Model_like J K (n + 1) 16 L S M = ai_const 0 17 (am_run (c_Model_like s_Model_isNode s_Model_same) k_Model_like J K n) K 16 L S M := by rfl
set_option maxRecDepth 20000 in
theorem r_Model_like_17 {s_Model_isNode : aS} {s_Model_same : aS} {J : aJ} {K : aR} {n : Nat} {L : aL} {S : List Value} {M : aM} : am_run (c_Model_like s_Model_isNode s_Model_same) k_Model_like J K (n + 1) 17 L S M = ai_zret (am_run (c_Model_like s_Model_isNode s_Model_same) k_Model_like J K n) K 17 L S M := by rfl
set_option maxRecDepth 20000 in
theorem r_Model_like_18 {s_Model_isNode : aS} {s_Model_same : aS} {J : aJ} {K : aR} {n : Nat} {L : aL} {S : List Value} {M : aM} : am_run (c_Model_like s_Model_isNode s_Model_same) k_Model_like J K (n + 1) 18 L S M = ai_aload 0 19 (am_run (c_Model_like s_Model_isNode s_Model_same) k_Model_like J K n) K 18 L S M := by rfl
set_option maxRecDepth 20000 in
theorem r_Model_like_19 {s_Model_isNode : aS} {s_Model_same : aS} {J : aJ} {K : aR} {n : Nat} {L : aL} {S : List Value} {M : aM} : am_run (c_Model_like s_Model_isNode s_Model_same) k_Model_like J K (n + 1) 19 L S M = ai_getf 7 19 22 (am_run (c_Model_like s_Model_isNode s_Model_same) k_Model_like J K n) K 19 L S M := by rfl
set_option maxRecDepth 20000 in
theorem r_Model_like_22 {s_Model_isNode : aS} {s_Model_same : aS} {J : aJ} {K : aR} {n : Nat} {L : aL} {S : List Value} {M : aM} : am_run (c_Model_like s_Model_isNode s_Model_same) k_Model_like J K (n + 1) 22 L S M = ai_const 0 23 (am_run (c_Model_like s_Model_isNode s_Model_same) k_Model_like J K n) K 22 L S M := by rfl
set_option maxRecDepth 20000 in
theorem r_Model_like_23 {s_Model_isNode : aS} {s_Model_same : aS} {J : aJ} {K : aR} {n : Nat} {L : aL} {S : List Value} {M : aM} : am_run (c_Model_like s_Model_isNode s_Model_same) k_Model_like J K (n + 1) 23 L S M = ai_iload 1 24 (am_run (c_Model_like s_Model_isNode s_Model_same) k_Model_like J K n) K 23 L S M := by rfl
set_option maxRecDepth 20000 in
theorem r_Model_like_24 {s_Model_isNode : aS} {s_Model_same : aS} {J : aJ} {K : aR} {n : Nat} {L : aL} {S : List Value} {M : aM} : am_run (c_Model_like s_Model_isNode s_Model_same) k_Model_like J K (n + 1) 24 L S M = ai_iast 25 (am_run (c_Model_like s_Model_isNode s_Model_same) k_Model_like J K n) K 24 L S M := by rfl
set_option maxRecDepth 20000 in
theorem r_Model_like_25 {s_Model_isNode : aS} {s_Model_same : aS} {J : aJ} {K : aR} {n : Nat} {L : aL} {S : List Value} {M : aM} : am_run (c_Model_like s_Model_isNode s_Model_same) k_Model_like J K (n + 1) 25 L S M = ai_aload 0 26 (am_run (c_Model_like s_Model_isNode s_Model_same) k_Model_like J K n) K 25 L S M := by rfl
set_option maxRecDepth 20000 in
theorem r_Model_like_26 {s_Model_isNode : aS} {s_Model_same : aS} {J : aJ} {K : aR} {n : Nat} {L : aL} {S : List Value} {M : aM} : am_run (c_Model_like s_Model_isNode s_Model_same) k_Model_like J K (n + 1) 26 L S M = ai_getf 7 20 29 (am_run (c_Model_like s_Model_isNode s_Model_same) k_Model_like J K n) K 26 L S M := by rfl
set_option maxRecDepth 20000 in
theorem r_Model_like_29 {s_Model_isNode : aS} {s_Model_same : aS} {J : aJ} {K : aR} {n : Nat} {L : aL} {S : List Value} {M : aM} : am_run (c_Model_like s_Model_isNode s_Model_same) k_Model_like J K (n + 1) 29 L S M = ai_const 0 30 (am_run (c_Model_like s_Model_isNode s_Model_same) k_Model_like J K n) K 29 L S M := by rfl
set_option maxRecDepth 20000 in
theorem r_Model_like_30 {s_Model_isNode : aS} {s_Model_same : aS} {J : aJ} {K : aR} {n : Nat} {L : aL} {S : List Value} {M : aM} : am_run (c_Model_like s_Model_isNode s_Model_same) k_Model_like J K (n + 1) 30 L S M = ai_iload 2 31 (am_run (c_Model_like s_Model_isNode s_Model_same) k_Model_like J K n) K 30 L S M := by rfl
set_option maxRecDepth 20000 in
theorem r_Model_like_31 {s_Model_isNode : aS} {s_Model_same : aS} {J : aJ} {K : aR} {n : Nat} {L : aL} {S : List Value} {M : aM} : am_run (c_Model_like s_Model_isNode s_Model_same) k_Model_like J K (n + 1) 31 L S M = ai_iast 32 (am_run (c_Model_like s_Model_isNode s_Model_same) k_Model_like J K n) K 31 L S M := by rfl
set_option maxRecDepth 20000 in
theorem r_Model_like_32 {s_Model_isNode : aS} {s_Model_same : aS} {J : aJ} {K : aR} {n : Nat} {L : aL} {S : List Value} {M : aM} : am_run (c_Model_like s_Model_isNode s_Model_same) k_Model_like J K (n + 1) 32 L S M = ai_const 1 33 (am_run (c_Model_like s_Model_isNode s_Model_same) k_Model_like J K n) K 32 L S M := by rfl
set_option maxRecDepth 20000 in
theorem r_Model_like_33 {s_Model_isNode : aS} {s_Model_same : aS} {J : aJ} {K : aR} {n : Nat} {L : aL} {S : List Value} {M : aM} : am_run (c_Model_like s_Model_isNode s_Model_same) k_Model_like J K (n + 1) 33 L S M = ai_istore 3 34 (am_run (c_Model_like s_Model_isNode s_Model_same) k_Model_like J K n) K 33 L S M := by rfl
set_option maxRecDepth 20000 in
theorem r_Model_like_34 {s_Model_isNode : aS} {s_Model_same : aS} {J : aJ} {K : aR} {n : Nat} {L : aL} {S : List Value} {M : aM} : am_run (c_Model_like s_Model_isNode s_Model_same) k_Model_like J K (n + 1) 34 L S M = ai_const 1 35 (am_run (c_Model_like s_Model_isNode s_Model_same) k_Model_like J K n) K 34 L S M := by rfl
set_option maxRecDepth 20000 in
theorem r_Model_like_35 {s_Model_isNode : aS} {s_Model_same : aS} {J : aJ} {K : aR} {n : Nat} {L : aL} {S : List Value} {M : aM} : am_run (c_Model_like s_Model_isNode s_Model_same) k_Model_like J K (n + 1) 35 L S M = ai_istore 4 37 (am_run (c_Model_like s_Model_isNode s_Model_same) k_Model_like J K n) K 35 L S M := by rfl
set_option maxRecDepth 20000 in
theorem r_Model_like_37 {s_Model_isNode : aS} {s_Model_same : aS} {J : aJ} {K : aR} {n : Nat} {L : aL} {S : List Value} {M : aM} : am_run (c_Model_like s_Model_isNode s_Model_same) k_Model_like J K (n + 1) 37 L S M = J 37 L S M := by rfl
set_option maxRecDepth 20000 in
theorem r_Model_like_38 {s_Model_isNode : aS} {s_Model_same : aS} {J : aJ} {K : aR} {n : Nat} {L : aL} {S : List Value} {M : aM} : am_run (c_Model_like s_Model_isNode s_Model_same) k_Model_like J K (n + 1) 38 L S M = ai_ifle 155 41 (am_run (c_Model_like s_Model_isNode s_Model_same) k_Model_like J K n) K 38 L S M := by rfl
set_option maxRecDepth 20000 in
theorem r_Model_like_41 {s_Model_isNode : aS} {s_Model_same : aS} {J : aJ} {K : aR} {n : Nat} {L : aL} {S : List Value} {M : aM} : am_run (c_Model_like s_Model_isNode s_Model_same) k_Model_like J K (n + 1) 41 L S M = ai_iload 4 43 (am_run (c_Model_like s_Model_isNode s_Model_same) k_Model_like J K n) K 41 L S M := by rfl
set_option maxRecDepth 20000 in
theorem r_Model_like_43 {s_Model_isNode : aS} {s_Model_same : aS} {J : aJ} {K : aR} {n : Nat} {L : aL} {S : List Value} {M : aM} : am_run (c_Model_like s_Model_isNode s_Model_same) k_Model_like J K (n + 1) 43 L S M = ai_ifeq 155 46 (am_run (c_Model_like s_Model_isNode s_Model_same) k_Model_like J K n) K 43 L S M := by rfl
set_option maxRecDepth 20000 in
theorem r_Model_like_46 {s_Model_isNode : aS} {s_Model_same : aS} {J : aJ} {K : aR} {n : Nat} {L : aL} {S : List Value} {M : aM} : am_run (c_Model_like s_Model_isNode s_Model_same) k_Model_like J K (n + 1) 46 L S M = ai_iload 3 47 (am_run (c_Model_like s_Model_isNode s_Model_same) k_Model_like J K n) K 46 L S M := by rfl
set_option maxRecDepth 20000 in
theorem r_Model_like_47 {s_Model_isNode : aS} {s_Model_same : aS} {J : aJ} {K : aR} {n : Nat} {L : aL} {S : List Value} {M : aM} : am_run (c_Model_like s_Model_isNode s_Model_same) k_Model_like J K (n + 1) 47 L S M = ai_const 1 48 (am_run (c_Model_like s_Model_isNode s_Model_same) k_Model_like J K n) K 47 L S M := by rfl
set_option maxRecDepth 20000 in
theorem r_Model_like_48 {s_Model_isNode : aS} {s_Model_same : aS} {J : aJ} {K : aR} {n : Nat} {L : aL} {S : List Value} {M : aM} : am_run (c_Model_like s_Model_isNode s_Model_same) k_Model_like J K (n + 1) 48 L S M = ai_isub 49 (am_run (c_Model_like s_Model_isNode s_Model_same) k_Model_like J K n) K 48 L S M := by rfl
set_option maxRecDepth 20000 in
theorem r_Model_like_49 {s_Model_isNode : aS} {s_Model_same : aS} {J : aJ} {K : aR} {n : Nat} {L : aL} {S : List Value} {M : aM} : am_run (c_Model_like s_Model_isNode s_Model_same) k_Model_like J K (n + 1) 49 L S M = ai_istore 3 50 (am_run (c_Model_like s_Model_isNode s_Model_same) k_Model_like J K n) K 49 L S M := by rfl
set_option maxRecDepth 20000 in
theorem r_Model_like_50 {s_Model_isNode : aS} {s_Model_same : aS} {J : aJ} {K : aR} {n : Nat} {L : aL} {S : List Value} {M : aM} : am_run (c_Model_like s_Model_isNode s_Model_same) k_Model_like J K (n + 1) 50 L S M = ai_aload 0 51 (am_run (c_Model_like s_Model_isNode s_Model_same) k_Model_like J K n) K 50 L S M := by rfl
set_option maxRecDepth 20000 in
theorem r_Model_like_51 {s_Model_isNode : aS} {s_Model_same : aS} {J : aJ} {K : aR} {n : Nat} {L : aL} {S : List Value} {M : aM} : am_run (c_Model_like s_Model_isNode s_Model_same) k_Model_like J K (n + 1) 51 L S M = ai_getf 7 19 54 (am_run (c_Model_like s_Model_isNode s_Model_same) k_Model_like J K n) K 51 L S M := by rfl
set_option maxRecDepth 20000 in
theorem r_Model_like_54 {s_Model_isNode : aS} {s_Model_same : aS} {J : aJ} {K : aR} {n : Nat} {L : aL} {S : List Value} {M : aM} : am_run (c_Model_like s_Model_isNode s_Model_same) k_Model_like J K (n + 1) 54 L S M = ai_iload 3 55 (am_run (c_Model_like s_Model_isNode s_Model_same) k_Model_like J K n) K 54 L S M := by rfl
set_option maxRecDepth 20000 in
theorem r_Model_like_55 {s_Model_isNode : aS} {s_Model_same : aS} {J : aJ} {K : aR} {n : Nat} {L : aL} {S : List Value} {M : aM} : am_run (c_Model_like s_Model_isNode s_Model_same) k_Model_like J K (n + 1) 55 L S M = ai_iald 56 (am_run (c_Model_like s_Model_isNode s_Model_same) k_Model_like J K n) K 55 L S M := by rfl
set_option maxRecDepth 20000 in
theorem r_Model_like_56 {s_Model_isNode : aS} {s_Model_same : aS} {J : aJ} {K : aR} {n : Nat} {L : aL} {S : List Value} {M : aM} : am_run (c_Model_like s_Model_isNode s_Model_same) k_Model_like J K (n + 1) 56 L S M = ai_istore 5 58 (am_run (c_Model_like s_Model_isNode s_Model_same) k_Model_like J K n) K 56 L S M := by rfl
set_option maxRecDepth 20000 in
theorem r_Model_like_58 {s_Model_isNode : aS} {s_Model_same : aS} {J : aJ} {K : aR} {n : Nat} {L : aL} {S : List Value} {M : aM} : am_run (c_Model_like s_Model_isNode s_Model_same) k_Model_like J K (n + 1) 58 L S M = ai_aload 0 59 (am_run (c_Model_like s_Model_isNode s_Model_same) k_Model_like J K n) K 58 L S M := by rfl
set_option maxRecDepth 20000 in
theorem r_Model_like_59 {s_Model_isNode : aS} {s_Model_same : aS} {J : aJ} {K : aR} {n : Nat} {L : aL} {S : List Value} {M : aM} : am_run (c_Model_like s_Model_isNode s_Model_same) k_Model_like J K (n + 1) 59 L S M = ai_getf 7 20 62 (am_run (c_Model_like s_Model_isNode s_Model_same) k_Model_like J K n) K 59 L S M := by rfl
set_option maxRecDepth 20000 in
theorem r_Model_like_62 {s_Model_isNode : aS} {s_Model_same : aS} {J : aJ} {K : aR} {n : Nat} {L : aL} {S : List Value} {M : aM} : am_run (c_Model_like s_Model_isNode s_Model_same) k_Model_like J K (n + 1) 62 L S M = ai_iload 3 63 (am_run (c_Model_like s_Model_isNode s_Model_same) k_Model_like J K n) K 62 L S M := by rfl
set_option maxRecDepth 20000 in
theorem r_Model_like_63 {s_Model_isNode : aS} {s_Model_same : aS} {J : aJ} {K : aR} {n : Nat} {L : aL} {S : List Value} {M : aM} : am_run (c_Model_like s_Model_isNode s_Model_same) k_Model_like J K (n + 1) 63 L S M = ai_iald 64 (am_run (c_Model_like s_Model_isNode s_Model_same) k_Model_like J K n) K 63 L S M := by rfl
set_option maxRecDepth 20000 in
theorem r_Model_like_64 {s_Model_isNode : aS} {s_Model_same : aS} {J : aJ} {K : aR} {n : Nat} {L : aL} {S : List Value} {M : aM} : am_run (c_Model_like s_Model_isNode s_Model_same) k_Model_like J K (n + 1) 64 L S M = ai_istore 6 66 (am_run (c_Model_like s_Model_isNode s_Model_same) k_Model_like J K n) K 64 L S M := by rfl
set_option maxRecDepth 20000 in
theorem r_Model_like_66 {s_Model_isNode : aS} {s_Model_same : aS} {J : aJ} {K : aR} {n : Nat} {L : aL} {S : List Value} {M : aM} : am_run (c_Model_like s_Model_isNode s_Model_same) k_Model_like J K (n + 1) 66 L S M = ai_aload 0 67 (am_run (c_Model_like s_Model_isNode s_Model_same) k_Model_like J K n) K 66 L S M := by rfl
set_option maxRecDepth 20000 in
theorem r_Model_like_67 {s_Model_isNode : aS} {s_Model_same : aS} {J : aJ} {K : aR} {n : Nat} {L : aL} {S : List Value} {M : aM} : am_run (c_Model_like s_Model_isNode s_Model_same) k_Model_like J K (n + 1) 67 L S M = ai_iload 5 69 (am_run (c_Model_like s_Model_isNode s_Model_same) k_Model_like J K n) K 67 L S M := by rfl
set_option maxRecDepth 20000 in
theorem r_Model_like_69 {s_Model_isNode : aS} {s_Model_same : aS} {J : aJ} {K : aR} {n : Nat} {L : aL} {S : List Value} {M : aM} : am_run (c_Model_like s_Model_isNode s_Model_same) k_Model_like J K (n + 1) 69 L S M = ai_iload 6 71 (am_run (c_Model_like s_Model_isNode s_Model_same) k_Model_like J K n) K 69 L S M := by rfl
set_option maxRecDepth 20000 in
theorem r_Model_like_71 {s_Model_isNode : aS} {s_Model_same : aS} {J : aJ} {K : aR} {n : Nat} {L : aL} {S : List Value} {M : aM} : am_run (c_Model_like s_Model_isNode s_Model_same) k_Model_like J K (n + 1) 71 L S M = ai_callv3 7 s_Model_same 74 (am_run (c_Model_like s_Model_isNode s_Model_same) k_Model_like J K n) K 71 L S M := by rfl
set_option maxRecDepth 20000 in
theorem r_Model_like_74 {s_Model_isNode : aS} {s_Model_same : aS} {J : aJ} {K : aR} {n : Nat} {L : aL} {S : List Value} {M : aM} : am_run (c_Model_like s_Model_isNode s_Model_same) k_Model_like J K (n + 1) 74 L S M = ai_istore 4 76 (am_run (c_Model_like s_Model_isNode s_Model_same) k_Model_like J K n) K 74 L S M := by rfl
set_option maxRecDepth 20000 in
theorem r_Model_like_76 {s_Model_isNode : aS} {s_Model_same : aS} {J : aJ} {K : aR} {n : Nat} {L : aL} {S : List Value} {M : aM} : am_run (c_Model_like s_Model_isNode s_Model_same) k_Model_like J K (n + 1) 76 L S M = ai_iload 4 78 (am_run (c_Model_like s_Model_isNode s_Model_same) k_Model_like J K n) K 76 L S M := by rfl
set_option maxRecDepth 20000 in
theorem r_Model_like_78 {s_Model_isNode : aS} {s_Model_same : aS} {J : aJ} {K : aR} {n : Nat} {L : aL} {S : List Value} {M : aM} : am_run (c_Model_like s_Model_isNode s_Model_same) k_Model_like J K (n + 1) 78 L S M = ai_ifeq 152 81 (am_run (c_Model_like s_Model_isNode s_Model_same) k_Model_like J K n) K 78 L S M := by rfl
set_option maxRecDepth 20000 in
theorem r_Model_like_81 {s_Model_isNode : aS} {s_Model_same : aS} {J : aJ} {K : aR} {n : Nat} {L : aL} {S : List Value} {M : aM} : am_run (c_Model_like s_Model_isNode s_Model_same) k_Model_like J K (n + 1) 81 L S M = ai_aload 0 82 (am_run (c_Model_like s_Model_isNode s_Model_same) k_Model_like J K n) K 81 L S M := by rfl
set_option maxRecDepth 20000 in
theorem r_Model_like_82 {s_Model_isNode : aS} {s_Model_same : aS} {J : aJ} {K : aR} {n : Nat} {L : aL} {S : List Value} {M : aM} : am_run (c_Model_like s_Model_isNode s_Model_same) k_Model_like J K (n + 1) 82 L S M = ai_getf 7 6 85 (am_run (c_Model_like s_Model_isNode s_Model_same) k_Model_like J K n) K 82 L S M := by rfl
set_option maxRecDepth 20000 in
theorem r_Model_like_85 {s_Model_isNode : aS} {s_Model_same : aS} {J : aJ} {K : aR} {n : Nat} {L : aL} {S : List Value} {M : aM} : am_run (c_Model_like s_Model_isNode s_Model_same) k_Model_like J K (n + 1) 85 L S M = ai_iload 5 87 (am_run (c_Model_like s_Model_isNode s_Model_same) k_Model_like J K n) K 85 L S M := by rfl
set_option maxRecDepth 20000 in
theorem r_Model_like_87 {s_Model_isNode : aS} {s_Model_same : aS} {J : aJ} {K : aR} {n : Nat} {L : aL} {S : List Value} {M : aM} : am_run (c_Model_like s_Model_isNode s_Model_same) k_Model_like J K (n + 1) 87 L S M = ai_iald 88 (am_run (c_Model_like s_Model_isNode s_Model_same) k_Model_like J K n) K 87 L S M := by rfl
set_option maxRecDepth 20000 in
theorem r_Model_like_88 {s_Model_isNode : aS} {s_Model_same : aS} {J : aJ} {K : aR} {n : Nat} {L : aL} {S : List Value} {M : aM} : am_run (c_Model_like s_Model_isNode s_Model_same) k_Model_like J K (n + 1) 88 L S M = ai_const 4 89 (am_run (c_Model_like s_Model_isNode s_Model_same) k_Model_like J K n) K 88 L S M := by rfl
set_option maxRecDepth 20000 in
theorem r_Model_like_89 {s_Model_isNode : aS} {s_Model_same : aS} {J : aJ} {K : aR} {n : Nat} {L : aL} {S : List Value} {M : aM} : am_run (c_Model_like s_Model_isNode s_Model_same) k_Model_like J K (n + 1) 89 L S M = ai_cmpne 152 92 (am_run (c_Model_like s_Model_isNode s_Model_same) k_Model_like J K n) K 89 L S M := by rfl
set_option maxRecDepth 20000 in
theorem r_Model_like_92 {s_Model_isNode : aS} {s_Model_same : aS} {J : aJ} {K : aR} {n : Nat} {L : aL} {S : List Value} {M : aM} : am_run (c_Model_like s_Model_isNode s_Model_same) k_Model_like J K (n + 1) 92 L S M = ai_aload 0 93 (am_run (c_Model_like s_Model_isNode s_Model_same) k_Model_like J K n) K 92 L S M := by rfl
set_option maxRecDepth 20000 in
theorem r_Model_like_93 {s_Model_isNode : aS} {s_Model_same : aS} {J : aJ} {K : aR} {n : Nat} {L : aL} {S : List Value} {M : aM} : am_run (c_Model_like s_Model_isNode s_Model_same) k_Model_like J K (n + 1) 93 L S M = ai_getf 7 19 96 (am_run (c_Model_like s_Model_isNode s_Model_same) k_Model_like J K n) K 93 L S M := by rfl
set_option maxRecDepth 20000 in
theorem r_Model_like_96 {s_Model_isNode : aS} {s_Model_same : aS} {J : aJ} {K : aR} {n : Nat} {L : aL} {S : List Value} {M : aM} : am_run (c_Model_like s_Model_isNode s_Model_same) k_Model_like J K (n + 1) 96 L S M = ai_iload 3 97 (am_run (c_Model_like s_Model_isNode s_Model_same) k_Model_like J K n) K 96 L S M := by rfl
set_option maxRecDepth 20000 in
theorem r_Model_like_97 {s_Model_isNode : aS} {s_Model_same : aS} {J : aJ} {K : aR} {n : Nat} {L : aL} {S : List Value} {M : aM} : am_run (c_Model_like s_Model_isNode s_Model_same) k_Model_like J K (n + 1) 97 L S M = ai_aload 0 98 (am_run (c_Model_like s_Model_isNode s_Model_same) k_Model_like J K n) K 97 L S M := by rfl
set_option maxRecDepth 20000 in
theorem r_Model_like_98 {s_Model_isNode : aS} {s_Model_same : aS} {J : aJ} {K : aR} {n : Nat} {L : aL} {S : List Value} {M : aM} : am_run (c_Model_like s_Model_isNode s_Model_same) k_Model_like J K (n + 1) 98 L S M = ai_getf 7 10 101 (am_run (c_Model_like s_Model_isNode s_Model_same) k_Model_like J K n) K 98 L S M := by rfl
set_option maxRecDepth 20000 in
theorem r_Model_like_101 {s_Model_isNode : aS} {s_Model_same : aS} {J : aJ} {K : aR} {n : Nat} {L : aL} {S : List Value} {M : aM} : am_run (c_Model_like s_Model_isNode s_Model_same) k_Model_like J K (n + 1) 101 L S M = ai_iload 5 103 (am_run (c_Model_like s_Model_isNode s_Model_same) k_Model_like J K n) K 101 L S M := by rfl
set_option maxRecDepth 20000 in
theorem r_Model_like_103 {s_Model_isNode : aS} {s_Model_same : aS} {J : aJ} {K : aR} {n : Nat} {L : aL} {S : List Value} {M : aM} : am_run (c_Model_like s_Model_isNode s_Model_same) k_Model_like J K (n + 1) 103 L S M = ai_iald 104 (am_run (c_Model_like s_Model_isNode s_Model_same) k_Model_like J K n) K 103 L S M := by rfl
set_option maxRecDepth 20000 in
theorem r_Model_like_104 {s_Model_isNode : aS} {s_Model_same : aS} {J : aJ} {K : aR} {n : Nat} {L : aL} {S : List Value} {M : aM} : am_run (c_Model_like s_Model_isNode s_Model_same) k_Model_like J K (n + 1) 104 L S M = ai_iast 105 (am_run (c_Model_like s_Model_isNode s_Model_same) k_Model_like J K n) K 104 L S M := by rfl
set_option maxRecDepth 20000 in
theorem r_Model_like_105 {s_Model_isNode : aS} {s_Model_same : aS} {J : aJ} {K : aR} {n : Nat} {L : aL} {S : List Value} {M : aM} : am_run (c_Model_like s_Model_isNode s_Model_same) k_Model_like J K (n + 1) 105 L S M = ai_aload 0 106 (am_run (c_Model_like s_Model_isNode s_Model_same) k_Model_like J K n) K 105 L S M := by rfl
set_option maxRecDepth 20000 in
theorem r_Model_like_106 {s_Model_isNode : aS} {s_Model_same : aS} {J : aJ} {K : aR} {n : Nat} {L : aL} {S : List Value} {M : aM} : am_run (c_Model_like s_Model_isNode s_Model_same) k_Model_like J K (n + 1) 106 L S M = ai_getf 7 20 109 (am_run (c_Model_like s_Model_isNode s_Model_same) k_Model_like J K n) K 106 L S M := by rfl
set_option maxRecDepth 20000 in
theorem r_Model_like_109 {s_Model_isNode : aS} {s_Model_same : aS} {J : aJ} {K : aR} {n : Nat} {L : aL} {S : List Value} {M : aM} : am_run (c_Model_like s_Model_isNode s_Model_same) k_Model_like J K (n + 1) 109 L S M = ai_iload 3 110 (am_run (c_Model_like s_Model_isNode s_Model_same) k_Model_like J K n) K 109 L S M := by rfl
set_option maxRecDepth 20000 in
theorem r_Model_like_110 {s_Model_isNode : aS} {s_Model_same : aS} {J : aJ} {K : aR} {n : Nat} {L : aL} {S : List Value} {M : aM} : am_run (c_Model_like s_Model_isNode s_Model_same) k_Model_like J K (n + 1) 110 L S M = ai_aload 0 111 (am_run (c_Model_like s_Model_isNode s_Model_same) k_Model_like J K n) K 110 L S M := by rfl
set_option maxRecDepth 20000 in
theorem r_Model_like_111 {s_Model_isNode : aS} {s_Model_same : aS} {J : aJ} {K : aR} {n : Nat} {L : aL} {S : List Value} {M : aM} : am_run (c_Model_like s_Model_isNode s_Model_same) k_Model_like J K (n + 1) 111 L S M = ai_getf 7 10 114 (am_run (c_Model_like s_Model_isNode s_Model_same) k_Model_like J K n) K 111 L S M := by rfl
set_option maxRecDepth 20000 in
theorem r_Model_like_114 {s_Model_isNode : aS} {s_Model_same : aS} {J : aJ} {K : aR} {n : Nat} {L : aL} {S : List Value} {M : aM} : am_run (c_Model_like s_Model_isNode s_Model_same) k_Model_like J K (n + 1) 114 L S M = ai_iload 6 116 (am_run (c_Model_like s_Model_isNode s_Model_same) k_Model_like J K n) K 114 L S M := by rfl
set_option maxRecDepth 20000 in
theorem r_Model_like_116 {s_Model_isNode : aS} {s_Model_same : aS} {J : aJ} {K : aR} {n : Nat} {L : aL} {S : List Value} {M : aM} : am_run (c_Model_like s_Model_isNode s_Model_same) k_Model_like J K (n + 1) 116 L S M = ai_iald 117 (am_run (c_Model_like s_Model_isNode s_Model_same) k_Model_like J K n) K 116 L S M := by rfl
set_option maxRecDepth 20000 in
theorem r_Model_like_117 {s_Model_isNode : aS} {s_Model_same : aS} {J : aJ} {K : aR} {n : Nat} {L : aL} {S : List Value} {M : aM} : am_run (c_Model_like s_Model_isNode s_Model_same) k_Model_like J K (n + 1) 117 L S M = ai_iast 118 (am_run (c_Model_like s_Model_isNode s_Model_same) k_Model_like J K n) K 117 L S M := by rfl
set_option maxRecDepth 20000 in
theorem r_Model_like_118 {s_Model_isNode : aS} {s_Model_same : aS} {J : aJ} {K : aR} {n : Nat} {L : aL} {S : List Value} {M : aM} : am_run (c_Model_like s_Model_isNode s_Model_same) k_Model_like J K (n + 1) 118 L S M = ai_aload 0 119 (am_run (c_Model_like s_Model_isNode s_Model_same) k_Model_like J K n) K 118 L S M := by rfl
set_option maxRecDepth 20000 in
theorem r_Model_like_119 {s_Model_isNode : aS} {s_Model_same : aS} {J : aJ} {K : aR} {n : Nat} {L : aL} {S : List Value} {M : aM} : am_run (c_Model_like s_Model_isNode s_Model_same) k_Model_like J K (n + 1) 119 L S M = ai_getf 7 19 122 (am_run (c_Model_like s_Model_isNode s_Model_same) k_Model_like J K n) K 119 L S M := by rfl
set_option maxRecDepth 20000 in
theorem r_Model_like_122 {s_Model_isNode : aS} {s_Model_same : aS} {J : aJ} {K : aR} {n : Nat} {L : aL} {S : List Value} {M : aM} : am_run (c_Model_like s_Model_isNode s_Model_same) k_Model_like J K (n + 1) 122 L S M = ai_iload 3 123 (am_run (c_Model_like s_Model_isNode s_Model_same) k_Model_like J K n) K 122 L S M := by rfl
set_option maxRecDepth 20000 in
theorem r_Model_like_123 {s_Model_isNode : aS} {s_Model_same : aS} {J : aJ} {K : aR} {n : Nat} {L : aL} {S : List Value} {M : aM} : am_run (c_Model_like s_Model_isNode s_Model_same) k_Model_like J K (n + 1) 123 L S M = ai_const 1 124 (am_run (c_Model_like s_Model_isNode s_Model_same) k_Model_like J K n) K 123 L S M := by rfl
set_option maxRecDepth 20000 in
theorem r_Model_like_124 {s_Model_isNode : aS} {s_Model_same : aS} {J : aJ} {K : aR} {n : Nat} {L : aL} {S : List Value} {M : aM} : am_run (c_Model_like s_Model_isNode s_Model_same) k_Model_like J K (n + 1) 124 L S M = ai_iadd 125 (am_run (c_Model_like s_Model_isNode s_Model_same) k_Model_like J K n) K 124 L S M := by rfl
set_option maxRecDepth 20000 in
theorem r_Model_like_125 {s_Model_isNode : aS} {s_Model_same : aS} {J : aJ} {K : aR} {n : Nat} {L : aL} {S : List Value} {M : aM} : am_run (c_Model_like s_Model_isNode s_Model_same) k_Model_like J K (n + 1) 125 L S M = ai_aload 0 126 (am_run (c_Model_like s_Model_isNode s_Model_same) k_Model_like J K n) K 125 L S M := by rfl
set_option maxRecDepth 20000 in
theorem r_Model_like_126 {s_Model_isNode : aS} {s_Model_same : aS} {J : aJ} {K : aR} {n : Nat} {L : aL} {S : List Value} {M : aM} : am_run (c_Model_like s_Model_isNode s_Model_same) k_Model_like J K (n + 1) 126 L S M = ai_getf 7 9 129 (am_run (c_Model_like s_Model_isNode s_Model_same) k_Model_like J K n) K 126 L S M := by rfl
set_option maxRecDepth 20000 in
theorem r_Model_like_129 {s_Model_isNode : aS} {s_Model_same : aS} {J : aJ} {K : aR} {n : Nat} {L : aL} {S : List Value} {M : aM} : am_run (c_Model_like s_Model_isNode s_Model_same) k_Model_like J K (n + 1) 129 L S M = ai_iload 5 131 (am_run (c_Model_like s_Model_isNode s_Model_same) k_Model_like J K n) K 129 L S M := by rfl
set_option maxRecDepth 20000 in
theorem r_Model_like_131 {s_Model_isNode : aS} {s_Model_same : aS} {J : aJ} {K : aR} {n : Nat} {L : aL} {S : List Value} {M : aM} : am_run (c_Model_like s_Model_isNode s_Model_same) k_Model_like J K (n + 1) 131 L S M = ai_iald 132 (am_run (c_Model_like s_Model_isNode s_Model_same) k_Model_like J K n) K 131 L S M := by rfl
set_option maxRecDepth 20000 in
theorem r_Model_like_132 {s_Model_isNode : aS} {s_Model_same : aS} {J : aJ} {K : aR} {n : Nat} {L : aL} {S : List Value} {M : aM} : am_run (c_Model_like s_Model_isNode s_Model_same) k_Model_like J K (n + 1) 132 L S M = ai_iast 133 (am_run (c_Model_like s_Model_isNode s_Model_same) k_Model_like J K n) K 132 L S M := by rfl
set_option maxRecDepth 20000 in
theorem r_Model_like_133 {s_Model_isNode : aS} {s_Model_same : aS} {J : aJ} {K : aR} {n : Nat} {L : aL} {S : List Value} {M : aM} : am_run (c_Model_like s_Model_isNode s_Model_same) k_Model_like J K (n + 1) 133 L S M = ai_aload 0 134 (am_run (c_Model_like s_Model_isNode s_Model_same) k_Model_like J K n) K 133 L S M := by rfl
set_option maxRecDepth 20000 in
theorem r_Model_like_134 {s_Model_isNode : aS} {s_Model_same : aS} {J : aJ} {K : aR} {n : Nat} {L : aL} {S : List Value} {M : aM} : am_run (c_Model_like s_Model_isNode s_Model_same) k_Model_like J K (n + 1) 134 L S M = ai_getf 7 20 137 (am_run (c_Model_like s_Model_isNode s_Model_same) k_Model_like J K n) K 134 L S M := by rfl
set_option maxRecDepth 20000 in
theorem r_Model_like_137 {s_Model_isNode : aS} {s_Model_same : aS} {J : aJ} {K : aR} {n : Nat} {L : aL} {S : List Value} {M : aM} : am_run (c_Model_like s_Model_isNode s_Model_same) k_Model_like J K (n + 1) 137 L S M = ai_iload 3 138 (am_run (c_Model_like s_Model_isNode s_Model_same) k_Model_like J K n) K 137 L S M := by rfl
set_option maxRecDepth 20000 in
theorem r_Model_like_138 {s_Model_isNode : aS} {s_Model_same : aS} {J : aJ} {K : aR} {n : Nat} {L : aL} {S : List Value} {M : aM} : am_run (c_Model_like s_Model_isNode s_Model_same) k_Model_like J K (n + 1) 138 L S M = ai_const 1 139 (am_run (c_Model_like s_Model_isNode s_Model_same) k_Model_like J K n) K 138 L S M := by rfl
set_option maxRecDepth 20000 in
theorem r_Model_like_139 {s_Model_isNode : aS} {s_Model_same : aS} {J : aJ} {K : aR} {n : Nat} {L : aL} {S : List Value} {M : aM} : am_run (c_Model_like s_Model_isNode s_Model_same) k_Model_like J K (n + 1) 139 L S M = ai_iadd 140 (am_run (c_Model_like s_Model_isNode s_Model_same) k_Model_like J K n) K 139 L S M := by rfl
set_option maxRecDepth 20000 in
theorem r_Model_like_140 {s_Model_isNode : aS} {s_Model_same : aS} {J : aJ} {K : aR} {n : Nat} {L : aL} {S : List Value} {M : aM} : am_run (c_Model_like s_Model_isNode s_Model_same) k_Model_like J K (n + 1) 140 L S M = ai_aload 0 141 (am_run (c_Model_like s_Model_isNode s_Model_same) k_Model_like J K n) K 140 L S M := by rfl
set_option maxRecDepth 20000 in
theorem r_Model_like_141 {s_Model_isNode : aS} {s_Model_same : aS} {J : aJ} {K : aR} {n : Nat} {L : aL} {S : List Value} {M : aM} : am_run (c_Model_like s_Model_isNode s_Model_same) k_Model_like J K (n + 1) 141 L S M = ai_getf 7 9 144 (am_run (c_Model_like s_Model_isNode s_Model_same) k_Model_like J K n) K 141 L S M := by rfl
set_option maxRecDepth 20000 in
theorem r_Model_like_144 {s_Model_isNode : aS} {s_Model_same : aS} {J : aJ} {K : aR} {n : Nat} {L : aL} {S : List Value} {M : aM} : am_run (c_Model_like s_Model_isNode s_Model_same) k_Model_like J K (n + 1) 144 L S M = ai_iload 6 146 (am_run (c_Model_like s_Model_isNode s_Model_same) k_Model_like J K n) K 144 L S M := by rfl
set_option maxRecDepth 20000 in
theorem r_Model_like_146 {s_Model_isNode : aS} {s_Model_same : aS} {J : aJ} {K : aR} {n : Nat} {L : aL} {S : List Value} {M : aM} : am_run (c_Model_like s_Model_isNode s_Model_same) k_Model_like J K (n + 1) 146 L S M = ai_iald 147 (am_run (c_Model_like s_Model_isNode s_Model_same) k_Model_like J K n) K 146 L S M := by rfl
set_option maxRecDepth 20000 in
theorem r_Model_like_147 {s_Model_isNode : aS} {s_Model_same : aS} {J : aJ} {K : aR} {n : Nat} {L : aL} {S : List Value} {M : aM} : am_run (c_Model_like s_Model_isNode s_Model_same) k_Model_like J K (n + 1) 147 L S M = ai_iast 148 (am_run (c_Model_like s_Model_isNode s_Model_same) k_Model_like J K n) K 147 L S M := by rfl
set_option maxRecDepth 20000 in
theorem r_Model_like_148 {s_Model_isNode : aS} {s_Model_same : aS} {J : aJ} {K : aR} {n : Nat} {L : aL} {S : List Value} {M : aM} : am_run (c_Model_like s_Model_isNode s_Model_same) k_Model_like J K (n + 1) 148 L S M = ai_iload 3 149 (am_run (c_Model_like s_Model_isNode s_Model_same) k_Model_like J K n) K 148 L S M := by rfl
set_option maxRecDepth 20000 in
theorem r_Model_like_149 {s_Model_isNode : aS} {s_Model_same : aS} {J : aJ} {K : aR} {n : Nat} {L : aL} {S : List Value} {M : aM} : am_run (c_Model_like s_Model_isNode s_Model_same) k_Model_like J K (n + 1) 149 L S M = ai_const 2 150 (am_run (c_Model_like s_Model_isNode s_Model_same) k_Model_like J K n) K 149 L S M := by rfl
set_option maxRecDepth 20000 in
theorem r_Model_like_150 {s_Model_isNode : aS} {s_Model_same : aS} {J : aJ} {K : aR} {n : Nat} {L : aL} {S : List Value} {M : aM} : am_run (c_Model_like s_Model_isNode s_Model_same) k_Model_like J K (n + 1) 150 L S M = ai_iadd 151 (am_run (c_Model_like s_Model_isNode s_Model_same) k_Model_like J K n) K 150 L S M := by rfl
set_option maxRecDepth 20000 in
theorem r_Model_like_151 {s_Model_isNode : aS} {s_Model_same : aS} {J : aJ} {K : aR} {n : Nat} {L : aL} {S : List Value} {M : aM} : am_run (c_Model_like s_Model_isNode s_Model_same) k_Model_like J K (n + 1) 151 L S M = ai_istore 3 152 (am_run (c_Model_like s_Model_isNode s_Model_same) k_Model_like J K n) K 151 L S M := by rfl
set_option maxRecDepth 20000 in
theorem r_Model_like_152 {s_Model_isNode : aS} {s_Model_same : aS} {J : aJ} {K : aR} {n : Nat} {L : aL} {S : List Value} {M : aM} : am_run (c_Model_like s_Model_isNode s_Model_same) k_Model_like J K (n + 1) 152 L S M = ai_goto 37 (am_run (c_Model_like s_Model_isNode s_Model_same) k_Model_like J K n) K 152 L S M := by rfl
set_option maxRecDepth 20000 in
theorem r_Model_like_155 {s_Model_isNode : aS} {s_Model_same : aS} {J : aJ} {K : aR} {n : Nat} {L : aL} {S : List Value} {M : aM} : am_run (c_Model_like s_Model_isNode s_Model_same) k_Model_like J K (n + 1) 155 L S M = ai_iload 4 157 (am_run (c_Model_like s_Model_isNode s_Model_same) k_Model_like J K n) K 155 L S M := by rfl
set_option maxRecDepth 20000 in
theorem r_Model_like_157 {s_Model_isNode : aS} {s_Model_same : aS} {J : aJ} {K : aR} {n : Nat} {L : aL} {S : List Value} {M : aM} : am_run (c_Model_like s_Model_isNode s_Model_same) k_Model_like J K (n + 1) 157 L S M = ai_zret (am_run (c_Model_like s_Model_isNode s_Model_same) k_Model_like J K n) K 157 L S M := by rfl
def c_Model_say : List (Nat × aI) := [
  (0, ai_aload 0 1),
  (1, ai_getf 7 18 4),
  (4, ai_const 500 7),
  (7, ai_cmpne 11 10),
  (10, ai_vret),
  (11, ai_aload 0 12),
  (12, ai_getf 7 17 15),
  (15, ai_aload 0 16),
  (16, ai_getf 7 18 19),
  (19, ai_iload 1 20),
  (20, ai_iast 21),
  (21, ai_aload 0 22),
  (22, ai_aload 0 23),
  (23, ai_getf 7 18 26),
  (26, ai_const 1 27),
  (27, ai_iadd 28),
  (28, ai_putf 7 18 31),
  (31, ai_vret)]
set_option maxRecDepth 100000 in
set_option maxHeartbeats 4000000 in
theorem tb_Model_say {G : aG} {d : Nat} : am_tab G Y_Model_say d (c_Model_say) := by
  intro K p e s m args below meth c C
  exact ⟨as_aload_n C (pc := 0) (q := 0) (by decide +kernel) rfl rfl,
    as_getf C (pc := 1) (T := T_Model) (N := 21) rfl in_Model (by decide) rfl w_535 (by decide +kernel) rfl,
    as_sipush C (pc := 4) (n := 500) (by decide +kernel) (by decide +kernel) rfl,
    as_cmpne C (pc := 7) (off := 4) (by decide +kernel) (by decide) rfl,
    as_vret C (pc := 10) rfl (by decide +kernel),
    as_aload_n C (pc := 11) (q := 0) (by decide +kernel) rfl rfl,
    as_getf C (pc := 12) (T := T_Model) (N := 21) rfl in_Model (by decide) rfl w_534 (by decide +kernel) rfl,
    as_aload_n C (pc := 15) (q := 0) (by decide +kernel) rfl rfl,
    as_getf C (pc := 16) (T := T_Model) (N := 21) rfl in_Model (by decide) rfl w_535 (by decide +kernel) rfl,
    as_iload_n C (pc := 19) (q := 1) (by decide +kernel) rfl rfl,
    as_iast C (pc := 20) (by decide +kernel) rfl,
    as_aload_n C (pc := 21) (q := 0) (by decide +kernel) rfl rfl,
    as_aload_n C (pc := 22) (q := 0) (by decide +kernel) rfl rfl,
    as_getf C (pc := 23) (T := T_Model) (N := 21) rfl in_Model (by decide) rfl w_535 (by decide +kernel) rfl,
    as_iconst C (pc := 26) (n := 1) (by decide +kernel) (by decide +kernel) rfl,
    as_iadd C (pc := 27) (by decide +kernel) rfl,
    as_putf C (pc := 28) t_Model (T := T_Model) (N := 21) rfl in_Model tok_Model nm_Model (by decide) rfl rfl (by decide +kernel) w_535 (by decide +kernel) rfl,
    as_vret C (pc := 31) rfl (by decide +kernel), trivial⟩
abbrev k_Model_say : List Nat := []
theorem r_Model_say_0 {J : aJ} {K : aR} {n : Nat} {L : aL} {S : List Value} {M : aM} : am_run (c_Model_say) k_Model_say J K (n + 1) 0 L S M = ai_aload 0 1 (am_run (c_Model_say) k_Model_say J K n) K 0 L S M := by rfl
theorem r_Model_say_1 {J : aJ} {K : aR} {n : Nat} {L : aL} {S : List Value} {M : aM} : am_run (c_Model_say) k_Model_say J K (n + 1) 1 L S M = ai_getf 7 18 4 (am_run (c_Model_say) k_Model_say J K n) K 1 L S M := by rfl
theorem r_Model_say_4 {J : aJ} {K : aR} {n : Nat} {L : aL} {S : List Value} {M : aM} : am_run (c_Model_say) k_Model_say J K (n + 1) 4 L S M = ai_const 500 7 (am_run (c_Model_say) k_Model_say J K n) K 4 L S M := by rfl
theorem r_Model_say_7 {J : aJ} {K : aR} {n : Nat} {L : aL} {S : List Value} {M : aM} : am_run (c_Model_say) k_Model_say J K (n + 1) 7 L S M = ai_cmpne 11 10 (am_run (c_Model_say) k_Model_say J K n) K 7 L S M := by rfl
theorem r_Model_say_10 {J : aJ} {K : aR} {n : Nat} {L : aL} {S : List Value} {M : aM} : am_run (c_Model_say) k_Model_say J K (n + 1) 10 L S M = ai_vret (am_run (c_Model_say) k_Model_say J K n) K 10 L S M := by rfl
theorem r_Model_say_11 {J : aJ} {K : aR} {n : Nat} {L : aL} {S : List Value} {M : aM} : am_run (c_Model_say) k_Model_say J K (n + 1) 11 L S M = ai_aload 0 12 (am_run (c_Model_say) k_Model_say J K n) K 11 L S M := by rfl
theorem r_Model_say_12 {J : aJ} {K : aR} {n : Nat} {L : aL} {S : List Value} {M : aM} : am_run (c_Model_say) k_Model_say J K (n + 1) 12 L S M = ai_getf 7 17 15 (am_run (c_Model_say) k_Model_say J K n) K 12 L S M := by rfl
theorem r_Model_say_15 {J : aJ} {K : aR} {n : Nat} {L : aL} {S : List Value} {M : aM} : am_run (c_Model_say) k_Model_say J K (n + 1) 15 L S M = ai_aload 0 16 (am_run (c_Model_say) k_Model_say J K n) K 15 L S M := by rfl
theorem r_Model_say_16 {J : aJ} {K : aR} {n : Nat} {L : aL} {S : List Value} {M : aM} : am_run (c_Model_say) k_Model_say J K (n + 1) 16 L S M = ai_getf 7 18 19 (am_run (c_Model_say) k_Model_say J K n) K 16 L S M := by rfl
theorem r_Model_say_19 {J : aJ} {K : aR} {n : Nat} {L : aL} {S : List Value} {M : aM} : am_run (c_Model_say) k_Model_say J K (n + 1) 19 L S M = ai_iload 1 20 (am_run (c_Model_say) k_Model_say J K n) K 19 L S M := by rfl
theorem r_Model_say_20 {J : aJ} {K : aR} {n : Nat} {L : aL} {S : List Value} {M : aM} : am_run (c_Model_say) k_Model_say J K (n + 1) 20 L S M = ai_iast 21 (am_run (c_Model_say) k_Model_say J K n) K 20 L S M := by rfl
theorem r_Model_say_21 {J : aJ} {K : aR} {n : Nat} {L : aL} {S : List Value} {M : aM} : am_run (c_Model_say) k_Model_say J K (n + 1) 21 L S M = ai_aload 0 22 (am_run (c_Model_say) k_Model_say J K n) K 21 L S M := by rfl
theorem r_Model_say_22 {J : aJ} {K : aR} {n : Nat} {L : aL} {S : List Value} {M : aM} : am_run (c_Model_say) k_Model_say J K (n + 1) 22 L S M = ai_aload 0 23 (am_run (c_Model_say) k_Model_say J K n) K 22 L S M := by rfl
theorem r_Model_say_23 {J : aJ} {K : aR} {n : Nat} {L : aL} {S : List Value} {M : aM} : am_run (c_Model_say) k_Model_say J K (n + 1) 23 L S M = ai_getf 7 18 26 (am_run (c_Model_say) k_Model_say J K n) K 23 L S M := by rfl
theorem r_Model_say_26 {J : aJ} {K : aR} {n : Nat} {L : aL} {S : List Value} {M : aM} : am_run (c_Model_say) k_Model_say J K (n + 1) 26 L S M = ai_const 1 27 (am_run (c_Model_say) k_Model_say J K n) K 26 L S M := by rfl
theorem r_Model_say_27 {J : aJ} {K : aR} {n : Nat} {L : aL} {S : List Value} {M : aM} : am_run (c_Model_say) k_Model_say J K (n + 1) 27 L S M = ai_iadd 28 (am_run (c_Model_say) k_Model_say J K n) K 27 L S M := by rfl
theorem r_Model_say_28 {J : aJ} {K : aR} {n : Nat} {L : aL} {S : List Value} {M : aM} : am_run (c_Model_say) k_Model_say J K (n + 1) 28 L S M = ai_putf 7 18 31 (am_run (c_Model_say) k_Model_say J K n) K 28 L S M := by rfl
theorem r_Model_say_31 {J : aJ} {K : aR} {n : Nat} {L : aL} {S : List Value} {M : aM} : am_run (c_Model_say) k_Model_say J K (n + 1) 31 L S M = ai_vret (am_run (c_Model_say) k_Model_say J K n) K 31 L S M := by rfl
def c_Model_number (s_Model_say : aS) : List (Nat × aI) := [
  (0, ai_iload 1 1),
  (1, ai_ifge 10 4),
  (4, ai_aload 0 5),
  (5, ai_const 45 7),
  (7, ai_callv2 7 s_Model_say 10),
  (10, ai_iload 1 11),
  (11, ai_ifge 19 14),
  (14, ai_iload 1 15),
  (15, ai_ineg 16),
  (16, ai_goto 20),
  (19, ai_iload 1 20),
  (20, ai_istore 2 21),
  (21, ai_const 1 22),
  (22, ai_istore 3 23),
  (23, ai_iload 2 24),
  (24, ai_iload 3 25),
  (25, ai_idiv 26),
  (26, ai_const 9 28),
  (28, ai_cmple 39 31),
  (31, ai_iload 3 32),
  (32, ai_const 10 34),
  (34, ai_imul 35),
  (35, ai_istore 3 36),
  (36, ai_goto 23),
  (39, ai_iload 3 40),
  (40, ai_ifle 64 43),
  (43, ai_aload 0 44),
  (44, ai_const 48 46),
  (46, ai_iload 2 47),
  (47, ai_iload 3 48),
  (48, ai_idiv 49),
  (49, ai_const 10 51),
  (51, ai_irem 52),
  (52, ai_iadd 53),
  (53, ai_callv2 7 s_Model_say 56),
  (56, ai_iload 3 57),
  (57, ai_const 10 59),
  (59, ai_idiv 60),
  (60, ai_istore 3 61),
  (61, ai_goto 39),
  (64, ai_vret)]
set_option maxRecDepth 100000 in
set_option maxHeartbeats 4000000 in
theorem tb_Model_number {G : aG} {d : Nat} {s_Model_say : aS} {d_Model_say : Nat} (h_Model_say : am_Sp G Y_Model_say d_Model_say s_Model_say) (l_Model_say : d_Model_say < d) : am_tab G Y_Model_number d (c_Model_number s_Model_say) := by
  intro K p e s m args below meth c C
  exact ⟨as_iload_n C (pc := 0) (q := 1) (by decide +kernel) rfl rfl,
    as_ifge C (pc := 1) (off := 9) (by decide +kernel) (by decide) rfl,
    as_aload_n C (pc := 4) (q := 0) (by decide +kernel) rfl rfl,
    as_bipush C (pc := 5) (n := 45) (by decide +kernel) (by decide +kernel) rfl,
    as_callv2 C (pc := 7) h_Model_say (T := T_Model) (N := 21) rfl w_735 w_78 w_734 w_65 w_732 hy_Model_say (am_rm_of l_Model_say (by decide)) (by decide +kernel) rfl,
    as_iload_n C (pc := 10) (q := 1) (by decide +kernel) rfl rfl,
    as_ifge C (pc := 11) (off := 8) (by decide +kernel) (by decide) rfl,
    as_iload_n C (pc := 14) (q := 1) (by decide +kernel) rfl rfl,
    as_ineg C (pc := 15) (by decide +kernel) rfl,
    as_goto C (pc := 16) (off := 4) (by decide +kernel) (by decide),
    as_iload_n C (pc := 19) (q := 1) (by decide +kernel) rfl rfl,
    as_istore_n C (pc := 20) (q := 2) (by decide +kernel) rfl (by decide) rfl,
    as_iconst C (pc := 21) (n := 1) (by decide +kernel) (by decide +kernel) rfl,
    as_istore_n C (pc := 22) (q := 3) (by decide +kernel) rfl (by decide) rfl,
    as_iload_n C (pc := 23) (q := 2) (by decide +kernel) rfl rfl,
    as_iload_n C (pc := 24) (q := 3) (by decide +kernel) rfl rfl,
    as_idiv C (pc := 25) (by decide +kernel) rfl,
    as_bipush C (pc := 26) (n := 9) (by decide +kernel) (by decide +kernel) rfl,
    as_cmple C (pc := 28) (off := 11) (by decide +kernel) (by decide) rfl,
    as_iload_n C (pc := 31) (q := 3) (by decide +kernel) rfl rfl,
    as_bipush C (pc := 32) (n := 10) (by decide +kernel) (by decide +kernel) rfl,
    as_imul C (pc := 34) (by decide +kernel) rfl,
    as_istore_n C (pc := 35) (q := 3) (by decide +kernel) rfl (by decide) rfl,
    as_goto C (pc := 36) (off := (-13)) (by decide +kernel) (by decide),
    as_iload_n C (pc := 39) (q := 3) (by decide +kernel) rfl rfl,
    as_ifle C (pc := 40) (off := 24) (by decide +kernel) (by decide) rfl,
    as_aload_n C (pc := 43) (q := 0) (by decide +kernel) rfl rfl,
    as_bipush C (pc := 44) (n := 48) (by decide +kernel) (by decide +kernel) rfl,
    as_iload_n C (pc := 46) (q := 2) (by decide +kernel) rfl rfl,
    as_iload_n C (pc := 47) (q := 3) (by decide +kernel) rfl rfl,
    as_idiv C (pc := 48) (by decide +kernel) rfl,
    as_bipush C (pc := 49) (n := 10) (by decide +kernel) (by decide +kernel) rfl,
    as_irem C (pc := 51) (by decide +kernel) rfl,
    as_iadd C (pc := 52) (by decide +kernel) rfl,
    as_callv2 C (pc := 53) h_Model_say (T := T_Model) (N := 21) rfl w_735 w_78 w_734 w_65 w_732 hy_Model_say (am_rm_of l_Model_say (by decide)) (by decide +kernel) rfl,
    as_iload_n C (pc := 56) (q := 3) (by decide +kernel) rfl rfl,
    as_bipush C (pc := 57) (n := 10) (by decide +kernel) (by decide +kernel) rfl,
    as_idiv C (pc := 59) (by decide +kernel) rfl,
    as_istore_n C (pc := 60) (q := 3) (by decide +kernel) rfl (by decide) rfl,
    as_goto C (pc := 61) (off := (-22)) (by decide +kernel) (by decide),
    as_vret C (pc := 64) rfl (by decide +kernel), trivial⟩
abbrev k_Model_number : List Nat := [23, 39]
theorem q_Model_number_23 {s_Model_say : aS} : am_at (c_Model_number s_Model_say) 23 = ai_iload 2 24 := by rfl
theorem q_Model_number_39 {s_Model_say : aS} : am_at (c_Model_number s_Model_say) 39 = ai_iload 3 40 := by rfl
theorem r_Model_number_0 {s_Model_say : aS} {J : aJ} {K : aR} {n : Nat} {L : aL} {S : List Value} {M : aM} : am_run (c_Model_number s_Model_say) k_Model_number J K (n + 1) 0 L S M = ai_iload 1 1 (am_run (c_Model_number s_Model_say) k_Model_number J K n) K 0 L S M := by rfl
theorem r_Model_number_1 {s_Model_say : aS} {J : aJ} {K : aR} {n : Nat} {L : aL} {S : List Value} {M : aM} : am_run (c_Model_number s_Model_say) k_Model_number J K (n + 1) 1 L S M = ai_ifge 10 4 (am_run (c_Model_number s_Model_say) k_Model_number J K n) K 1 L S M := by rfl
theorem r_Model_number_4 {s_Model_say : aS} {J : aJ} {K : aR} {n : Nat} {L : aL} {S : List Value} {M : aM} : am_run (c_Model_number s_Model_say) k_Model_number J K (n + 1) 4 L S M = ai_aload 0 5 (am_run (c_Model_number s_Model_say) k_Model_number J K n) K 4 L S M := by rfl
theorem r_Model_number_5 {s_Model_say : aS} {J : aJ} {K : aR} {n : Nat} {L : aL} {S : List Value} {M : aM} : am_run (c_Model_number s_Model_say) k_Model_number J K (n + 1) 5 L S M = ai_const 45 7 (am_run (c_Model_number s_Model_say) k_Model_number J K n) K 5 L S M := by rfl
theorem r_Model_number_7 {s_Model_say : aS} {J : aJ} {K : aR} {n : Nat} {L : aL} {S : List Value} {M : aM} : am_run (c_Model_number s_Model_say) k_Model_number J K (n + 1) 7 L S M = ai_callv2 7 s_Model_say 10 (am_run (c_Model_number s_Model_say) k_Model_number J K n) K 7 L S M := by rfl
theorem r_Model_number_10 {s_Model_say : aS} {J : aJ} {K : aR} {n : Nat} {L : aL} {S : List Value} {M : aM} : am_run (c_Model_number s_Model_say) k_Model_number J K (n + 1) 10 L S M = ai_iload 1 11 (am_run (c_Model_number s_Model_say) k_Model_number J K n) K 10 L S M := by rfl
theorem r_Model_number_11 {s_Model_say : aS} {J : aJ} {K : aR} {n : Nat} {L : aL} {S : List Value} {M : aM} : am_run (c_Model_number s_Model_say) k_Model_number J K (n + 1) 11 L S M = ai_ifge 19 14 (am_run (c_Model_number s_Model_say) k_Model_number J K n) K 11 L S M := by rfl
theorem r_Model_number_14 {s_Model_say : aS} {J : aJ} {K : aR} {n : Nat} {L : aL} {S : List Value} {M : aM} : am_run (c_Model_number s_Model_say) k_Model_number J K (n + 1) 14 L S M = ai_iload 1 15 (am_run (c_Model_number s_Model_say) k_Model_number J K n) K 14 L S M := by rfl
theorem r_Model_number_15 {s_Model_say : aS} {J : aJ} {K : aR} {n : Nat} {L : aL} {S : List Value} {M : aM} : am_run (c_Model_number s_Model_say) k_Model_number J K (n + 1) 15 L S M = ai_ineg 16 (am_run (c_Model_number s_Model_say) k_Model_number J K n) K 15 L S M := by rfl
theorem r_Model_number_16 {s_Model_say : aS} {J : aJ} {K : aR} {n : Nat} {L : aL} {S : List Value} {M : aM} : am_run (c_Model_number s_Model_say) k_Model_number J K (n + 1) 16 L S M = ai_goto 20 (am_run (c_Model_number s_Model_say) k_Model_number J K n) K 16 L S M := by rfl
theorem r_Model_number_19 {s_Model_say : aS} {J : aJ} {K : aR} {n : Nat} {L : aL} {S : List Value} {M : aM} : am_run (c_Model_number s_Model_say) k_Model_number J K (n + 1) 19 L S M = ai_iload 1 20 (am_run (c_Model_number s_Model_say) k_Model_number J K n) K 19 L S M := by rfl
theorem r_Model_number_20 {s_Model_say : aS} {J : aJ} {K : aR} {n : Nat} {L : aL} {S : List Value} {M : aM} : am_run (c_Model_number s_Model_say) k_Model_number J K (n + 1) 20 L S M = ai_istore 2 21 (am_run (c_Model_number s_Model_say) k_Model_number J K n) K 20 L S M := by rfl
theorem r_Model_number_21 {s_Model_say : aS} {J : aJ} {K : aR} {n : Nat} {L : aL} {S : List Value} {M : aM} : am_run (c_Model_number s_Model_say) k_Model_number J K (n + 1) 21 L S M = ai_const 1 22 (am_run (c_Model_number s_Model_say) k_Model_number J K n) K 21 L S M := by rfl
theorem r_Model_number_22 {s_Model_say : aS} {J : aJ} {K : aR} {n : Nat} {L : aL} {S : List Value} {M : aM} : am_run (c_Model_number s_Model_say) k_Model_number J K (n + 1) 22 L S M = ai_istore 3 23 (am_run (c_Model_number s_Model_say) k_Model_number J K n) K 22 L S M := by rfl
theorem r_Model_number_23 {s_Model_say : aS} {J : aJ} {K : aR} {n : Nat} {L : aL} {S : List Value} {M : aM} : am_run (c_Model_number s_Model_say) k_Model_number J K (n + 1) 23 L S M = J 23 L S M := by rfl
theorem r_Model_number_24 {s_Model_say : aS} {J : aJ} {K : aR} {n : Nat} {L : aL} {S : List Value} {M : aM} : am_run (c_Model_number s_Model_say) k_Model_number J K (n + 1) 24 L S M = ai_iload 3 25 (am_run (c_Model_number s_Model_say) k_Model_number J K n) K 24 L S M := by rfl
theorem r_Model_number_25 {s_Model_say : aS} {J : aJ} {K : aR} {n : Nat} {L : aL} {S : List Value} {M : aM} : am_run (c_Model_number s_Model_say) k_Model_number J K (n + 1) 25 L S M = ai_idiv 26 (am_run (c_Model_number s_Model_say) k_Model_number J K n) K 25 L S M := by rfl
theorem r_Model_number_26 {s_Model_say : aS} {J : aJ} {K : aR} {n : Nat} {L : aL} {S : List Value} {M : aM} : am_run (c_Model_number s_Model_say) k_Model_number J K (n + 1) 26 L S M = ai_const 9 28 (am_run (c_Model_number s_Model_say) k_Model_number J K n) K 26 L S M := by rfl
theorem r_Model_number_28 {s_Model_say : aS} {J : aJ} {K : aR} {n : Nat} {L : aL} {S : List Value} {M : aM} : am_run (c_Model_number s_Model_say) k_Model_number J K (n + 1) 28 L S M = ai_cmple 39 31 (am_run (c_Model_number s_Model_say) k_Model_number J K n) K 28 L S M := by rfl
theorem r_Model_number_31 {s_Model_say : aS} {J : aJ} {K : aR} {n : Nat} {L : aL} {S : List Value} {M : aM} : am_run (c_Model_number s_Model_say) k_Model_number J K (n + 1) 31 L S M = ai_iload 3 32 (am_run (c_Model_number s_Model_say) k_Model_number J K n) K 31 L S M := by rfl
theorem r_Model_number_32 {s_Model_say : aS} {J : aJ} {K : aR} {n : Nat} {L : aL} {S : List Value} {M : aM} : am_run (c_Model_number s_Model_say) k_Model_number J K (n + 1) 32 L S M = ai_const 10 34 (am_run (c_Model_number s_Model_say) k_Model_number J K n) K 32 L S M := by rfl
theorem r_Model_number_34 {s_Model_say : aS} {J : aJ} {K : aR} {n : Nat} {L : aL} {S : List Value} {M : aM} : am_run (c_Model_number s_Model_say) k_Model_number J K (n + 1) 34 L S M = ai_imul 35 (am_run (c_Model_number s_Model_say) k_Model_number J K n) K 34 L S M := by rfl
theorem r_Model_number_35 {s_Model_say : aS} {J : aJ} {K : aR} {n : Nat} {L : aL} {S : List Value} {M : aM} : am_run (c_Model_number s_Model_say) k_Model_number J K (n + 1) 35 L S M = ai_istore 3 36 (am_run (c_Model_number s_Model_say) k_Model_number J K n) K 35 L S M := by rfl
theorem r_Model_number_36 {s_Model_say : aS} {J : aJ} {K : aR} {n : Nat} {L : aL} {S : List Value} {M : aM} : am_run (c_Model_number s_Model_say) k_Model_number J K (n + 1) 36 L S M = ai_goto 23 (am_run (c_Model_number s_Model_say) k_Model_number J K n) K 36 L S M := by rfl
theorem r_Model_number_39 {s_Model_say : aS} {J : aJ} {K : aR} {n : Nat} {L : aL} {S : List Value} {M : aM} : am_run (c_Model_number s_Model_say) k_Model_number J K (n + 1) 39 L S M = J 39 L S M := by rfl
theorem r_Model_number_40 {s_Model_say : aS} {J : aJ} {K : aR} {n : Nat} {L : aL} {S : List Value} {M : aM} : am_run (c_Model_number s_Model_say) k_Model_number J K (n + 1) 40 L S M = ai_ifle 64 43 (am_run (c_Model_number s_Model_say) k_Model_number J K n) K 40 L S M := by rfl
theorem r_Model_number_43 {s_Model_say : aS} {J : aJ} {K : aR} {n : Nat} {L : aL} {S : List Value} {M : aM} : am_run (c_Model_number s_Model_say) k_Model_number J K (n + 1) 43 L S M = ai_aload 0 44 (am_run (c_Model_number s_Model_say) k_Model_number J K n) K 43 L S M := by rfl
theorem r_Model_number_44 {s_Model_say : aS} {J : aJ} {K : aR} {n : Nat} {L : aL} {S : List Value} {M : aM} : am_run (c_Model_number s_Model_say) k_Model_number J K (n + 1) 44 L S M = ai_const 48 46 (am_run (c_Model_number s_Model_say) k_Model_number J K n) K 44 L S M := by rfl
theorem r_Model_number_46 {s_Model_say : aS} {J : aJ} {K : aR} {n : Nat} {L : aL} {S : List Value} {M : aM} : am_run (c_Model_number s_Model_say) k_Model_number J K (n + 1) 46 L S M = ai_iload 2 47 (am_run (c_Model_number s_Model_say) k_Model_number J K n) K 46 L S M := by rfl
theorem r_Model_number_47 {s_Model_say : aS} {J : aJ} {K : aR} {n : Nat} {L : aL} {S : List Value} {M : aM} : am_run (c_Model_number s_Model_say) k_Model_number J K (n + 1) 47 L S M = ai_iload 3 48 (am_run (c_Model_number s_Model_say) k_Model_number J K n) K 47 L S M := by rfl
theorem r_Model_number_48 {s_Model_say : aS} {J : aJ} {K : aR} {n : Nat} {L : aL} {S : List Value} {M : aM} : am_run (c_Model_number s_Model_say) k_Model_number J K (n + 1) 48 L S M = ai_idiv 49 (am_run (c_Model_number s_Model_say) k_Model_number J K n) K 48 L S M := by rfl
theorem r_Model_number_49 {s_Model_say : aS} {J : aJ} {K : aR} {n : Nat} {L : aL} {S : List Value} {M : aM} : am_run (c_Model_number s_Model_say) k_Model_number J K (n + 1) 49 L S M = ai_const 10 51 (am_run (c_Model_number s_Model_say) k_Model_number J K n) K 49 L S M := by rfl
theorem r_Model_number_51 {s_Model_say : aS} {J : aJ} {K : aR} {n : Nat} {L : aL} {S : List Value} {M : aM} : am_run (c_Model_number s_Model_say) k_Model_number J K (n + 1) 51 L S M = ai_irem 52 (am_run (c_Model_number s_Model_say) k_Model_number J K n) K 51 L S M := by rfl
theorem r_Model_number_52 {s_Model_say : aS} {J : aJ} {K : aR} {n : Nat} {L : aL} {S : List Value} {M : aM} : am_run (c_Model_number s_Model_say) k_Model_number J K (n + 1) 52 L S M = ai_iadd 53 (am_run (c_Model_number s_Model_say) k_Model_number J K n) K 52 L S M := by rfl
theorem r_Model_number_53 {s_Model_say : aS} {J : aJ} {K : aR} {n : Nat} {L : aL} {S : List Value} {M : aM} : am_run (c_Model_number s_Model_say) k_Model_number J K (n + 1) 53 L S M = ai_callv2 7 s_Model_say 56 (am_run (c_Model_number s_Model_say) k_Model_number J K n) K 53 L S M := by rfl
theorem r_Model_number_56 {s_Model_say : aS} {J : aJ} {K : aR} {n : Nat} {L : aL} {S : List Value} {M : aM} : am_run (c_Model_number s_Model_say) k_Model_number J K (n + 1) 56 L S M = ai_iload 3 57 (am_run (c_Model_number s_Model_say) k_Model_number J K n) K 56 L S M := by rfl
theorem r_Model_number_57 {s_Model_say : aS} {J : aJ} {K : aR} {n : Nat} {L : aL} {S : List Value} {M : aM} : am_run (c_Model_number s_Model_say) k_Model_number J K (n + 1) 57 L S M = ai_const 10 59 (am_run (c_Model_number s_Model_say) k_Model_number J K n) K 57 L S M := by rfl
theorem r_Model_number_59 {s_Model_say : aS} {J : aJ} {K : aR} {n : Nat} {L : aL} {S : List Value} {M : aM} : am_run (c_Model_number s_Model_say) k_Model_number J K (n + 1) 59 L S M = ai_idiv 60 (am_run (c_Model_number s_Model_say) k_Model_number J K n) K 59 L S M := by rfl
theorem r_Model_number_60 {s_Model_say : aS} {J : aJ} {K : aR} {n : Nat} {L : aL} {S : List Value} {M : aM} : am_run (c_Model_number s_Model_say) k_Model_number J K (n + 1) 60 L S M = ai_istore 3 61 (am_run (c_Model_number s_Model_say) k_Model_number J K n) K 60 L S M := by rfl
theorem r_Model_number_61 {s_Model_say : aS} {J : aJ} {K : aR} {n : Nat} {L : aL} {S : List Value} {M : aM} : am_run (c_Model_number s_Model_say) k_Model_number J K (n + 1) 61 L S M = ai_goto 39 (am_run (c_Model_number s_Model_say) k_Model_number J K n) K 61 L S M := by rfl
theorem r_Model_number_64 {s_Model_say : aS} {J : aJ} {K : aR} {n : Nat} {L : aL} {S : List Value} {M : aM} : am_run (c_Model_number s_Model_say) k_Model_number J K (n + 1) 64 L S M = ai_vret (am_run (c_Model_number s_Model_say) k_Model_number J K n) K 64 L S M := by rfl
def c_Model_letters (s_Model_say : aS) : List (Nat × aI) := [
  (0, ai_aload 0 1),
  (1, ai_getf 7 6 4),
  (4, ai_iload 1 5),
  (5, ai_iald 6),
  (6, ai_const 3 7),
  (7, ai_cmpne 14 10),
  (10, ai_const 1 11),
  (11, ai_goto 15),
  (14, ai_const 0 15),
  (15, ai_istore 2 16),
  (16, ai_iload 2 17),
  (17, ai_ifeq 26 20),
  (20, ai_aload 0 21),
  (21, ai_const 34 23),
  (23, ai_callv2 7 s_Model_say 26),
  (26, ai_const 0 27),
  (27, ai_istore 3 28),
  (28, ai_iload 3 29),
  (29, ai_aload 0 30),
  (30, ai_getf 7 7 33),
  (33, ai_iload 1 34),
  (34, ai_iald 35),
  (35, ai_cmpge 87 38),
  (38, ai_aload 0 39),
  (39, ai_getf 7 8 42),
  (42, ai_const 20 44),
  (44, ai_iload 1 45),
  (45, ai_imul 46),
  (46, ai_iload 3 47),
  (47, ai_iadd 48),
  (48, ai_iald 49),
  (49, ai_istore 4 51),
  (51, ai_iload 2 52),
  (52, ai_ifeq 75 55),
  (55, ai_iload 4 57),
  (57, ai_const 34 59),
  (59, ai_cmpeq 69 62),
  (62, ai_iload 4 64),
  (64, ai_const 92 66),
  (66, ai_cmpne 75 69),
  (69, ai_aload 0 70),
  (70, ai_const 92 72),
  (72, ai_callv2 7 s_Model_say 75),
  (75, ai_aload 0 76),
  (76, ai_iload 4 78),
  (78, ai_callv2 7 s_Model_say 81),
  (81, ai_iinc 3 1 84),
  (84, ai_goto 28),
  (87, ai_iload 2 88),
  (88, ai_ifeq 97 91),
  (91, ai_aload 0 92),
  (92, ai_const 34 94),
  (94, ai_callv2 7 s_Model_say 97),
  (97, ai_vret)]
set_option maxRecDepth 100000 in
set_option maxHeartbeats 4000000 in
theorem tb_Model_letters {G : aG} {d : Nat} {s_Model_say : aS} {d_Model_say : Nat} (h_Model_say : am_Sp G Y_Model_say d_Model_say s_Model_say) (l_Model_say : d_Model_say < d) : am_tab G Y_Model_letters d (c_Model_letters s_Model_say) := by
  intro K p e s m args below meth c C
  exact ⟨as_aload_n C (pc := 0) (q := 0) (by decide +kernel) rfl rfl,
    as_getf C (pc := 1) (T := T_Model) (N := 21) rfl in_Model (by decide) rfl w_523 (by decide +kernel) rfl,
    as_iload_n C (pc := 4) (q := 1) (by decide +kernel) rfl rfl,
    as_iald C (pc := 5) (by decide +kernel) rfl,
    as_iconst C (pc := 6) (n := 3) (by decide +kernel) (by decide +kernel) rfl,
    as_cmpne C (pc := 7) (off := 7) (by decide +kernel) (by decide) rfl,
    as_iconst C (pc := 10) (n := 1) (by decide +kernel) (by decide +kernel) rfl,
    as_goto C (pc := 11) (off := 4) (by decide +kernel) (by decide),
    as_iconst C (pc := 14) (n := 0) (by decide +kernel) (by decide +kernel) rfl,
    as_istore_n C (pc := 15) (q := 2) (by decide +kernel) rfl (by decide) rfl,
    as_iload_n C (pc := 16) (q := 2) (by decide +kernel) rfl rfl,
    as_ifeq C (pc := 17) (off := 9) (by decide +kernel) (by decide) rfl,
    as_aload_n C (pc := 20) (q := 0) (by decide +kernel) rfl rfl,
    as_bipush C (pc := 21) (n := 34) (by decide +kernel) (by decide +kernel) rfl,
    as_callv2 C (pc := 23) h_Model_say (T := T_Model) (N := 21) rfl w_735 w_78 w_734 w_65 w_732 hy_Model_say (am_rm_of l_Model_say (by decide)) (by decide +kernel) rfl,
    as_iconst C (pc := 26) (n := 0) (by decide +kernel) (by decide +kernel) rfl,
    as_istore_n C (pc := 27) (q := 3) (by decide +kernel) rfl (by decide) rfl,
    as_iload_n C (pc := 28) (q := 3) (by decide +kernel) rfl rfl,
    as_aload_n C (pc := 29) (q := 0) (by decide +kernel) rfl rfl,
    as_getf C (pc := 30) (T := T_Model) (N := 21) rfl in_Model (by decide) rfl w_524 (by decide +kernel) rfl,
    as_iload_n C (pc := 33) (q := 1) (by decide +kernel) rfl rfl,
    as_iald C (pc := 34) (by decide +kernel) rfl,
    as_cmpge C (pc := 35) (off := 52) (by decide +kernel) (by decide) rfl,
    as_aload_n C (pc := 38) (q := 0) (by decide +kernel) rfl rfl,
    as_getf C (pc := 39) (T := T_Model) (N := 21) rfl in_Model (by decide) rfl w_525 (by decide +kernel) rfl,
    as_bipush C (pc := 42) (n := 20) (by decide +kernel) (by decide +kernel) rfl,
    as_iload_n C (pc := 44) (q := 1) (by decide +kernel) rfl rfl,
    as_imul C (pc := 45) (by decide +kernel) rfl,
    as_iload_n C (pc := 46) (q := 3) (by decide +kernel) rfl rfl,
    as_iadd C (pc := 47) (by decide +kernel) rfl,
    as_iald C (pc := 48) (by decide +kernel) rfl,
    as_istore C (pc := 49) (k := 4) (by decide +kernel) (by decide) rfl,
    as_iload_n C (pc := 51) (q := 2) (by decide +kernel) rfl rfl,
    as_ifeq C (pc := 52) (off := 23) (by decide +kernel) (by decide) rfl,
    as_iload C (pc := 55) (k := 4) (by decide +kernel) rfl,
    as_bipush C (pc := 57) (n := 34) (by decide +kernel) (by decide +kernel) rfl,
    as_cmpeq C (pc := 59) (off := 10) (by decide +kernel) (by decide) rfl,
    as_iload C (pc := 62) (k := 4) (by decide +kernel) rfl,
    as_bipush C (pc := 64) (n := 92) (by decide +kernel) (by decide +kernel) rfl,
    as_cmpne C (pc := 66) (off := 9) (by decide +kernel) (by decide) rfl,
    as_aload_n C (pc := 69) (q := 0) (by decide +kernel) rfl rfl,
    as_bipush C (pc := 70) (n := 92) (by decide +kernel) (by decide +kernel) rfl,
    as_callv2 C (pc := 72) h_Model_say (T := T_Model) (N := 21) rfl w_735 w_78 w_734 w_65 w_732 hy_Model_say (am_rm_of l_Model_say (by decide)) (by decide +kernel) rfl,
    as_aload_n C (pc := 75) (q := 0) (by decide +kernel) rfl rfl,
    as_iload C (pc := 76) (k := 4) (by decide +kernel) rfl,
    as_callv2 C (pc := 78) h_Model_say (T := T_Model) (N := 21) rfl w_735 w_78 w_734 w_65 w_732 hy_Model_say (am_rm_of l_Model_say (by decide)) (by decide +kernel) rfl,
    as_iinc C (pc := 81) (k := 3) (n := 1) (by decide +kernel) (by decide +kernel) (by decide) rfl,
    as_goto C (pc := 84) (off := (-56)) (by decide +kernel) (by decide),
    as_iload_n C (pc := 87) (q := 2) (by decide +kernel) rfl rfl,
    as_ifeq C (pc := 88) (off := 9) (by decide +kernel) (by decide) rfl,
    as_aload_n C (pc := 91) (q := 0) (by decide +kernel) rfl rfl,
    as_bipush C (pc := 92) (n := 34) (by decide +kernel) (by decide +kernel) rfl,
    as_callv2 C (pc := 94) h_Model_say (T := T_Model) (N := 21) rfl w_735 w_78 w_734 w_65 w_732 hy_Model_say (am_rm_of l_Model_say (by decide)) (by decide +kernel) rfl,
    as_vret C (pc := 97) rfl (by decide +kernel), trivial⟩
abbrev k_Model_letters : List Nat := [28]
set_option maxRecDepth 20000 in
theorem q_Model_letters_28 {s_Model_say : aS} : am_at (c_Model_letters s_Model_say) 28 = ai_iload 3 29 := by rfl
set_option maxRecDepth 20000 in
theorem r_Model_letters_0 {s_Model_say : aS} {J : aJ} {K : aR} {n : Nat} {L : aL} {S : List Value} {M : aM} : am_run (c_Model_letters s_Model_say) k_Model_letters J K (n + 1) 0 L S M = ai_aload 0 1 (am_run (c_Model_letters s_Model_say) k_Model_letters J K n) K 0 L S M := by rfl
set_option maxRecDepth 20000 in
theorem r_Model_letters_1 {s_Model_say : aS} {J : aJ} {K : aR} {n : Nat} {L : aL} {S : List Value} {M : aM} : am_run (c_Model_letters s_Model_say) k_Model_letters J K (n + 1) 1 L S M = ai_getf 7 6 4 (am_run (c_Model_letters s_Model_say) k_Model_letters J K n) K 1 L S M := by rfl
set_option maxRecDepth 20000 in
theorem r_Model_letters_4 {s_Model_say : aS} {J : aJ} {K : aR} {n : Nat} {L : aL} {S : List Value} {M : aM} : am_run (c_Model_letters s_Model_say) k_Model_letters J K (n + 1) 4 L S M = ai_iload 1 5 (am_run (c_Model_letters s_Model_say) k_Model_letters J K n) K 4 L S M := by rfl
set_option maxRecDepth 20000 in
theorem r_Model_letters_5 {s_Model_say : aS} {J : aJ} {K : aR} {n : Nat} {L : aL} {S : List Value} {M : aM} : am_run (c_Model_letters s_Model_say) k_Model_letters J K (n + 1) 5 L S M = ai_iald 6 (am_run (c_Model_letters s_Model_say) k_Model_letters J K n) K 5 L S M := by rfl
set_option maxRecDepth 20000 in
theorem r_Model_letters_6 {s_Model_say : aS} {J : aJ} {K : aR} {n : Nat} {L : aL} {S : List Value} {M : aM} : am_run (c_Model_letters s_Model_say) k_Model_letters J K (n + 1) 6 L S M = ai_const 3 7 (am_run (c_Model_letters s_Model_say) k_Model_letters J K n) K 6 L S M := by rfl
set_option maxRecDepth 20000 in
theorem r_Model_letters_7 {s_Model_say : aS} {J : aJ} {K : aR} {n : Nat} {L : aL} {S : List Value} {M : aM} : am_run (c_Model_letters s_Model_say) k_Model_letters J K (n + 1) 7 L S M = ai_cmpne 14 10 (am_run (c_Model_letters s_Model_say) k_Model_letters J K n) K 7 L S M := by rfl
set_option maxRecDepth 20000 in
theorem r_Model_letters_10 {s_Model_say : aS} {J : aJ} {K : aR} {n : Nat} {L : aL} {S : List Value} {M : aM} : am_run (c_Model_letters s_Model_say) k_Model_letters J K (n + 1) 10 L S M = ai_const 1 11 (am_run (c_Model_letters s_Model_say) k_Model_letters J K n) K 10 L S M := by rfl
set_option maxRecDepth 20000 in
theorem r_Model_letters_11 {s_Model_say : aS} {J : aJ} {K : aR} {n : Nat} {L : aL} {S : List Value} {M : aM} : am_run (c_Model_letters s_Model_say) k_Model_letters J K (n + 1) 11 L S M = ai_goto 15 (am_run (c_Model_letters s_Model_say) k_Model_letters J K n) K 11 L S M := by rfl
set_option maxRecDepth 20000 in
theorem r_Model_letters_14 {s_Model_say : aS} {J : aJ} {K : aR} {n : Nat} {L : aL} {S : List Value} {M : aM} : am_run (c_Model_letters s_Model_say) k_Model_letters J K (n + 1) 14 L S M = ai_const 0 15 (am_run (c_Model_letters s_Model_say) k_Model_letters J K n) K 14 L S M := by rfl
set_option maxRecDepth 20000 in
theorem r_Model_letters_15 {s_Model_say : aS} {J : aJ} {K : aR} {n : Nat} {L : aL} {S : List Value} {M : aM} : am_run (c_Model_letters s_Model_say) k_Model_letters J K (n + 1) 15 L S M = ai_istore 2 16 (am_run (c_Model_letters s_Model_say) k_Model_letters J K n) K 15 L S M := by rfl
set_option maxRecDepth 20000 in
theorem r_Model_letters_16 {s_Model_say : aS} {J : aJ} {K : aR} {n : Nat} {L : aL} {S : List Value} {M : aM} : am_run (c_Model_letters s_Model_say) k_Model_letters J K (n + 1) 16 L S M = ai_iload 2 17 (am_run (c_Model_letters s_Model_say) k_Model_letters J K n) K 16 L S M := by rfl
set_option maxRecDepth 20000 in
theorem r_Model_letters_17 {s_Model_say : aS} {J : aJ} {K : aR} {n : Nat} {L : aL} {S : List Value} {M : aM} : am_run (c_Model_letters s_Model_say) k_Model_letters J K (n + 1) 17 L S M = ai_ifeq 26 20 (am_run (c_Model_letters s_Model_say) k_Model_letters J K n) K 17 L S M := by rfl
set_option maxRecDepth 20000 in
theorem r_Model_letters_20 {s_Model_say : aS} {J : aJ} {K : aR} {n : Nat} {L : aL} {S : List Value} {M : aM} : am_run (c_Model_letters s_Model_say) k_Model_letters J K (n + 1) 20 L S M = ai_aload 0 21 (am_run (c_Model_letters s_Model_say) k_Model_letters J K n) K 20 L S M := by rfl
set_option maxRecDepth 20000 in
theorem r_Model_letters_21 {s_Model_say : aS} {J : aJ} {K : aR} {n : Nat} {L : aL} {S : List Value} {M : aM} : am_run (c_Model_letters s_Model_say) k_Model_letters J K (n + 1) 21 L S M = ai_const 34 23 (am_run (c_Model_letters s_Model_say) k_Model_letters J K n) K 21 L S M := by rfl
set_option maxRecDepth 20000 in
theorem r_Model_letters_23 {s_Model_say : aS} {J : aJ} {K : aR} {n : Nat} {L : aL} {S : List Value} {M : aM} : am_run (c_Model_letters s_Model_say) k_Model_letters J K (n + 1) 23 L S M = ai_callv2 7 s_Model_say 26 (am_run (c_Model_letters s_Model_say) k_Model_letters J K n) K 23 L S M := by rfl
set_option maxRecDepth 20000 in
theorem r_Model_letters_26 {s_Model_say : aS} {J : aJ} {K : aR} {n : Nat} {L : aL} {S : List Value} {M : aM} : am_run (c_Model_letters s_Model_say) k_Model_letters J K (n + 1) 26 L S M = ai_const 0 27 (am_run (c_Model_letters s_Model_say) k_Model_letters J K n) K 26 L S M := by rfl
set_option maxRecDepth 20000 in
theorem r_Model_letters_27 {s_Model_say : aS} {J : aJ} {K : aR} {n : Nat} {L : aL} {S : List Value} {M : aM} : am_run (c_Model_letters s_Model_say) k_Model_letters J K (n + 1) 27 L S M = ai_istore 3 28 (am_run (c_Model_letters s_Model_say) k_Model_letters J K n) K 27 L S M := by rfl
set_option maxRecDepth 20000 in
theorem r_Model_letters_28 {s_Model_say : aS} {J : aJ} {K : aR} {n : Nat} {L : aL} {S : List Value} {M : aM} : am_run (c_Model_letters s_Model_say) k_Model_letters J K (n + 1) 28 L S M = J 28 L S M := by rfl
set_option maxRecDepth 20000 in
theorem r_Model_letters_29 {s_Model_say : aS} {J : aJ} {K : aR} {n : Nat} {L : aL} {S : List Value} {M : aM} : am_run (c_Model_letters s_Model_say) k_Model_letters J K (n + 1) 29 L S M = ai_aload 0 30 (am_run (c_Model_letters s_Model_say) k_Model_letters J K n) K 29 L S M := by rfl
set_option maxRecDepth 20000 in
theorem r_Model_letters_30 {s_Model_say : aS} {J : aJ} {K : aR} {n : Nat} {L : aL} {S : List Value} {M : aM} : am_run (c_Model_letters s_Model_say) k_Model_letters J K (n + 1) 30 L S M = ai_getf 7 7 33 (am_run (c_Model_letters s_Model_say) k_Model_letters J K n) K 30 L S M := by rfl
set_option maxRecDepth 20000 in
theorem r_Model_letters_33 {s_Model_say : aS} {J : aJ} {K : aR} {n : Nat} {L : aL} {S : List Value} {M : aM} : am_run (c_Model_letters s_Model_say) k_Model_letters J K (n + 1) 33 L S M = ai_iload 1 34 (am_run (c_Model_letters s_Model_say) k_Model_letters J K n) K 33 L S M := by rfl
set_option maxRecDepth 20000 in
theorem r_Model_letters_34 {s_Model_say : aS} {J : aJ} {K : aR} {n : Nat} {L : aL} {S : List Value} {M : aM} : am_run (c_Model_letters s_Model_say) k_Model_letters J K (n + 1) 34 L S M = ai_iald 35 (am_run (c_Model_letters s_Model_say) k_Model_letters J K n) K 34 L S M := by rfl
set_option maxRecDepth 20000 in
theorem r_Model_letters_35 {s_Model_say : aS} {J : aJ} {K : aR} {n : Nat} {L : aL} {S : List Value} {M : aM} : am_run (c_Model_letters s_Model_say) k_Model_letters J K (n + 1) 35 L S M = ai_cmpge 87 38 (am_run (c_Model_letters s_Model_say) k_Model_letters J K n) K 35 L S M := by rfl
set_option maxRecDepth 20000 in
theorem r_Model_letters_38 {s_Model_say : aS} {J : aJ} {K : aR} {n : Nat} {L : aL} {S : List Value} {M : aM} : am_run (c_Model_letters s_Model_say) k_Model_letters J K (n + 1) 38 L S M = ai_aload 0 39 (am_run (c_Model_letters s_Model_say) k_Model_letters J K n) K 38 L S M := by rfl
set_option maxRecDepth 20000 in
theorem r_Model_letters_39 {s_Model_say : aS} {J : aJ} {K : aR} {n : Nat} {L : aL} {S : List Value} {M : aM} : am_run (c_Model_letters s_Model_say) k_Model_letters J K (n + 1) 39 L S M = ai_getf 7 8 42 (am_run (c_Model_letters s_Model_say) k_Model_letters J K n) K 39 L S M := by rfl
set_option maxRecDepth 20000 in
theorem r_Model_letters_42 {s_Model_say : aS} {J : aJ} {K : aR} {n : Nat} {L : aL} {S : List Value} {M : aM} : am_run (c_Model_letters s_Model_say) k_Model_letters J K (n + 1) 42 L S M = ai_const 20 44 (am_run (c_Model_letters s_Model_say) k_Model_letters J K n) K 42 L S M := by rfl
set_option maxRecDepth 20000 in
theorem r_Model_letters_44 {s_Model_say : aS} {J : aJ} {K : aR} {n : Nat} {L : aL} {S : List Value} {M : aM} : am_run (c_Model_letters s_Model_say) k_Model_letters J K (n + 1) 44 L S M = ai_iload 1 45 (am_run (c_Model_letters s_Model_say) k_Model_letters J K n) K 44 L S M := by rfl
set_option maxRecDepth 20000 in
theorem r_Model_letters_45 {s_Model_say : aS} {J : aJ} {K : aR} {n : Nat} {L : aL} {S : List Value} {M : aM} : am_run (c_Model_letters s_Model_say) k_Model_letters J K (n + 1) 45 L S M = ai_imul 46 (am_run (c_Model_letters s_Model_say) k_Model_letters J K n) K 45 L S M := by rfl
set_option maxRecDepth 20000 in
theorem r_Model_letters_46 {s_Model_say : aS} {J : aJ} {K : aR} {n : Nat} {L : aL} {S : List Value} {M : aM} : am_run (c_Model_letters s_Model_say) k_Model_letters J K (n + 1) 46 L S M = ai_iload 3 47 (am_run (c_Model_letters s_Model_say) k_Model_letters J K n) K 46 L S M := by rfl
set_option maxRecDepth 20000 in
theorem r_Model_letters_47 {s_Model_say : aS} {J : aJ} {K : aR} {n : Nat} {L : aL} {S : List Value} {M : aM} : am_run (c_Model_letters s_Model_say) k_Model_letters J K (n + 1) 47 L S M = ai_iadd 48 (am_run (c_Model_letters s_Model_say) k_Model_letters J K n) K 47 L S M := by rfl
set_option maxRecDepth 20000 in
theorem r_Model_letters_48 {s_Model_say : aS} {J : aJ} {K : aR} {n : Nat} {L : aL} {S : List Value} {M : aM} : am_run (c_Model_letters s_Model_say) k_Model_letters J K (n + 1) 48 L S M = ai_iald 49 (am_run (c_Model_letters s_Model_say) k_Model_letters J K n) K 48 L S M := by rfl
set_option maxRecDepth 20000 in
theorem r_Model_letters_49 {s_Model_say : aS} {J : aJ} {K : aR} {n : Nat} {L : aL} {S : List Value} {M : aM} : am_run (c_Model_letters s_Model_say) k_Model_letters J K (n + 1) 49 L S M = ai_istore 4 51 (am_run (c_Model_letters s_Model_say) k_Model_letters J K n) K 49 L S M := by rfl
set_option maxRecDepth 20000 in
theorem r_Model_letters_51 {s_Model_say : aS} {J : aJ} {K : aR} {n : Nat} {L : aL} {S : List Value} {M : aM} : am_run (c_Model_letters s_Model_say) k_Model_letters J K (n + 1) 51 L S M = ai_iload 2 52 (am_run (c_Model_letters s_Model_say) k_Model_letters J K n) K 51 L S M := by rfl
set_option maxRecDepth 20000 in
theorem r_Model_letters_52 {s_Model_say : aS} {J : aJ} {K : aR} {n : Nat} {L : aL} {S : List Value} {M : aM} : am_run (c_Model_letters s_Model_say) k_Model_letters J K (n + 1) 52 L S M = ai_ifeq 75 55 (am_run (c_Model_letters s_Model_say) k_Model_letters J K n) K 52 L S M := by rfl
set_option maxRecDepth 20000 in
theorem r_Model_letters_55 {s_Model_say : aS} {J : aJ} {K : aR} {n : Nat} {L : aL} {S : List Value} {M : aM} : am_run (c_Model_letters s_Model_say) k_Model_letters J K (n + 1) 55 L S M = ai_iload 4 57 (am_run (c_Model_letters s_Model_say) k_Model_letters J K n) K 55 L S M := by rfl
set_option maxRecDepth 20000 in
theorem r_Model_letters_57 {s_Model_say : aS} {J : aJ} {K : aR} {n : Nat} {L : aL} {S : List Value} {M : aM} : am_run (c_Model_letters s_Model_say) k_Model_letters J K (n + 1) 57 L S M = ai_const 34 59 (am_run (c_Model_letters s_Model_say) k_Model_letters J K n) K 57 L S M := by rfl
set_option maxRecDepth 20000 in
theorem r_Model_letters_59 {s_Model_say : aS} {J : aJ} {K : aR} {n : Nat} {L : aL} {S : List Value} {M : aM} : am_run (c_Model_letters s_Model_say) k_Model_letters J K (n + 1) 59 L S M = ai_cmpeq 69 62 (am_run (c_Model_letters s_Model_say) k_Model_letters J K n) K 59 L S M := by rfl
set_option maxRecDepth 20000 in
theorem r_Model_letters_62 {s_Model_say : aS} {J : aJ} {K : aR} {n : Nat} {L : aL} {S : List Value} {M : aM} : am_run (c_Model_letters s_Model_say) k_Model_letters J K (n + 1) 62 L S M = ai_iload 4 64 (am_run (c_Model_letters s_Model_say) k_Model_letters J K n) K 62 L S M := by rfl
set_option maxRecDepth 20000 in
theorem r_Model_letters_64 {s_Model_say : aS} {J : aJ} {K : aR} {n : Nat} {L : aL} {S : List Value} {M : aM} : am_run (c_Model_letters s_Model_say) k_Model_letters J K (n + 1) 64 L S M = ai_const 92 66 (am_run (c_Model_letters s_Model_say) k_Model_letters J K n) K 64 L S M := by rfl
set_option maxRecDepth 20000 in
theorem r_Model_letters_66 {s_Model_say : aS} {J : aJ} {K : aR} {n : Nat} {L : aL} {S : List Value} {M : aM} : am_run (c_Model_letters s_Model_say) k_Model_letters J K (n + 1) 66 L S M = ai_cmpne 75 69 (am_run (c_Model_letters s_Model_say) k_Model_letters J K n) K 66 L S M := by rfl
set_option maxRecDepth 20000 in
theorem r_Model_letters_69 {s_Model_say : aS} {J : aJ} {K : aR} {n : Nat} {L : aL} {S : List Value} {M : aM} : am_run (c_Model_letters s_Model_say) k_Model_letters J K (n + 1) 69 L S M = ai_aload 0 70 (am_run (c_Model_letters s_Model_say) k_Model_letters J K n) K 69 L S M := by rfl
set_option maxRecDepth 20000 in
theorem r_Model_letters_70 {s_Model_say : aS} {J : aJ} {K : aR} {n : Nat} {L : aL} {S : List Value} {M : aM} : am_run (c_Model_letters s_Model_say) k_Model_letters J K (n + 1) 70 L S M = ai_const 92 72 (am_run (c_Model_letters s_Model_say) k_Model_letters J K n) K 70 L S M := by rfl
set_option maxRecDepth 20000 in
theorem r_Model_letters_72 {s_Model_say : aS} {J : aJ} {K : aR} {n : Nat} {L : aL} {S : List Value} {M : aM} : am_run (c_Model_letters s_Model_say) k_Model_letters J K (n + 1) 72 L S M = ai_callv2 7 s_Model_say 75 (am_run (c_Model_letters s_Model_say) k_Model_letters J K n) K 72 L S M := by rfl
set_option maxRecDepth 20000 in
theorem r_Model_letters_75 {s_Model_say : aS} {J : aJ} {K : aR} {n : Nat} {L : aL} {S : List Value} {M : aM} : am_run (c_Model_letters s_Model_say) k_Model_letters J K (n + 1) 75 L S M = ai_aload 0 76 (am_run (c_Model_letters s_Model_say) k_Model_letters J K n) K 75 L S M := by rfl
set_option maxRecDepth 20000 in
theorem r_Model_letters_76 {s_Model_say : aS} {J : aJ} {K : aR} {n : Nat} {L : aL} {S : List Value} {M : aM} : am_run (c_Model_letters s_Model_say) k_Model_letters J K (n + 1) 76 L S M = ai_iload 4 78 (am_run (c_Model_letters s_Model_say) k_Model_letters J K n) K 76 L S M := by rfl
set_option maxRecDepth 20000 in
theorem r_Model_letters_78 {s_Model_say : aS} {J : aJ} {K : aR} {n : Nat} {L : aL} {S : List Value} {M : aM} : am_run (c_Model_letters s_Model_say) k_Model_letters J K (n + 1) 78 L S M = ai_callv2 7 s_Model_say 81 (am_run (c_Model_letters s_Model_say) k_Model_letters J K n) K 78 L S M := by rfl
set_option maxRecDepth 20000 in
theorem r_Model_letters_81 {s_Model_say : aS} {J : aJ} {K : aR} {n : Nat} {L : aL} {S : List Value} {M : aM} : am_run (c_Model_letters s_Model_say) k_Model_letters J K (n + 1) 81 L S M = ai_iinc 3 1 84 (am_run (c_Model_letters s_Model_say) k_Model_letters J K n) K 81 L S M := by rfl
set_option maxRecDepth 20000 in
theorem r_Model_letters_84 {s_Model_say : aS} {J : aJ} {K : aR} {n : Nat} {L : aL} {S : List Value} {M : aM} : am_run (c_Model_letters s_Model_say) k_Model_letters J K (n + 1) 84 L S M = ai_goto 28 (am_run (c_Model_letters s_Model_say) k_Model_letters J K n) K 84 L S M := by rfl
set_option maxRecDepth 20000 in
theorem r_Model_letters_87 {s_Model_say : aS} {J : aJ} {K : aR} {n : Nat} {L : aL} {S : List Value} {M : aM} : am_run (c_Model_letters s_Model_say) k_Model_letters J K (n + 1) 87 L S M = ai_iload 2 88 (am_run (c_Model_letters s_Model_say) k_Model_letters J K n) K 87 L S M := by rfl
set_option maxRecDepth 20000 in
theorem r_Model_letters_88 {s_Model_say : aS} {J : aJ} {K : aR} {n : Nat} {L : aL} {S : List Value} {M : aM} : am_run (c_Model_letters s_Model_say) k_Model_letters J K (n + 1) 88 L S M = ai_ifeq 97 91 (am_run (c_Model_letters s_Model_say) k_Model_letters J K n) K 88 L S M := by rfl
set_option maxRecDepth 20000 in
theorem r_Model_letters_91 {s_Model_say : aS} {J : aJ} {K : aR} {n : Nat} {L : aL} {S : List Value} {M : aM} : am_run (c_Model_letters s_Model_say) k_Model_letters J K (n + 1) 91 L S M = ai_aload 0 92 (am_run (c_Model_letters s_Model_say) k_Model_letters J K n) K 91 L S M := by rfl
set_option maxRecDepth 20000 in
theorem r_Model_letters_92 {s_Model_say : aS} {J : aJ} {K : aR} {n : Nat} {L : aL} {S : List Value} {M : aM} : am_run (c_Model_letters s_Model_say) k_Model_letters J K (n + 1) 92 L S M = ai_const 34 94 (am_run (c_Model_letters s_Model_say) k_Model_letters J K n) K 92 L S M := by rfl
set_option maxRecDepth 20000 in
theorem r_Model_letters_94 {s_Model_say : aS} {J : aJ} {K : aR} {n : Nat} {L : aL} {S : List Value} {M : aM} : am_run (c_Model_letters s_Model_say) k_Model_letters J K (n + 1) 94 L S M = ai_callv2 7 s_Model_say 97 (am_run (c_Model_letters s_Model_say) k_Model_letters J K n) K 94 L S M := by rfl
set_option maxRecDepth 20000 in
theorem r_Model_letters_97 {s_Model_say : aS} {J : aJ} {K : aR} {n : Nat} {L : aL} {S : List Value} {M : aM} : am_run (c_Model_letters s_Model_say) k_Model_letters J K (n + 1) 97 L S M = ai_vret (am_run (c_Model_letters s_Model_say) k_Model_letters J K n) K 97 L S M := by rfl
def c_Model_isQuote (s_Str_charAt : aS) : List (Nat × aI) := [
  (0, ai_aload 0 1),
  (1, ai_getf 7 9 4),
  (4, ai_iload 1 5),
  (5, ai_iald 6),
  (6, ai_istore 2 7),
  (7, ai_aload 0 8),
  (8, ai_getf 7 6 11),
  (11, ai_iload 2 12),
  (12, ai_iald 13),
  (13, ai_const 2 14),
  (14, ai_cmpne 66 17),
  (17, ai_aload 0 18),
  (18, ai_getf 7 7 21),
  (21, ai_iload 2 22),
  (22, ai_iald 23),
  (23, ai_const 5 24),
  (24, ai_cmpne 66 27),
  (27, ai_aload 0 28),
  (28, ai_getf 7 6 31),
  (31, ai_aload 0 32),
  (32, ai_getf 7 10 35),
  (35, ai_iload 1 36),
  (36, ai_iald 37),
  (37, ai_iald 38),
  (38, ai_const 4 39),
  (39, ai_cmpne 66 42),
  (42, ai_aload 0 43),
  (43, ai_getf 7 6 46),
  (46, ai_aload 0 47),
  (47, ai_getf 7 10 50),
  (50, ai_aload 0 51),
  (51, ai_getf 7 10 54),
  (54, ai_iload 1 55),
  (55, ai_iald 56),
  (56, ai_iald 57),
  (57, ai_iald 58),
  (58, ai_const 5 59),
  (59, ai_cmpne 66 62),
  (62, ai_const 1 63),
  (63, ai_goto 67),
  (66, ai_const 0 67),
  (67, ai_istore 3 68),
  (68, ai_const 0 69),
  (69, ai_istore 4 71),
  (71, ai_iload 4 73),
  (73, ai_const 5 74),
  (74, ai_cmpge 115 77),
  (77, ai_iload 3 78),
  (78, ai_ifeq 115 81),
  (81, ai_aload 0 82),
  (82, ai_getf 7 8 85),
  (85, ai_const 20 87),
  (87, ai_iload 2 88),
  (88, ai_imul 89),
  (89, ai_iload 4 91),
  (91, ai_iadd 92),
  (92, ai_iald 93),
  (93, ai_gets (.ref 1002) 95),
  (95, ai_iload 4 97),
  (97, ai_callx2 s_Str_charAt 100),
  (100, ai_cmpne 107 103),
  (103, ai_const 1 104),
  (104, ai_goto 108),
  (107, ai_const 0 108),
  (108, ai_istore 3 109),
  (109, ai_iinc 4 1 112),
  (112, ai_goto 71),
  (115, ai_iload 3 116),
  (116, ai_zret)]
set_option maxRecDepth 100000 in
set_option maxHeartbeats 4000000 in
theorem tb_Model_isQuote {G : aG} {d : Nat} {s_Str_charAt : aS} {d_Str_charAt : Nat} (h_Str_charAt : am_Sp G Y_Str_charAt d_Str_charAt s_Str_charAt) (l_Str_charAt : d_Str_charAt < d) : am_tab G Y_Model_isQuote d (c_Model_isQuote s_Str_charAt) := by
  intro K p e s m args below meth c C
  exact ⟨as_aload_n C (pc := 0) (q := 0) (by decide +kernel) rfl rfl,
    as_getf C (pc := 1) (T := T_Model) (N := 21) rfl in_Model (by decide) rfl w_526 (by decide +kernel) rfl,
    as_iload_n C (pc := 4) (q := 1) (by decide +kernel) rfl rfl,
    as_iald C (pc := 5) (by decide +kernel) rfl,
    as_istore_n C (pc := 6) (q := 2) (by decide +kernel) rfl (by decide) rfl,
    as_aload_n C (pc := 7) (q := 0) (by decide +kernel) rfl rfl,
    as_getf C (pc := 8) (T := T_Model) (N := 21) rfl in_Model (by decide) rfl w_523 (by decide +kernel) rfl,
    as_iload_n C (pc := 11) (q := 2) (by decide +kernel) rfl rfl,
    as_iald C (pc := 12) (by decide +kernel) rfl,
    as_iconst C (pc := 13) (n := 2) (by decide +kernel) (by decide +kernel) rfl,
    as_cmpne C (pc := 14) (off := 52) (by decide +kernel) (by decide) rfl,
    as_aload_n C (pc := 17) (q := 0) (by decide +kernel) rfl rfl,
    as_getf C (pc := 18) (T := T_Model) (N := 21) rfl in_Model (by decide) rfl w_524 (by decide +kernel) rfl,
    as_iload_n C (pc := 21) (q := 2) (by decide +kernel) rfl rfl,
    as_iald C (pc := 22) (by decide +kernel) rfl,
    as_iconst C (pc := 23) (n := 5) (by decide +kernel) (by decide +kernel) rfl,
    as_cmpne C (pc := 24) (off := 42) (by decide +kernel) (by decide) rfl,
    as_aload_n C (pc := 27) (q := 0) (by decide +kernel) rfl rfl,
    as_getf C (pc := 28) (T := T_Model) (N := 21) rfl in_Model (by decide) rfl w_523 (by decide +kernel) rfl,
    as_aload_n C (pc := 31) (q := 0) (by decide +kernel) rfl rfl,
    as_getf C (pc := 32) (T := T_Model) (N := 21) rfl in_Model (by decide) rfl w_527 (by decide +kernel) rfl,
    as_iload_n C (pc := 35) (q := 1) (by decide +kernel) rfl rfl,
    as_iald C (pc := 36) (by decide +kernel) rfl,
    as_iald C (pc := 37) (by decide +kernel) rfl,
    as_iconst C (pc := 38) (n := 4) (by decide +kernel) (by decide +kernel) rfl,
    as_cmpne C (pc := 39) (off := 27) (by decide +kernel) (by decide) rfl,
    as_aload_n C (pc := 42) (q := 0) (by decide +kernel) rfl rfl,
    as_getf C (pc := 43) (T := T_Model) (N := 21) rfl in_Model (by decide) rfl w_523 (by decide +kernel) rfl,
    as_aload_n C (pc := 46) (q := 0) (by decide +kernel) rfl rfl,
    as_getf C (pc := 47) (T := T_Model) (N := 21) rfl in_Model (by decide) rfl w_527 (by decide +kernel) rfl,
    as_aload_n C (pc := 50) (q := 0) (by decide +kernel) rfl rfl,
    as_getf C (pc := 51) (T := T_Model) (N := 21) rfl in_Model (by decide) rfl w_527 (by decide +kernel) rfl,
    as_iload_n C (pc := 54) (q := 1) (by decide +kernel) rfl rfl,
    as_iald C (pc := 55) (by decide +kernel) rfl,
    as_iald C (pc := 56) (by decide +kernel) rfl,
    as_iald C (pc := 57) (by decide +kernel) rfl,
    as_iconst C (pc := 58) (n := 5) (by decide +kernel) (by decide +kernel) rfl,
    as_cmpne C (pc := 59) (off := 7) (by decide +kernel) (by decide) rfl,
    as_iconst C (pc := 62) (n := 1) (by decide +kernel) (by decide +kernel) rfl,
    as_goto C (pc := 63) (off := 4) (by decide +kernel) (by decide),
    as_iconst C (pc := 66) (n := 0) (by decide +kernel) (by decide +kernel) rfl,
    as_istore_n C (pc := 67) (q := 3) (by decide +kernel) rfl (by decide) rfl,
    as_iconst C (pc := 68) (n := 0) (by decide +kernel) (by decide +kernel) rfl,
    as_istore C (pc := 69) (k := 4) (by decide +kernel) (by decide) rfl,
    as_iload C (pc := 71) (k := 4) (by decide +kernel) rfl,
    as_iconst C (pc := 73) (n := 5) (by decide +kernel) (by decide +kernel) rfl,
    as_cmpge C (pc := 74) (off := 41) (by decide +kernel) (by decide) rfl,
    as_iload_n C (pc := 77) (q := 3) (by decide +kernel) rfl rfl,
    as_ifeq C (pc := 78) (off := 37) (by decide +kernel) (by decide) rfl,
    as_aload_n C (pc := 81) (q := 0) (by decide +kernel) rfl rfl,
    as_getf C (pc := 82) (T := T_Model) (N := 21) rfl in_Model (by decide) rfl w_525 (by decide +kernel) rfl,
    as_bipush C (pc := 85) (n := 20) (by decide +kernel) (by decide +kernel) rfl,
    as_iload_n C (pc := 87) (q := 2) (by decide +kernel) rfl rfl,
    as_imul C (pc := 88) (by decide +kernel) rfl,
    as_iload C (pc := 89) (k := 4) (by decide +kernel) rfl,
    as_iadd C (pc := 91) (by decide +kernel) rfl,
    as_iald C (pc := 92) (by decide +kernel) rfl,
    as_ldcs C (pc := 93) rfl (by decide +kernel) rfl,
    as_iload C (pc := 95) (k := 4) (by decide +kernel) rfl,
    as_callx2 C (pc := 97) h_Str_charAt w_634 w_79 w_632 w_633 w_631 hy_Str_charAt (am_rm_of l_Str_charAt (by decide)) (by decide +kernel) rfl,
    as_cmpne C (pc := 100) (off := 7) (by decide +kernel) (by decide) rfl,
    as_iconst C (pc := 103) (n := 1) (by decide +kernel) (by decide +kernel) rfl,
    as_goto C (pc := 104) (off := 4) (by decide +kernel) (by decide),
    as_iconst C (pc := 107) (n := 0) (by decide +kernel) (by decide +kernel) rfl,
    as_istore_n C (pc := 108) (q := 3) (by decide +kernel) rfl (by decide) rfl,
    as_iinc C (pc := 109) (k := 4) (n := 1) (by decide +kernel) (by decide +kernel) (by decide) rfl,
    as_goto C (pc := 112) (off := (-41)) (by decide +kernel) (by decide),
    as_iload_n C (pc := 115) (q := 3) (by decide +kernel) rfl rfl,
    as_zret C (pc := 116) rfl (by decide +kernel), trivial⟩
abbrev k_Model_isQuote : List Nat := [71]
set_option maxRecDepth 20000 in
theorem q_Model_isQuote_71 {s_Str_charAt : aS} : am_at (c_Model_isQuote s_Str_charAt) 71 = ai_iload 4 73 := by rfl
set_option maxRecDepth 20000 in
theorem r_Model_isQuote_0 {s_Str_charAt : aS} {J : aJ} {K : aR} {n : Nat} {L : aL} {S : List Value} {M : aM} : am_run (c_Model_isQuote s_Str_charAt) k_Model_isQuote J K (n + 1) 0 L S M = ai_aload 0 1 (am_run (c_Model_isQuote s_Str_charAt) k_Model_isQuote J K n) K 0 L S M := by rfl
set_option maxRecDepth 20000 in
theorem r_Model_isQuote_1 {s_Str_charAt : aS} {J : aJ} {K : aR} {n : Nat} {L : aL} {S : List Value} {M : aM} : am_run (c_Model_isQuote s_Str_charAt) k_Model_isQuote J K (n + 1) 1 L S M = ai_getf 7 9 4 (am_run (c_Model_isQuote s_Str_charAt) k_Model_isQuote J K n) K 1 L S M := by rfl
set_option maxRecDepth 20000 in
theorem r_Model_isQuote_4 {s_Str_charAt : aS} {J : aJ} {K : aR} {n : Nat} {L : aL} {S : List Value} {M : aM} : am_run (c_Model_isQuote s_Str_charAt) k_Model_isQuote J K (n + 1) 4 L S M = ai_iload 1 5 (am_run (c_Model_isQuote s_Str_charAt) k_Model_isQuote J K n) K 4 L S M := by rfl
set_option maxRecDepth 20000 in
theorem r_Model_isQuote_5 {s_Str_charAt : aS} {J : aJ} {K : aR} {n : Nat} {L : aL} {S : List Value} {M : aM} : am_run (c_Model_isQuote s_Str_charAt) k_Model_isQuote J K (n + 1) 5 L S M = ai_iald 6 (am_run (c_Model_isQuote s_Str_charAt) k_Model_isQuote J K n) K 5 L S M := by rfl
set_option maxRecDepth 20000 in
theorem r_Model_isQuote_6 {s_Str_charAt : aS} {J : aJ} {K : aR} {n : Nat} {L : aL} {S : List Value} {M : aM} : am_run (c_Model_isQuote s_Str_charAt) k_Model_isQuote J K (n + 1) 6 L S M = ai_istore 2 7 (am_run (c_Model_isQuote s_Str_charAt) k_Model_isQuote J K n) K 6 L S M := by rfl
set_option maxRecDepth 20000 in
theorem r_Model_isQuote_7 {s_Str_charAt : aS} {J : aJ} {K : aR} {n : Nat} {L : aL} {S : List Value} {M : aM} : am_run (c_Model_isQuote s_Str_charAt) k_Model_isQuote J K (n + 1) 7 L S M = ai_aload 0 8 (am_run (c_Model_isQuote s_Str_charAt) k_Model_isQuote J K n) K 7 L S M := by rfl
set_option maxRecDepth 20000 in
theorem r_Model_isQuote_8 {s_Str_charAt : aS} {J : aJ} {K : aR} {n : Nat} {L : aL} {S : List Value} {M : aM} : am_run (c_Model_isQuote s_Str_charAt) k_Model_isQuote J K (n + 1) 8 L S M = ai_getf 7 6 11 (am_run (c_Model_isQuote s_Str_charAt) k_Model_isQuote J K n) K 8 L S M := by rfl
set_option maxRecDepth 20000 in
theorem r_Model_isQuote_11 {s_Str_charAt : aS} {J : aJ} {K : aR} {n : Nat} {L : aL} {S : List Value} {M : aM} : am_run (c_Model_isQuote s_Str_charAt) k_Model_isQuote J K (n + 1) 11 L S M = ai_iload 2 12 (am_run (c_Model_isQuote s_Str_charAt) k_Model_isQuote J K n) K 11 L S M := by rfl
set_option maxRecDepth 20000 in
theorem r_Model_isQuote_12 {s_Str_charAt : aS} {J : aJ} {K : aR} {n : Nat} {L : aL} {S : List Value} {M : aM} : am_run (c_Model_isQuote s_Str_charAt) k_Model_isQuote J K (n + 1) 12 L S M = ai_iald 13 (am_run (c_Model_isQuote s_Str_charAt) k_Model_isQuote J K n) K 12 L S M := by rfl
set_option maxRecDepth 20000 in
theorem r_Model_isQuote_13 {s_Str_charAt : aS} {J : aJ} {K : aR} {n : Nat} {L : aL} {S : List Value} {M : aM} : am_run (c_Model_isQuote s_Str_charAt) k_Model_isQuote J K (n + 1) 13 L S M = ai_const 2 14 (am_run (c_Model_isQuote s_Str_charAt) k_Model_isQuote J K n) K 13 L S M := by rfl
set_option maxRecDepth 20000 in
theorem r_Model_isQuote_14 {s_Str_charAt : aS} {J : aJ} {K : aR} {n : Nat} {L : aL} {S : List Value} {M : aM} : am_run (c_Model_isQuote s_Str_charAt) k_Model_isQuote J K (n + 1) 14 L S M = ai_cmpne 66 17 (am_run (c_Model_isQuote s_Str_charAt) k_Model_isQuote J K n) K 14 L S M := by rfl
set_option maxRecDepth 20000 in
theorem r_Model_isQuote_17 {s_Str_charAt : aS} {J : aJ} {K : aR} {n : Nat} {L : aL} {S : List Value} {M : aM} : am_run (c_Model_isQuote s_Str_charAt) k_Model_isQuote J K (n + 1) 17 L S M = ai_aload 0 18 (am_run (c_Model_isQuote s_Str_charAt) k_Model_isQuote J K n) K 17 L S M := by rfl
set_option maxRecDepth 20000 in
theorem r_Model_isQuote_18 {s_Str_charAt : aS} {J : aJ} {K : aR} {n : Nat} {L : aL} {S : List Value} {M : aM} : am_run (c_Model_isQuote s_Str_charAt) k_Model_isQuote J K (n + 1) 18 L S M = ai_getf 7 7 21 (am_run (c_Model_isQuote s_Str_charAt) k_Model_isQuote J K n) K 18 L S M := by rfl
set_option maxRecDepth 20000 in
theorem r_Model_isQuote_21 {s_Str_charAt : aS} {J : aJ} {K : aR} {n : Nat} {L : aL} {S : List Value} {M : aM} : am_run (c_Model_isQuote s_Str_charAt) k_Model_isQuote J K (n + 1) 21 L S M = ai_iload 2 22 (am_run (c_Model_isQuote s_Str_charAt) k_Model_isQuote J K n) K 21 L S M := by rfl
set_option maxRecDepth 20000 in
theorem r_Model_isQuote_22 {s_Str_charAt : aS} {J : aJ} {K : aR} {n : Nat} {L : aL} {S : List Value} {M : aM} : am_run (c_Model_isQuote s_Str_charAt) k_Model_isQuote J K (n + 1) 22 L S M = ai_iald 23 (am_run (c_Model_isQuote s_Str_charAt) k_Model_isQuote J K n) K 22 L S M := by rfl
set_option maxRecDepth 20000 in
theorem r_Model_isQuote_23 {s_Str_charAt : aS} {J : aJ} {K : aR} {n : Nat} {L : aL} {S : List Value} {M : aM} : am_run (c_Model_isQuote s_Str_charAt) k_Model_isQuote J K (n + 1) 23 L S M = ai_const 5 24 (am_run (c_Model_isQuote s_Str_charAt) k_Model_isQuote J K n) K 23 L S M := by rfl
set_option maxRecDepth 20000 in
theorem r_Model_isQuote_24 {s_Str_charAt : aS} {J : aJ} {K : aR} {n : Nat} {L : aL} {S : List Value} {M : aM} : am_run (c_Model_isQuote s_Str_charAt) k_Model_isQuote J K (n + 1) 24 L S M = ai_cmpne 66 27 (am_run (c_Model_isQuote s_Str_charAt) k_Model_isQuote J K n) K 24 L S M := by rfl
set_option maxRecDepth 20000 in
theorem r_Model_isQuote_27 {s_Str_charAt : aS} {J : aJ} {K : aR} {n : Nat} {L : aL} {S : List Value} {M : aM} : am_run (c_Model_isQuote s_Str_charAt) k_Model_isQuote J K (n + 1) 27 L S M = ai_aload 0 28 (am_run (c_Model_isQuote s_Str_charAt) k_Model_isQuote J K n) K 27 L S M := by rfl
set_option maxRecDepth 20000 in
theorem r_Model_isQuote_28 {s_Str_charAt : aS} {J : aJ} {K : aR} {n : Nat} {L : aL} {S : List Value} {M : aM} : am_run (c_Model_isQuote s_Str_charAt) k_Model_isQuote J K (n + 1) 28 L S M = ai_getf 7 6 31 (am_run (c_Model_isQuote s_Str_charAt) k_Model_isQuote J K n) K 28 L S M := by rfl
set_option maxRecDepth 20000 in
theorem r_Model_isQuote_31 {s_Str_charAt : aS} {J : aJ} {K : aR} {n : Nat} {L : aL} {S : List Value} {M : aM} : am_run (c_Model_isQuote s_Str_charAt) k_Model_isQuote J K (n + 1) 31 L S M = ai_aload 0 32 (am_run (c_Model_isQuote s_Str_charAt) k_Model_isQuote J K n) K 31 L S M := by rfl
set_option maxRecDepth 20000 in
theorem r_Model_isQuote_32 {s_Str_charAt : aS} {J : aJ} {K : aR} {n : Nat} {L : aL} {S : List Value} {M : aM} : am_run (c_Model_isQuote s_Str_charAt) k_Model_isQuote J K (n + 1) 32 L S M = ai_getf 7 10 35 (am_run (c_Model_isQuote s_Str_charAt) k_Model_isQuote J K n) K 32 L S M := by rfl
set_option maxRecDepth 20000 in
theorem r_Model_isQuote_35 {s_Str_charAt : aS} {J : aJ} {K : aR} {n : Nat} {L : aL} {S : List Value} {M : aM} : am_run (c_Model_isQuote s_Str_charAt) k_Model_isQuote J K (n + 1) 35 L S M = ai_iload 1 36 (am_run (c_Model_isQuote s_Str_charAt) k_Model_isQuote J K n) K 35 L S M := by rfl
set_option maxRecDepth 20000 in
theorem r_Model_isQuote_36 {s_Str_charAt : aS} {J : aJ} {K : aR} {n : Nat} {L : aL} {S : List Value} {M : aM} : am_run (c_Model_isQuote s_Str_charAt) k_Model_isQuote J K (n + 1) 36 L S M = ai_iald 37 (am_run (c_Model_isQuote s_Str_charAt) k_Model_isQuote J K n) K 36 L S M := by rfl
set_option maxRecDepth 20000 in
theorem r_Model_isQuote_37 {s_Str_charAt : aS} {J : aJ} {K : aR} {n : Nat} {L : aL} {S : List Value} {M : aM} : am_run (c_Model_isQuote s_Str_charAt) k_Model_isQuote J K (n + 1) 37 L S M = ai_iald 38 (am_run (c_Model_isQuote s_Str_charAt) k_Model_isQuote J K n) K 37 L S M := by rfl
set_option maxRecDepth 20000 in
theorem r_Model_isQuote_38 {s_Str_charAt : aS} {J : aJ} {K : aR} {n : Nat} {L : aL} {S : List Value} {M : aM} : am_run (c_Model_isQuote s_Str_charAt) k_Model_isQuote J K (n + 1) 38 L S M = ai_const 4 39 (am_run (c_Model_isQuote s_Str_charAt) k_Model_isQuote J K n) K 38 L S M := by rfl
set_option maxRecDepth 20000 in
theorem r_Model_isQuote_39 {s_Str_charAt : aS} {J : aJ} {K : aR} {n : Nat} {L : aL} {S : List Value} {M : aM} : am_run (c_Model_isQuote s_Str_charAt) k_Model_isQuote J K (n + 1) 39 L S M = ai_cmpne 66 42 (am_run (c_Model_isQuote s_Str_charAt) k_Model_isQuote J K n) K 39 L S M := by rfl
set_option maxRecDepth 20000 in
theorem r_Model_isQuote_42 {s_Str_charAt : aS} {J : aJ} {K : aR} {n : Nat} {L : aL} {S : List Value} {M : aM} : am_run (c_Model_isQuote s_Str_charAt) k_Model_isQuote J K (n + 1) 42 L S M = ai_aload 0 43 (am_run (c_Model_isQuote s_Str_charAt) k_Model_isQuote J K n) K 42 L S M := by rfl
set_option maxRecDepth 20000 in
theorem r_Model_isQuote_43 {s_Str_charAt : aS} {J : aJ} {K : aR} {n : Nat} {L : aL} {S : List Value} {M : aM} : am_run (c_Model_isQuote s_Str_charAt) k_Model_isQuote J K (n + 1) 43 L S M = ai_getf 7 6 46 (am_run (c_Model_isQuote s_Str_charAt) k_Model_isQuote J K n) K 43 L S M := by rfl
set_option maxRecDepth 20000 in
theorem r_Model_isQuote_46 {s_Str_charAt : aS} {J : aJ} {K : aR} {n : Nat} {L : aL} {S : List Value} {M : aM} : am_run (c_Model_isQuote s_Str_charAt) k_Model_isQuote J K (n + 1) 46 L S M = ai_aload 0 47 (am_run (c_Model_isQuote s_Str_charAt) k_Model_isQuote J K n) K 46 L S M := by rfl
set_option maxRecDepth 20000 in
theorem r_Model_isQuote_47 {s_Str_charAt : aS} {J : aJ} {K : aR} {n : Nat} {L : aL} {S : List Value} {M : aM} : am_run (c_Model_isQuote s_Str_charAt) k_Model_isQuote J K (n + 1) 47 L S M = ai_getf 7 10 50 (am_run (c_Model_isQuote s_Str_charAt) k_Model_isQuote J K n) K 47 L S M := by rfl
set_option maxRecDepth 20000 in
theorem r_Model_isQuote_50 {s_Str_charAt : aS} {J : aJ} {K : aR} {n : Nat} {L : aL} {S : List Value} {M : aM} : am_run (c_Model_isQuote s_Str_charAt) k_Model_isQuote J K (n + 1) 50 L S M = ai_aload 0 51 (am_run (c_Model_isQuote s_Str_charAt) k_Model_isQuote J K n) K 50 L S M := by rfl
set_option maxRecDepth 20000 in
theorem r_Model_isQuote_51 {s_Str_charAt : aS} {J : aJ} {K : aR} {n : Nat} {L : aL} {S : List Value} {M : aM} : am_run (c_Model_isQuote s_Str_charAt) k_Model_isQuote J K (n + 1) 51 L S M = ai_getf 7 10 54 (am_run (c_Model_isQuote s_Str_charAt) k_Model_isQuote J K n) K 51 L S M := by rfl
set_option maxRecDepth 20000 in
theorem r_Model_isQuote_54 {s_Str_charAt : aS} {J : aJ} {K : aR} {n : Nat} {L : aL} {S : List Value} {M : aM} : am_run (c_Model_isQuote s_Str_charAt) k_Model_isQuote J K (n + 1) 54 L S M = ai_iload 1 55 (am_run (c_Model_isQuote s_Str_charAt) k_Model_isQuote J K n) K 54 L S M := by rfl
set_option maxRecDepth 20000 in
theorem r_Model_isQuote_55 {s_Str_charAt : aS} {J : aJ} {K : aR} {n : Nat} {L : aL} {S : List Value} {M : aM} : am_run (c_Model_isQuote s_Str_charAt) k_Model_isQuote J K (n + 1) 55 L S M = ai_iald 56 (am_run (c_Model_isQuote s_Str_charAt) k_Model_isQuote J K n) K 55 L S M := by rfl
set_option maxRecDepth 20000 in
theorem r_Model_isQuote_56 {s_Str_charAt : aS} {J : aJ} {K : aR} {n : Nat} {L : aL} {S : List Value} {M : aM} : am_run (c_Model_isQuote s_Str_charAt) k_Model_isQuote J K (n + 1) 56 L S M = ai_iald 57 (am_run (c_Model_isQuote s_Str_charAt) k_Model_isQuote J K n) K 56 L S M := by rfl
set_option maxRecDepth 20000 in
theorem r_Model_isQuote_57 {s_Str_charAt : aS} {J : aJ} {K : aR} {n : Nat} {L : aL} {S : List Value} {M : aM} : am_run (c_Model_isQuote s_Str_charAt) k_Model_isQuote J K (n + 1) 57 L S M = ai_iald 58 (am_run (c_Model_isQuote s_Str_charAt) k_Model_isQuote J K n) K 57 L S M := by rfl
set_option maxRecDepth 20000 in
theorem r_Model_isQuote_58 {s_Str_charAt : aS} {J : aJ} {K : aR} {n : Nat} {L : aL} {S : List Value} {M : aM} : am_run (c_Model_isQuote s_Str_charAt) k_Model_isQuote J K (n + 1) 58 L S M = ai_const 5 59 (am_run (c_Model_isQuote s_Str_charAt) k_Model_isQuote J K n) K 58 L S M := by rfl
set_option maxRecDepth 20000 in
theorem r_Model_isQuote_59 {s_Str_charAt : aS} {J : aJ} {K : aR} {n : Nat} {L : aL} {S : List Value} {M : aM} : am_run (c_Model_isQuote s_Str_charAt) k_Model_isQuote J K (n + 1) 59 L S M = ai_cmpne 66 62 (am_run (c_Model_isQuote s_Str_charAt) k_Model_isQuote J K n) K 59 L S M := by rfl
set_option maxRecDepth 20000 in
theorem r_Model_isQuote_62 {s_Str_charAt : aS} {J : aJ} {K : aR} {n : Nat} {L : aL} {S : List Value} {M : aM} : am_run (c_Model_isQuote s_Str_charAt) k_Model_isQuote J K (n + 1) 62 L S M = ai_const 1 63 (am_run (c_Model_isQuote s_Str_charAt) k_Model_isQuote J K n) K 62 L S M := by rfl
set_option maxRecDepth 20000 in
theorem r_Model_isQuote_63 {s_Str_charAt : aS} {J : aJ} {K : aR} {n : Nat} {L : aL} {S : List Value} {M : aM} : am_run (c_Model_isQuote s_Str_charAt) k_Model_isQuote J K (n + 1) 63 L S M = ai_goto 67 (am_run (c_Model_isQuote s_Str_charAt) k_Model_isQuote J K n) K 63 L S M := by rfl
set_option maxRecDepth 20000 in
theorem r_Model_isQuote_66 {s_Str_charAt : aS} {J : aJ} {K : aR} {n : Nat} {L : aL} {S : List Value} {M : aM} : am_run (c_Model_isQuote s_Str_charAt) k_Model_isQuote J K (n + 1) 66 L S M = ai_const 0 67 (am_run (c_Model_isQuote s_Str_charAt) k_Model_isQuote J K n) K 66 L S M := by rfl
set_option maxRecDepth 20000 in
theorem r_Model_isQuote_67 {s_Str_charAt : aS} {J : aJ} {K : aR} {n : Nat} {L : aL} {S : List Value} {M : aM} : am_run (c_Model_isQuote s_Str_charAt) k_Model_isQuote J K (n + 1) 67 L S M = ai_istore 3 68 (am_run (c_Model_isQuote s_Str_charAt) k_Model_isQuote J K n) K 67 L S M := by rfl
set_option maxRecDepth 20000 in
theorem r_Model_isQuote_68 {s_Str_charAt : aS} {J : aJ} {K : aR} {n : Nat} {L : aL} {S : List Value} {M : aM} : am_run (c_Model_isQuote s_Str_charAt) k_Model_isQuote J K (n + 1) 68 L S M = ai_const 0 69 (am_run (c_Model_isQuote s_Str_charAt) k_Model_isQuote J K n) K 68 L S M := by rfl
set_option maxRecDepth 20000 in
theorem r_Model_isQuote_69 {s_Str_charAt : aS} {J : aJ} {K : aR} {n : Nat} {L : aL} {S : List Value} {M : aM} : am_run (c_Model_isQuote s_Str_charAt) k_Model_isQuote J K (n + 1) 69 L S M = ai_istore 4 71 (am_run (c_Model_isQuote s_Str_charAt) k_Model_isQuote J K n) K 69 L S M := by rfl
set_option maxRecDepth 20000 in
theorem r_Model_isQuote_71 {s_Str_charAt : aS} {J : aJ} {K : aR} {n : Nat} {L : aL} {S : List Value} {M : aM} : am_run (c_Model_isQuote s_Str_charAt) k_Model_isQuote J K (n + 1) 71 L S M = J 71 L S M := by rfl
set_option maxRecDepth 20000 in
theorem r_Model_isQuote_73 {s_Str_charAt : aS} {J : aJ} {K : aR} {n : Nat} {L : aL} {S : List Value} {M : aM} : am_run (c_Model_isQuote s_Str_charAt) k_Model_isQuote J K (n + 1) 73 L S M = ai_const 5 74 (am_run (c_Model_isQuote s_Str_charAt) k_Model_isQuote J K n) K 73 L S M := by rfl
set_option maxRecDepth 20000 in
theorem r_Model_isQuote_74 {s_Str_charAt : aS} {J : aJ} {K : aR} {n : Nat} {L : aL} {S : List Value} {M : aM} : am_run (c_Model_isQuote s_Str_charAt) k_Model_isQuote J K (n + 1) 74 L S M = ai_cmpge 115 77 (am_run (c_Model_isQuote s_Str_charAt) k_Model_isQuote J K n) K 74 L S M := by rfl
set_option maxRecDepth 20000 in
theorem r_Model_isQuote_77 {s_Str_charAt : aS} {J : aJ} {K : aR} {n : Nat} {L : aL} {S : List Value} {M : aM} : am_run (c_Model_isQuote s_Str_charAt) k_Model_isQuote J K (n + 1) 77 L S M = ai_iload 3 78 (am_run (c_Model_isQuote s_Str_charAt) k_Model_isQuote J K n) K 77 L S M := by rfl
set_option maxRecDepth 20000 in
theorem r_Model_isQuote_78 {s_Str_charAt : aS} {J : aJ} {K : aR} {n : Nat} {L : aL} {S : List Value} {M : aM} : am_run (c_Model_isQuote s_Str_charAt) k_Model_isQuote J K (n + 1) 78 L S M = ai_ifeq 115 81 (am_run (c_Model_isQuote s_Str_charAt) k_Model_isQuote J K n) K 78 L S M := by rfl
set_option maxRecDepth 20000 in
theorem r_Model_isQuote_81 {s_Str_charAt : aS} {J : aJ} {K : aR} {n : Nat} {L : aL} {S : List Value} {M : aM} : am_run (c_Model_isQuote s_Str_charAt) k_Model_isQuote J K (n + 1) 81 L S M = ai_aload 0 82 (am_run (c_Model_isQuote s_Str_charAt) k_Model_isQuote J K n) K 81 L S M := by rfl
set_option maxRecDepth 20000 in
theorem r_Model_isQuote_82 {s_Str_charAt : aS} {J : aJ} {K : aR} {n : Nat} {L : aL} {S : List Value} {M : aM} : am_run (c_Model_isQuote s_Str_charAt) k_Model_isQuote J K (n + 1) 82 L S M = ai_getf 7 8 85 (am_run (c_Model_isQuote s_Str_charAt) k_Model_isQuote J K n) K 82 L S M := by rfl
set_option maxRecDepth 20000 in
theorem r_Model_isQuote_85 {s_Str_charAt : aS} {J : aJ} {K : aR} {n : Nat} {L : aL} {S : List Value} {M : aM} : am_run (c_Model_isQuote s_Str_charAt) k_Model_isQuote J K (n + 1) 85 L S M = ai_const 20 87 (am_run (c_Model_isQuote s_Str_charAt) k_Model_isQuote J K n) K 85 L S M := by rfl
set_option maxRecDepth 20000 in
theorem r_Model_isQuote_87 {s_Str_charAt : aS} {J : aJ} {K : aR} {n : Nat} {L : aL} {S : List Value} {M : aM} : am_run (c_Model_isQuote s_Str_charAt) k_Model_isQuote J K (n + 1) 87 L S M = ai_iload 2 88 (am_run (c_Model_isQuote s_Str_charAt) k_Model_isQuote J K n) K 87 L S M := by rfl
set_option maxRecDepth 20000 in
theorem r_Model_isQuote_88 {s_Str_charAt : aS} {J : aJ} {K : aR} {n : Nat} {L : aL} {S : List Value} {M : aM} : am_run (c_Model_isQuote s_Str_charAt) k_Model_isQuote J K (n + 1) 88 L S M = ai_imul 89 (am_run (c_Model_isQuote s_Str_charAt) k_Model_isQuote J K n) K 88 L S M := by rfl
set_option maxRecDepth 20000 in
theorem r_Model_isQuote_89 {s_Str_charAt : aS} {J : aJ} {K : aR} {n : Nat} {L : aL} {S : List Value} {M : aM} : am_run (c_Model_isQuote s_Str_charAt) k_Model_isQuote J K (n + 1) 89 L S M = ai_iload 4 91 (am_run (c_Model_isQuote s_Str_charAt) k_Model_isQuote J K n) K 89 L S M := by rfl
set_option maxRecDepth 20000 in
theorem r_Model_isQuote_91 {s_Str_charAt : aS} {J : aJ} {K : aR} {n : Nat} {L : aL} {S : List Value} {M : aM} : am_run (c_Model_isQuote s_Str_charAt) k_Model_isQuote J K (n + 1) 91 L S M = ai_iadd 92 (am_run (c_Model_isQuote s_Str_charAt) k_Model_isQuote J K n) K 91 L S M := by rfl
set_option maxRecDepth 20000 in
theorem r_Model_isQuote_92 {s_Str_charAt : aS} {J : aJ} {K : aR} {n : Nat} {L : aL} {S : List Value} {M : aM} : am_run (c_Model_isQuote s_Str_charAt) k_Model_isQuote J K (n + 1) 92 L S M = ai_iald 93 (am_run (c_Model_isQuote s_Str_charAt) k_Model_isQuote J K n) K 92 L S M := by rfl
set_option maxRecDepth 20000 in
theorem r_Model_isQuote_93 {s_Str_charAt : aS} {J : aJ} {K : aR} {n : Nat} {L : aL} {S : List Value} {M : aM} : am_run (c_Model_isQuote s_Str_charAt) k_Model_isQuote J K (n + 1) 93 L S M = ai_gets (.ref 1002) 95 (am_run (c_Model_isQuote s_Str_charAt) k_Model_isQuote J K n) K 93 L S M := by rfl
set_option maxRecDepth 20000 in
theorem r_Model_isQuote_95 {s_Str_charAt : aS} {J : aJ} {K : aR} {n : Nat} {L : aL} {S : List Value} {M : aM} : am_run (c_Model_isQuote s_Str_charAt) k_Model_isQuote J K (n + 1) 95 L S M = ai_iload 4 97 (am_run (c_Model_isQuote s_Str_charAt) k_Model_isQuote J K n) K 95 L S M := by rfl
set_option maxRecDepth 20000 in
theorem r_Model_isQuote_97 {s_Str_charAt : aS} {J : aJ} {K : aR} {n : Nat} {L : aL} {S : List Value} {M : aM} : am_run (c_Model_isQuote s_Str_charAt) k_Model_isQuote J K (n + 1) 97 L S M = ai_callx2 s_Str_charAt 100 (am_run (c_Model_isQuote s_Str_charAt) k_Model_isQuote J K n) K 97 L S M := by rfl
set_option maxRecDepth 20000 in
theorem r_Model_isQuote_100 {s_Str_charAt : aS} {J : aJ} {K : aR} {n : Nat} {L : aL} {S : List Value} {M : aM} : am_run (c_Model_isQuote s_Str_charAt) k_Model_isQuote J K (n + 1) 100 L S M = ai_cmpne 107 103 (am_run (c_Model_isQuote s_Str_charAt) k_Model_isQuote J K n) K 100 L S M := by rfl
set_option maxRecDepth 20000 in
theorem r_Model_isQuote_103 {s_Str_charAt : aS} {J : aJ} {K : aR} {n : Nat} {L : aL} {S : List Value} {M : aM} : am_run (c_Model_isQuote s_Str_charAt) k_Model_isQuote J K (n + 1) 103 L S M = ai_const 1 104 (am_run (c_Model_isQuote s_Str_charAt) k_Model_isQuote J K n) K 103 L S M := by rfl
set_option maxRecDepth 20000 in
theorem r_Model_isQuote_104 {s_Str_charAt : aS} {J : aJ} {K : aR} {n : Nat} {L : aL} {S : List Value} {M : aM} : am_run (c_Model_isQuote s_Str_charAt) k_Model_isQuote J K (n + 1) 104 L S M = ai_goto 108 (am_run (c_Model_isQuote s_Str_charAt) k_Model_isQuote J K n) K 104 L S M := by rfl
set_option maxRecDepth 20000 in
theorem r_Model_isQuote_107 {s_Str_charAt : aS} {J : aJ} {K : aR} {n : Nat} {L : aL} {S : List Value} {M : aM} : am_run (c_Model_isQuote s_Str_charAt) k_Model_isQuote J K (n + 1) 107 L S M = ai_const 0 108 (am_run (c_Model_isQuote s_Str_charAt) k_Model_isQuote J K n) K 107 L S M := by rfl
set_option maxRecDepth 20000 in
theorem r_Model_isQuote_108 {s_Str_charAt : aS} {J : aJ} {K : aR} {n : Nat} {L : aL} {S : List Value} {M : aM} : am_run (c_Model_isQuote s_Str_charAt) k_Model_isQuote J K (n + 1) 108 L S M = ai_istore 3 109 (am_run (c_Model_isQuote s_Str_charAt) k_Model_isQuote J K n) K 108 L S M := by rfl
set_option maxRecDepth 20000 in
theorem r_Model_isQuote_109 {s_Str_charAt : aS} {J : aJ} {K : aR} {n : Nat} {L : aL} {S : List Value} {M : aM} : am_run (c_Model_isQuote s_Str_charAt) k_Model_isQuote J K (n + 1) 109 L S M = ai_iinc 4 1 112 (am_run (c_Model_isQuote s_Str_charAt) k_Model_isQuote J K n) K 109 L S M := by rfl
set_option maxRecDepth 20000 in
theorem r_Model_isQuote_112 {s_Str_charAt : aS} {J : aJ} {K : aR} {n : Nat} {L : aL} {S : List Value} {M : aM} : am_run (c_Model_isQuote s_Str_charAt) k_Model_isQuote J K (n + 1) 112 L S M = ai_goto 71 (am_run (c_Model_isQuote s_Str_charAt) k_Model_isQuote J K n) K 112 L S M := by rfl
set_option maxRecDepth 20000 in
theorem r_Model_isQuote_115 {s_Str_charAt : aS} {J : aJ} {K : aR} {n : Nat} {L : aL} {S : List Value} {M : aM} : am_run (c_Model_isQuote s_Str_charAt) k_Model_isQuote J K (n + 1) 115 L S M = ai_iload 3 116 (am_run (c_Model_isQuote s_Str_charAt) k_Model_isQuote J K n) K 115 L S M := by rfl
set_option maxRecDepth 20000 in
theorem r_Model_isQuote_116 {s_Str_charAt : aS} {J : aJ} {K : aR} {n : Nat} {L : aL} {S : List Value} {M : aM} : am_run (c_Model_isQuote s_Str_charAt) k_Model_isQuote J K (n + 1) 116 L S M = ai_zret (am_run (c_Model_isQuote s_Str_charAt) k_Model_isQuote J K n) K 116 L S M := by rfl
def c_Model_step (s_Model_say : aS) (s_Model_isQuote : aS) (s_Model_number : aS) (s_Model_letters : aS) : List (Nat × aI) := [
  (0, ai_iload 1 1),
  (1, ai_const 2000 4),
  (4, ai_cmpne 15 7),
  (7, ai_aload 0 8),
  (8, ai_const 41 10),
  (10, ai_callv2 7 s_Model_say 13),
  (13, ai_iload 2 14),
  (14, ai_iret),
  (15, ai_iload 1 16),
  (16, ai_const 1000 19),
  (19, ai_irem 20),
  (20, ai_istore 3 21),
  (21, ai_iload 1 22),
  (22, ai_const 1000 25),
  (25, ai_cmplt 32 28),
  (28, ai_const 1 29),
  (29, ai_goto 33),
  (32, ai_const 0 33),
  (33, ai_istore 4 35),
  (35, ai_iload 4 37),
  (37, ai_ifeq 59 40),
  (40, ai_aload 0 41),
  (41, ai_getf 7 6 44),
  (44, ai_iload 3 45),
  (45, ai_iald 46),
  (46, ai_const 5 47),
  (47, ai_cmpne 59 50),
  (50, ai_aload 0 51),
  (51, ai_const 41 53),
  (53, ai_callv2 7 s_Model_say 56),
  (56, ai_goto 267),
  (59, ai_iload 4 61),
  (61, ai_ifeq 114 64),
  (64, ai_aload 0 65),
  (65, ai_getf 7 6 68),
  (68, ai_iload 3 69),
  (69, ai_iald 70),
  (70, ai_const 4 71),
  (71, ai_cmpeq 114 74),
  (74, ai_aload 0 75),
  (75, ai_const 32 77),
  (77, ai_callv2 7 s_Model_say 80),
  (80, ai_aload 0 81),
  (81, ai_const 46 83),
  (83, ai_callv2 7 s_Model_say 86),
  (86, ai_aload 0 87),
  (87, ai_const 32 89),
  (89, ai_callv2 7 s_Model_say 92),
  (92, ai_aload 0 93),
  (93, ai_getf 7 19 96),
  (96, ai_iload 2 97),
  (97, ai_const 2000 100),
  (100, ai_iast 101),
  (101, ai_aload 0 102),
  (102, ai_getf 7 19 105),
  (105, ai_iload 2 106),
  (106, ai_const 1 107),
  (107, ai_iadd 108),
  (108, ai_iload 3 109),
  (109, ai_iast 110),
  (110, ai_iload 2 111),
  (111, ai_const 2 112),
  (112, ai_iadd 113),
  (113, ai_iret),
  (114, ai_aload 0 115),
  (115, ai_getf 7 6 118),
  (118, ai_iload 3 119),
  (119, ai_iald 120),
  (120, ai_const 4 121),
  (121, ai_cmpne 214 124),
  (124, ai_iload 4 126),
  (126, ai_ifne 164 129),
  (129, ai_aload 0 130),
  (130, ai_iload 3 131),
  (131, ai_callv2 7 s_Model_isQuote 134),
  (134, ai_ifeq 164 137),
  (137, ai_aload 0 138),
  (138, ai_const 39 140),
  (140, ai_callv2 7 s_Model_say 143),
  (143, ai_aload 0 144),
  (144, ai_getf 7 19 147),
  (147, ai_iload 2 148),
  (148, ai_aload 0 149),
  (149, ai_getf 7 9 152),
  (152, ai_aload 0 153),
  (153, ai_getf 7 10 156),
  (156, ai_iload 3 157),
  (157, ai_iald 158),
  (158, ai_iald 159),
  (159, ai_iast 160),
  (160, ai_iload 2 161),
  (161, ai_const 1 162),
  (162, ai_iadd 163),
  (163, ai_iret),
  (164, ai_aload 0 165),
  (165, ai_iload 4 167),
  (167, ai_ifeq 175 170),
  (170, ai_const 32 172),
  (172, ai_goto 177),
  (175, ai_const 40 177),
  (177, ai_callv2 7 s_Model_say 180),
  (180, ai_aload 0 181),
  (181, ai_getf 7 19 184),
  (184, ai_iload 2 185),
  (185, ai_const 1000 188),
  (188, ai_aload 0 189),
  (189, ai_getf 7 10 192),
  (192, ai_iload 3 193),
  (193, ai_iald 194),
  (194, ai_iadd 195),
  (195, ai_iast 196),
  (196, ai_aload 0 197),
  (197, ai_getf 7 19 200),
  (200, ai_iload 2 201),
  (201, ai_const 1 202),
  (202, ai_iadd 203),
  (203, ai_aload 0 204),
  (204, ai_getf 7 9 207),
  (207, ai_iload 3 208),
  (208, ai_iald 209),
  (209, ai_iast 210),
  (210, ai_iload 2 211),
  (211, ai_const 2 212),
  (212, ai_iadd 213),
  (213, ai_iret),
  (214, ai_aload 0 215),
  (215, ai_getf 7 6 218),
  (218, ai_iload 3 219),
  (219, ai_iald 220),
  (220, ai_const 5 221),
  (221, ai_cmpne 239 224),
  (224, ai_aload 0 225),
  (225, ai_const 40 227),
  (227, ai_callv2 7 s_Model_say 230),
  (230, ai_aload 0 231),
  (231, ai_const 41 233),
  (233, ai_callv2 7 s_Model_say 236),
  (236, ai_goto 267),
  (239, ai_aload 0 240),
  (240, ai_getf 7 6 243),
  (243, ai_iload 3 244),
  (244, ai_iald 245),
  (245, ai_const 1 246),
  (246, ai_cmpne 262 249),
  (249, ai_aload 0 250),
  (250, ai_aload 0 251),
  (251, ai_getf 7 7 254),
  (254, ai_iload 3 255),
  (255, ai_iald 256),
  (256, ai_callv2 7 s_Model_number 259),
  (259, ai_goto 267),
  (262, ai_aload 0 263),
  (263, ai_iload 3 264),
  (264, ai_callv2 7 s_Model_letters 267),
  (267, ai_iload 2 268),
  (268, ai_iret)]
set_option maxRecDepth 100000 in
set_option maxHeartbeats 4000000 in
theorem tb_Model_step {G : aG} {d : Nat} {s_Model_say : aS} {d_Model_say : Nat} (h_Model_say : am_Sp G Y_Model_say d_Model_say s_Model_say) (l_Model_say : d_Model_say < d) {s_Model_isQuote : aS} {d_Model_isQuote : Nat} (h_Model_isQuote : am_Sp G Y_Model_isQuote d_Model_isQuote s_Model_isQuote) (l_Model_isQuote : d_Model_isQuote < d) {s_Model_number : aS} {d_Model_number : Nat} (h_Model_number : am_Sp G Y_Model_number d_Model_number s_Model_number) (l_Model_number : d_Model_number < d) {s_Model_letters : aS} {d_Model_letters : Nat} (h_Model_letters : am_Sp G Y_Model_letters d_Model_letters s_Model_letters) (l_Model_letters : d_Model_letters < d) : am_tab G Y_Model_step d (c_Model_step s_Model_say s_Model_isQuote s_Model_number s_Model_letters) := by
  intro K p e s m args below meth c C
  exact ⟨as_iload_n C (pc := 0) (q := 1) (by decide +kernel) rfl rfl,
    as_sipush C (pc := 1) (n := 2000) (by decide +kernel) (by decide +kernel) rfl,
    as_cmpne C (pc := 4) (off := 11) (by decide +kernel) (by decide) rfl,
    as_aload_n C (pc := 7) (q := 0) (by decide +kernel) rfl rfl,
    as_bipush C (pc := 8) (n := 41) (by decide +kernel) (by decide +kernel) rfl,
    as_callv2 C (pc := 10) h_Model_say (T := T_Model) (N := 21) rfl w_735 w_78 w_734 w_65 w_732 hy_Model_say (am_rm_of l_Model_say (by decide)) (by decide +kernel) rfl,
    as_iload_n C (pc := 13) (q := 2) (by decide +kernel) rfl rfl,
    as_iret C (pc := 14) rfl (by decide +kernel),
    as_iload_n C (pc := 15) (q := 1) (by decide +kernel) rfl rfl,
    as_sipush C (pc := 16) (n := 1000) (by decide +kernel) (by decide +kernel) rfl,
    as_irem C (pc := 19) (by decide +kernel) rfl,
    as_istore_n C (pc := 20) (q := 3) (by decide +kernel) rfl (by decide) rfl,
    as_iload_n C (pc := 21) (q := 1) (by decide +kernel) rfl rfl,
    as_sipush C (pc := 22) (n := 1000) (by decide +kernel) (by decide +kernel) rfl,
    as_cmplt C (pc := 25) (off := 7) (by decide +kernel) (by decide) rfl,
    as_iconst C (pc := 28) (n := 1) (by decide +kernel) (by decide +kernel) rfl,
    as_goto C (pc := 29) (off := 4) (by decide +kernel) (by decide),
    as_iconst C (pc := 32) (n := 0) (by decide +kernel) (by decide +kernel) rfl,
    as_istore C (pc := 33) (k := 4) (by decide +kernel) (by decide) rfl,
    as_iload C (pc := 35) (k := 4) (by decide +kernel) rfl,
    as_ifeq C (pc := 37) (off := 22) (by decide +kernel) (by decide) rfl,
    as_aload_n C (pc := 40) (q := 0) (by decide +kernel) rfl rfl,
    as_getf C (pc := 41) (T := T_Model) (N := 21) rfl in_Model (by decide) rfl w_523 (by decide +kernel) rfl,
    as_iload_n C (pc := 44) (q := 3) (by decide +kernel) rfl rfl,
    as_iald C (pc := 45) (by decide +kernel) rfl,
    as_iconst C (pc := 46) (n := 5) (by decide +kernel) (by decide +kernel) rfl,
    as_cmpne C (pc := 47) (off := 12) (by decide +kernel) (by decide) rfl,
    as_aload_n C (pc := 50) (q := 0) (by decide +kernel) rfl rfl,
    as_bipush C (pc := 51) (n := 41) (by decide +kernel) (by decide +kernel) rfl,
    as_callv2 C (pc := 53) h_Model_say (T := T_Model) (N := 21) rfl w_735 w_78 w_734 w_65 w_732 hy_Model_say (am_rm_of l_Model_say (by decide)) (by decide +kernel) rfl,
    as_goto C (pc := 56) (off := 211) (by decide +kernel) (by decide),
    as_iload C (pc := 59) (k := 4) (by decide +kernel) rfl,
    as_ifeq C (pc := 61) (off := 53) (by decide +kernel) (by decide) rfl,
    as_aload_n C (pc := 64) (q := 0) (by decide +kernel) rfl rfl,
    as_getf C (pc := 65) (T := T_Model) (N := 21) rfl in_Model (by decide) rfl w_523 (by decide +kernel) rfl,
    as_iload_n C (pc := 68) (q := 3) (by decide +kernel) rfl rfl,
    as_iald C (pc := 69) (by decide +kernel) rfl,
    as_iconst C (pc := 70) (n := 4) (by decide +kernel) (by decide +kernel) rfl,
    as_cmpeq C (pc := 71) (off := 43) (by decide +kernel) (by decide) rfl,
    as_aload_n C (pc := 74) (q := 0) (by decide +kernel) rfl rfl,
    as_bipush C (pc := 75) (n := 32) (by decide +kernel) (by decide +kernel) rfl,
    as_callv2 C (pc := 77) h_Model_say (T := T_Model) (N := 21) rfl w_735 w_78 w_734 w_65 w_732 hy_Model_say (am_rm_of l_Model_say (by decide)) (by decide +kernel) rfl,
    as_aload_n C (pc := 80) (q := 0) (by decide +kernel) rfl rfl,
    as_bipush C (pc := 81) (n := 46) (by decide +kernel) (by decide +kernel) rfl,
    as_callv2 C (pc := 83) h_Model_say (T := T_Model) (N := 21) rfl w_735 w_78 w_734 w_65 w_732 hy_Model_say (am_rm_of l_Model_say (by decide)) (by decide +kernel) rfl,
    as_aload_n C (pc := 86) (q := 0) (by decide +kernel) rfl rfl,
    as_bipush C (pc := 87) (n := 32) (by decide +kernel) (by decide +kernel) rfl,
    as_callv2 C (pc := 89) h_Model_say (T := T_Model) (N := 21) rfl w_735 w_78 w_734 w_65 w_732 hy_Model_say (am_rm_of l_Model_say (by decide)) (by decide +kernel) rfl,
    as_aload_n C (pc := 92) (q := 0) (by decide +kernel) rfl rfl,
    as_getf C (pc := 93) (T := T_Model) (N := 21) rfl in_Model (by decide) rfl w_536 (by decide +kernel) rfl,
    as_iload_n C (pc := 96) (q := 2) (by decide +kernel) rfl rfl,
    as_sipush C (pc := 97) (n := 2000) (by decide +kernel) (by decide +kernel) rfl,
    as_iast C (pc := 100) (by decide +kernel) rfl,
    as_aload_n C (pc := 101) (q := 0) (by decide +kernel) rfl rfl,
    as_getf C (pc := 102) (T := T_Model) (N := 21) rfl in_Model (by decide) rfl w_536 (by decide +kernel) rfl,
    as_iload_n C (pc := 105) (q := 2) (by decide +kernel) rfl rfl,
    as_iconst C (pc := 106) (n := 1) (by decide +kernel) (by decide +kernel) rfl,
    as_iadd C (pc := 107) (by decide +kernel) rfl,
    as_iload_n C (pc := 108) (q := 3) (by decide +kernel) rfl rfl,
    as_iast C (pc := 109) (by decide +kernel) rfl,
    as_iload_n C (pc := 110) (q := 2) (by decide +kernel) rfl rfl,
    as_iconst C (pc := 111) (n := 2) (by decide +kernel) (by decide +kernel) rfl,
    as_iadd C (pc := 112) (by decide +kernel) rfl,
    as_iret C (pc := 113) rfl (by decide +kernel),
    as_aload_n C (pc := 114) (q := 0) (by decide +kernel) rfl rfl,
    as_getf C (pc := 115) (T := T_Model) (N := 21) rfl in_Model (by decide) rfl w_523 (by decide +kernel) rfl,
    as_iload_n C (pc := 118) (q := 3) (by decide +kernel) rfl rfl,
    as_iald C (pc := 119) (by decide +kernel) rfl,
    as_iconst C (pc := 120) (n := 4) (by decide +kernel) (by decide +kernel) rfl,
    as_cmpne C (pc := 121) (off := 93) (by decide +kernel) (by decide) rfl,
    as_iload C (pc := 124) (k := 4) (by decide +kernel) rfl,
    as_ifne C (pc := 126) (off := 38) (by decide +kernel) (by decide) rfl,
    as_aload_n C (pc := 129) (q := 0) (by decide +kernel) rfl rfl,
    as_iload_n C (pc := 130) (q := 3) (by decide +kernel) rfl rfl,
    as_callv2 C (pc := 131) h_Model_isQuote (T := T_Model) (N := 21) rfl w_739 w_78 w_738 w_66 w_736 hy_Model_isQuote (am_rm_of l_Model_isQuote (by decide)) (by decide +kernel) rfl,
    as_ifeq C (pc := 134) (off := 30) (by decide +kernel) (by decide) rfl,
    as_aload_n C (pc := 137) (q := 0) (by decide +kernel) rfl rfl,
    as_bipush C (pc := 138) (n := 39) (by decide +kernel) (by decide +kernel) rfl,
    as_callv2 C (pc := 140) h_Model_say (T := T_Model) (N := 21) rfl w_735 w_78 w_734 w_65 w_732 hy_Model_say (am_rm_of l_Model_say (by decide)) (by decide +kernel) rfl,
    as_aload_n C (pc := 143) (q := 0) (by decide +kernel) rfl rfl,
    as_getf C (pc := 144) (T := T_Model) (N := 21) rfl in_Model (by decide) rfl w_536 (by decide +kernel) rfl,
    as_iload_n C (pc := 147) (q := 2) (by decide +kernel) rfl rfl,
    as_aload_n C (pc := 148) (q := 0) (by decide +kernel) rfl rfl,
    as_getf C (pc := 149) (T := T_Model) (N := 21) rfl in_Model (by decide) rfl w_526 (by decide +kernel) rfl,
    as_aload_n C (pc := 152) (q := 0) (by decide +kernel) rfl rfl,
    as_getf C (pc := 153) (T := T_Model) (N := 21) rfl in_Model (by decide) rfl w_527 (by decide +kernel) rfl,
    as_iload_n C (pc := 156) (q := 3) (by decide +kernel) rfl rfl,
    as_iald C (pc := 157) (by decide +kernel) rfl,
    as_iald C (pc := 158) (by decide +kernel) rfl,
    as_iast C (pc := 159) (by decide +kernel) rfl,
    as_iload_n C (pc := 160) (q := 2) (by decide +kernel) rfl rfl,
    as_iconst C (pc := 161) (n := 1) (by decide +kernel) (by decide +kernel) rfl,
    as_iadd C (pc := 162) (by decide +kernel) rfl,
    as_iret C (pc := 163) rfl (by decide +kernel),
    as_aload_n C (pc := 164) (q := 0) (by decide +kernel) rfl rfl,
    as_iload C (pc := 165) (k := 4) (by decide +kernel) rfl,
    as_ifeq C (pc := 167) (off := 8) (by decide +kernel) (by decide) rfl,
    as_bipush C (pc := 170) (n := 32) (by decide +kernel) (by decide +kernel) rfl,
    as_goto C (pc := 172) (off := 5) (by decide +kernel) (by decide),
    as_bipush C (pc := 175) (n := 40) (by decide +kernel) (by decide +kernel) rfl,
    as_callv2 C (pc := 177) h_Model_say (T := T_Model) (N := 21) rfl w_735 w_78 w_734 w_65 w_732 hy_Model_say (am_rm_of l_Model_say (by decide)) (by decide +kernel) rfl,
    as_aload_n C (pc := 180) (q := 0) (by decide +kernel) rfl rfl,
    as_getf C (pc := 181) (T := T_Model) (N := 21) rfl in_Model (by decide) rfl w_536 (by decide +kernel) rfl,
    as_iload_n C (pc := 184) (q := 2) (by decide +kernel) rfl rfl,
    as_sipush C (pc := 185) (n := 1000) (by decide +kernel) (by decide +kernel) rfl,
    as_aload_n C (pc := 188) (q := 0) (by decide +kernel) rfl rfl,
    as_getf C (pc := 189) (T := T_Model) (N := 21) rfl in_Model (by decide) rfl w_527 (by decide +kernel) rfl,
    as_iload_n C (pc := 192) (q := 3) (by decide +kernel) rfl rfl,
    as_iald C (pc := 193) (by decide +kernel) rfl,
    as_iadd C (pc := 194) (by decide +kernel) rfl,
    as_iast C (pc := 195) (by decide +kernel) rfl,
    as_aload_n C (pc := 196) (q := 0) (by decide +kernel) rfl rfl,
    as_getf C (pc := 197) (T := T_Model) (N := 21) rfl in_Model (by decide) rfl w_536 (by decide +kernel) rfl,
    as_iload_n C (pc := 200) (q := 2) (by decide +kernel) rfl rfl,
    as_iconst C (pc := 201) (n := 1) (by decide +kernel) (by decide +kernel) rfl,
    as_iadd C (pc := 202) (by decide +kernel) rfl,
    as_aload_n C (pc := 203) (q := 0) (by decide +kernel) rfl rfl,
    as_getf C (pc := 204) (T := T_Model) (N := 21) rfl in_Model (by decide) rfl w_526 (by decide +kernel) rfl,
    as_iload_n C (pc := 207) (q := 3) (by decide +kernel) rfl rfl,
    as_iald C (pc := 208) (by decide +kernel) rfl,
    as_iast C (pc := 209) (by decide +kernel) rfl,
    as_iload_n C (pc := 210) (q := 2) (by decide +kernel) rfl rfl,
    as_iconst C (pc := 211) (n := 2) (by decide +kernel) (by decide +kernel) rfl,
    as_iadd C (pc := 212) (by decide +kernel) rfl,
    as_iret C (pc := 213) rfl (by decide +kernel),
    as_aload_n C (pc := 214) (q := 0) (by decide +kernel) rfl rfl,
    as_getf C (pc := 215) (T := T_Model) (N := 21) rfl in_Model (by decide) rfl w_523 (by decide +kernel) rfl,
    as_iload_n C (pc := 218) (q := 3) (by decide +kernel) rfl rfl,
    as_iald C (pc := 219) (by decide +kernel) rfl,
    as_iconst C (pc := 220) (n := 5) (by decide +kernel) (by decide +kernel) rfl,
    as_cmpne C (pc := 221) (off := 18) (by decide +kernel) (by decide) rfl,
    as_aload_n C (pc := 224) (q := 0) (by decide +kernel) rfl rfl,
    as_bipush C (pc := 225) (n := 40) (by decide +kernel) (by decide +kernel) rfl,
    as_callv2 C (pc := 227) h_Model_say (T := T_Model) (N := 21) rfl w_735 w_78 w_734 w_65 w_732 hy_Model_say (am_rm_of l_Model_say (by decide)) (by decide +kernel) rfl,
    as_aload_n C (pc := 230) (q := 0) (by decide +kernel) rfl rfl,
    as_bipush C (pc := 231) (n := 41) (by decide +kernel) (by decide +kernel) rfl,
    as_callv2 C (pc := 233) h_Model_say (T := T_Model) (N := 21) rfl w_735 w_78 w_734 w_65 w_732 hy_Model_say (am_rm_of l_Model_say (by decide)) (by decide +kernel) rfl,
    as_goto C (pc := 236) (off := 31) (by decide +kernel) (by decide),
    as_aload_n C (pc := 239) (q := 0) (by decide +kernel) rfl rfl,
    as_getf C (pc := 240) (T := T_Model) (N := 21) rfl in_Model (by decide) rfl w_523 (by decide +kernel) rfl,
    as_iload_n C (pc := 243) (q := 3) (by decide +kernel) rfl rfl,
    as_iald C (pc := 244) (by decide +kernel) rfl,
    as_iconst C (pc := 245) (n := 1) (by decide +kernel) (by decide +kernel) rfl,
    as_cmpne C (pc := 246) (off := 16) (by decide +kernel) (by decide) rfl,
    as_aload_n C (pc := 249) (q := 0) (by decide +kernel) rfl rfl,
    as_aload_n C (pc := 250) (q := 0) (by decide +kernel) rfl rfl,
    as_getf C (pc := 251) (T := T_Model) (N := 21) rfl in_Model (by decide) rfl w_524 (by decide +kernel) rfl,
    as_iload_n C (pc := 254) (q := 3) (by decide +kernel) rfl rfl,
    as_iald C (pc := 255) (by decide +kernel) rfl,
    as_callv2 C (pc := 256) h_Model_number (T := T_Model) (N := 21) rfl w_743 w_78 w_742 w_67 w_740 hy_Model_number (am_rm_of l_Model_number (by decide)) (by decide +kernel) rfl,
    as_goto C (pc := 259) (off := 8) (by decide +kernel) (by decide),
    as_aload_n C (pc := 262) (q := 0) (by decide +kernel) rfl rfl,
    as_iload_n C (pc := 263) (q := 3) (by decide +kernel) rfl rfl,
    as_callv2 C (pc := 264) h_Model_letters (T := T_Model) (N := 21) rfl w_747 w_78 w_746 w_68 w_744 hy_Model_letters (am_rm_of l_Model_letters (by decide)) (by decide +kernel) rfl,
    as_iload_n C (pc := 267) (q := 2) (by decide +kernel) rfl rfl,
    as_iret C (pc := 268) rfl (by decide +kernel), trivial⟩
abbrev k_Model_step : List Nat := []
set_option maxRecDepth 20000 in
theorem r_Model_step_0 {s_Model_say : aS} {s_Model_isQuote : aS} {s_Model_number : aS} {s_Model_letters : aS} {J : aJ} {K : aR} {n : Nat} {L : aL} {S : List Value} {M : aM} : am_run (c_Model_step s_Model_say s_Model_isQuote s_Model_number s_Model_letters) k_Model_step J K (n + 1) 0 L S M = ai_iload 1 1 (am_run (c_Model_step s_Model_say s_Model_isQuote s_Model_number s_Model_letters) k_Model_step J K n) K 0 L S M := by rfl
set_option maxRecDepth 20000 in
theorem r_Model_step_1 {s_Model_say : aS} {s_Model_isQuote : aS} {s_Model_number : aS} {s_Model_letters : aS} {J : aJ} {K : aR} {n : Nat} {L : aL} {S : List Value} {M : aM} : am_run (c_Model_step s_Model_say s_Model_isQuote s_Model_number s_Model_letters) k_Model_step J K (n + 1) 1 L S M = ai_const 2000 4 (am_run (c_Model_step s_Model_say s_Model_isQuote s_Model_number s_Model_letters) k_Model_step J K n) K 1 L S M := by rfl
set_option maxRecDepth 20000 in
theorem r_Model_step_4 {s_Model_say : aS} {s_Model_isQuote : aS} {s_Model_number : aS} {s_Model_letters : aS} {J : aJ} {K : aR} {n : Nat} {L : aL} {S : List Value} {M : aM} : am_run (c_Model_step s_Model_say s_Model_isQuote s_Model_number s_Model_letters) k_Model_step J K (n + 1) 4 L S M = ai_cmpne 15 7 (am_run (c_Model_step s_Model_say s_Model_isQuote s_Model_number s_Model_letters) k_Model_step J K n) K 4 L S M := by rfl
set_option maxRecDepth 20000 in
theorem r_Model_step_7 {s_Model_say : aS} {s_Model_isQuote : aS} {s_Model_number : aS} {s_Model_letters : aS} {J : aJ} {K : aR} {n : Nat} {L : aL} {S : List Value} {M : aM} : am_run (c_Model_step s_Model_say s_Model_isQuote s_Model_number s_Model_letters) k_Model_step J K (n + 1) 7 L S M = ai_aload 0 8 (am_run (c_Model_step s_Model_say s_Model_isQuote s_Model_number s_Model_letters) k_Model_step J K n) K 7 L S M := by rfl
set_option maxRecDepth 20000 in
theorem r_Model_step_8 {s_Model_say : aS} {s_Model_isQuote : aS} {s_Model_number : aS} {s_Model_letters : aS} {J : aJ} {K : aR} {n : Nat} {L : aL} {S : List Value} {M : aM} : am_run (c_Model_step s_Model_say s_Model_isQuote s_Model_number s_Model_letters) k_Model_step J K (n + 1) 8 L S M = ai_const 41 10 (am_run (c_Model_step s_Model_say s_Model_isQuote s_Model_number s_Model_letters) k_Model_step J K n) K 8 L S M := by rfl
set_option maxRecDepth 20000 in
theorem r_Model_step_10 {s_Model_say : aS} {s_Model_isQuote : aS} {s_Model_number : aS} {s_Model_letters : aS} {J : aJ} {K : aR} {n : Nat} {L : aL} {S : List Value} {M : aM} : am_run (c_Model_step s_Model_say s_Model_isQuote s_Model_number s_Model_letters) k_Model_step J K (n + 1) 10 L S M = ai_callv2 7 s_Model_say 13 (am_run (c_Model_step s_Model_say s_Model_isQuote s_Model_number s_Model_letters) k_Model_step J K n) K 10 L S M := by rfl
set_option maxRecDepth 20000 in
theorem r_Model_step_13 {s_Model_say : aS} {s_Model_isQuote : aS} {s_Model_number : aS} {s_Model_letters : aS} {J : aJ} {K : aR} {n : Nat} {L : aL} {S : List Value} {M : aM} : am_run (c_Model_step s_Model_say s_Model_isQuote s_Model_number s_Model_letters) k_Model_step J K (n + 1) 13 L S M = ai_iload 2 14 (am_run (c_Model_step s_Model_say s_Model_isQuote s_Model_number s_Model_letters) k_Model_step J K n) K 13 L S M := by rfl
set_option maxRecDepth 20000 in
theorem r_Model_step_14 {s_Model_say : aS} {s_Model_isQuote : aS} {s_Model_number : aS} {s_Model_letters : aS} {J : aJ} {K : aR} {n : Nat} {L : aL} {S : List Value} {M : aM} : am_run (c_Model_step s_Model_say s_Model_isQuote s_Model_number s_Model_letters) k_Model_step J K (n + 1) 14 L S M = ai_iret (am_run (c_Model_step s_Model_say s_Model_isQuote s_Model_number s_Model_letters) k_Model_step J K n) K 14 L S M := by rfl
set_option maxRecDepth 20000 in
theorem r_Model_step_15 {s_Model_say : aS} {s_Model_isQuote : aS} {s_Model_number : aS} {s_Model_letters : aS} {J : aJ} {K : aR} {n : Nat} {L : aL} {S : List Value} {M : aM} : am_run (c_Model_step s_Model_say s_Model_isQuote s_Model_number s_Model_letters) k_Model_step J K (n + 1) 15 L S M = ai_iload 1 16 (am_run (c_Model_step s_Model_say s_Model_isQuote s_Model_number s_Model_letters) k_Model_step J K n) K 15 L S M := by rfl
set_option maxRecDepth 20000 in
theorem r_Model_step_16 {s_Model_say : aS} {s_Model_isQuote : aS} {s_Model_number : aS} {s_Model_letters : aS} {J : aJ} {K : aR} {n : Nat} {L : aL} {S : List Value} {M : aM} : am_run (c_Model_step s_Model_say s_Model_isQuote s_Model_number s_Model_letters) k_Model_step J K (n + 1) 16 L S M = ai_const 1000 19 (am_run (c_Model_step s_Model_say s_Model_isQuote s_Model_number s_Model_letters) k_Model_step J K n) K 16 L S M := by rfl
set_option maxRecDepth 20000 in
theorem r_Model_step_19 {s_Model_say : aS} {s_Model_isQuote : aS} {s_Model_number : aS} {s_Model_letters : aS} {J : aJ} {K : aR} {n : Nat} {L : aL} {S : List Value} {M : aM} : am_run (c_Model_step s_Model_say s_Model_isQuote s_Model_number s_Model_letters) k_Model_step J K (n + 1) 19 L S M = ai_irem 20 (am_run (c_Model_step s_Model_say s_Model_isQuote s_Model_number s_Model_letters) k_Model_step J K n) K 19 L S M := by rfl
set_option maxRecDepth 20000 in
theorem r_Model_step_20 {s_Model_say : aS} {s_Model_isQuote : aS} {s_Model_number : aS} {s_Model_letters : aS} {J : aJ} {K : aR} {n : Nat} {L : aL} {S : List Value} {M : aM} : am_run (c_Model_step s_Model_say s_Model_isQuote s_Model_number s_Model_letters) k_Model_step J K (n + 1) 20 L S M = ai_istore 3 21 (am_run (c_Model_step s_Model_say s_Model_isQuote s_Model_number s_Model_letters) k_Model_step J K n) K 20 L S M := by rfl
set_option maxRecDepth 20000 in
theorem r_Model_step_21 {s_Model_say : aS} {s_Model_isQuote : aS} {s_Model_number : aS} {s_Model_letters : aS} {J : aJ} {K : aR} {n : Nat} {L : aL} {S : List Value} {M : aM} : am_run (c_Model_step s_Model_say s_Model_isQuote s_Model_number s_Model_letters) k_Model_step J K (n + 1) 21 L S M = ai_iload 1 22 (am_run (c_Model_step s_Model_say s_Model_isQuote s_Model_number s_Model_letters) k_Model_step J K n) K 21 L S M := by rfl
set_option maxRecDepth 20000 in
theorem r_Model_step_22 {s_Model_say : aS} {s_Model_isQuote : aS} {s_Model_number : aS} {s_Model_letters : aS} {J : aJ} {K : aR} {n : Nat} {L : aL} {S : List Value} {M : aM} : am_run (c_Model_step s_Model_say s_Model_isQuote s_Model_number s_Model_letters) k_Model_step J K (n + 1) 22 L S M = ai_const 1000 25 (am_run (c_Model_step s_Model_say s_Model_isQuote s_Model_number s_Model_letters) k_Model_step J K n) K 22 L S M := by rfl
set_option maxRecDepth 20000 in
theorem r_Model_step_25 {s_Model_say : aS} {s_Model_isQuote : aS} {s_Model_number : aS} {s_Model_letters : aS} {J : aJ} {K : aR} {n : Nat} {L : aL} {S : List Value} {M : aM} : am_run (c_Model_step s_Model_say s_Model_isQuote s_Model_number s_Model_letters) k_Model_step J K (n + 1) 25 L S M = ai_cmplt 32 28 (am_run (c_Model_step s_Model_say s_Model_isQuote s_Model_number s_Model_letters) k_Model_step J K n) K 25 L S M := by rfl
set_option maxRecDepth 20000 in
theorem r_Model_step_28 {s_Model_say : aS} {s_Model_isQuote : aS} {s_Model_number : aS} {s_Model_letters : aS} {J : aJ} {K : aR} {n : Nat} {L : aL} {S : List Value} {M : aM} : am_run (c_Model_step s_Model_say s_Model_isQuote s_Model_number s_Model_letters) k_Model_step J K (n + 1) 28 L S M = ai_const 1 29 (am_run (c_Model_step s_Model_say s_Model_isQuote s_Model_number s_Model_letters) k_Model_step J K n) K 28 L S M := by rfl
set_option maxRecDepth 20000 in
theorem r_Model_step_29 {s_Model_say : aS} {s_Model_isQuote : aS} {s_Model_number : aS} {s_Model_letters : aS} {J : aJ} {K : aR} {n : Nat} {L : aL} {S : List Value} {M : aM} : am_run (c_Model_step s_Model_say s_Model_isQuote s_Model_number s_Model_letters) k_Model_step J K (n + 1) 29 L S M = ai_goto 33 (am_run (c_Model_step s_Model_say s_Model_isQuote s_Model_number s_Model_letters) k_Model_step J K n) K 29 L S M := by rfl
set_option maxRecDepth 20000 in
theorem r_Model_step_32 {s_Model_say : aS} {s_Model_isQuote : aS} {s_Model_number : aS} {s_Model_letters : aS} {J : aJ} {K : aR} {n : Nat} {L : aL} {S : List Value} {M : aM} : am_run (c_Model_step s_Model_say s_Model_isQuote s_Model_number s_Model_letters) k_Model_step J K (n + 1) 32 L S M = ai_const 0 33 (am_run (c_Model_step s_Model_say s_Model_isQuote s_Model_number s_Model_letters) k_Model_step J K n) K 32 L S M := by rfl
set_option maxRecDepth 20000 in
theorem r_Model_step_33 {s_Model_say : aS} {s_Model_isQuote : aS} {s_Model_number : aS} {s_Model_letters : aS} {J : aJ} {K : aR} {n : Nat} {L : aL} {S : List Value} {M : aM} : am_run (c_Model_step s_Model_say s_Model_isQuote s_Model_number s_Model_letters) k_Model_step J K (n + 1) 33 L S M = ai_istore 4 35 (am_run (c_Model_step s_Model_say s_Model_isQuote s_Model_number s_Model_letters) k_Model_step J K n) K 33 L S M := by rfl
set_option maxRecDepth 20000 in
theorem r_Model_step_35 {s_Model_say : aS} {s_Model_isQuote : aS} {s_Model_number : aS} {s_Model_letters : aS} {J : aJ} {K : aR} {n : Nat} {L : aL} {S : List Value} {M : aM} : am_run (c_Model_step s_Model_say s_Model_isQuote s_Model_number s_Model_letters) k_Model_step J K (n + 1) 35 L S M = ai_iload 4 37 (am_run (c_Model_step s_Model_say s_Model_isQuote s_Model_number s_Model_letters) k_Model_step J K n) K 35 L S M := by rfl
set_option maxRecDepth 20000 in
theorem r_Model_step_37 {s_Model_say : aS} {s_Model_isQuote : aS} {s_Model_number : aS} {s_Model_letters : aS} {J : aJ} {K : aR} {n : Nat} {L : aL} {S : List Value} {M : aM} : am_run (c_Model_step s_Model_say s_Model_isQuote s_Model_number s_Model_letters) k_Model_step J K (n + 1) 37 L S M = ai_ifeq 59 40 (am_run (c_Model_step s_Model_say s_Model_isQuote s_Model_number s_Model_letters) k_Model_step J K n) K 37 L S M := by rfl
set_option maxRecDepth 20000 in
theorem r_Model_step_40 {s_Model_say : aS} {s_Model_isQuote : aS} {s_Model_number : aS} {s_Model_letters : aS} {J : aJ} {K : aR} {n : Nat} {L : aL} {S : List Value} {M : aM} : am_run (c_Model_step s_Model_say s_Model_isQuote s_Model_number s_Model_letters) k_Model_step J K (n + 1) 40 L S M = ai_aload 0 41 (am_run (c_Model_step s_Model_say s_Model_isQuote s_Model_number s_Model_letters) k_Model_step J K n) K 40 L S M := by rfl
set_option maxRecDepth 20000 in
theorem r_Model_step_41 {s_Model_say : aS} {s_Model_isQuote : aS} {s_Model_number : aS} {s_Model_letters : aS} {J : aJ} {K : aR} {n : Nat} {L : aL} {S : List Value} {M : aM} : am_run (c_Model_step s_Model_say s_Model_isQuote s_Model_number s_Model_letters) k_Model_step J K (n + 1) 41 L S M = ai_getf 7 6 44 (am_run (c_Model_step s_Model_say s_Model_isQuote s_Model_number s_Model_letters) k_Model_step J K n) K 41 L S M := by rfl
set_option maxRecDepth 20000 in
theorem r_Model_step_44 {s_Model_say : aS} {s_Model_isQuote : aS} {s_Model_number : aS} {s_Model_letters : aS} {J : aJ} {K : aR} {n : Nat} {L : aL} {S : List Value} {M : aM} : am_run (c_Model_step s_Model_say s_Model_isQuote s_Model_number s_Model_letters) k_Model_step J K (n + 1) 44 L S M = ai_iload 3 45 (am_run (c_Model_step s_Model_say s_Model_isQuote s_Model_number s_Model_letters) k_Model_step J K n) K 44 L S M := by rfl
set_option maxRecDepth 20000 in
theorem r_Model_step_45 {s_Model_say : aS} {s_Model_isQuote : aS} {s_Model_number : aS} {s_Model_letters : aS} {J : aJ} {K : aR} {n : Nat} {L : aL} {S : List Value} {M : aM} : am_run (c_Model_step s_Model_say s_Model_isQuote s_Model_number s_Model_letters) k_Model_step J K (n + 1) 45 L S M = ai_iald 46 (am_run (c_Model_step s_Model_say s_Model_isQuote s_Model_number s_Model_letters) k_Model_step J K n) K 45 L S M := by rfl
set_option maxRecDepth 20000 in
theorem r_Model_step_46 {s_Model_say : aS} {s_Model_isQuote : aS} {s_Model_number : aS} {s_Model_letters : aS} {J : aJ} {K : aR} {n : Nat} {L : aL} {S : List Value} {M : aM} : am_run (c_Model_step s_Model_say s_Model_isQuote s_Model_number s_Model_letters) k_Model_step J K (n + 1) 46 L S M = ai_const 5 47 (am_run (c_Model_step s_Model_say s_Model_isQuote s_Model_number s_Model_letters) k_Model_step J K n) K 46 L S M := by rfl
set_option maxRecDepth 20000 in
theorem r_Model_step_47 {s_Model_say : aS} {s_Model_isQuote : aS} {s_Model_number : aS} {s_Model_letters : aS} {J : aJ} {K : aR} {n : Nat} {L : aL} {S : List Value} {M : aM} : am_run (c_Model_step s_Model_say s_Model_isQuote s_Model_number s_Model_letters) k_Model_step J K (n + 1) 47 L S M = ai_cmpne 59 50 (am_run (c_Model_step s_Model_say s_Model_isQuote s_Model_number s_Model_letters) k_Model_step J K n) K 47 L S M := by rfl
set_option maxRecDepth 20000 in
theorem r_Model_step_50 {s_Model_say : aS} {s_Model_isQuote : aS} {s_Model_number : aS} {s_Model_letters : aS} {J : aJ} {K : aR} {n : Nat} {L : aL} {S : List Value} {M : aM} : am_run (c_Model_step s_Model_say s_Model_isQuote s_Model_number s_Model_letters) k_Model_step J K (n + 1) 50 L S M = ai_aload 0 51 (am_run (c_Model_step s_Model_say s_Model_isQuote s_Model_number s_Model_letters) k_Model_step J K n) K 50 L S M := by rfl
set_option maxRecDepth 20000 in
theorem r_Model_step_51 {s_Model_say : aS} {s_Model_isQuote : aS} {s_Model_number : aS} {s_Model_letters : aS} {J : aJ} {K : aR} {n : Nat} {L : aL} {S : List Value} {M : aM} : am_run (c_Model_step s_Model_say s_Model_isQuote s_Model_number s_Model_letters) k_Model_step J K (n + 1) 51 L S M = ai_const 41 53 (am_run (c_Model_step s_Model_say s_Model_isQuote s_Model_number s_Model_letters) k_Model_step J K n) K 51 L S M := by rfl
set_option maxRecDepth 20000 in
theorem r_Model_step_53 {s_Model_say : aS} {s_Model_isQuote : aS} {s_Model_number : aS} {s_Model_letters : aS} {J : aJ} {K : aR} {n : Nat} {L : aL} {S : List Value} {M : aM} : am_run (c_Model_step s_Model_say s_Model_isQuote s_Model_number s_Model_letters) k_Model_step J K (n + 1) 53 L S M = ai_callv2 7 s_Model_say 56 (am_run (c_Model_step s_Model_say s_Model_isQuote s_Model_number s_Model_letters) k_Model_step J K n) K 53 L S M := by rfl
set_option maxRecDepth 20000 in
theorem r_Model_step_56 {s_Model_say : aS} {s_Model_isQuote : aS} {s_Model_number : aS} {s_Model_letters : aS} {J : aJ} {K : aR} {n : Nat} {L : aL} {S : List Value} {M : aM} : am_run (c_Model_step s_Model_say s_Model_isQuote s_Model_number s_Model_letters) k_Model_step J K (n + 1) 56 L S M = ai_goto 267 (am_run (c_Model_step s_Model_say s_Model_isQuote s_Model_number s_Model_letters) k_Model_step J K n) K 56 L S M := by rfl
set_option maxRecDepth 20000 in
theorem r_Model_step_59 {s_Model_say : aS} {s_Model_isQuote : aS} {s_Model_number : aS} {s_Model_letters : aS} {J : aJ} {K : aR} {n : Nat} {L : aL} {S : List Value} {M : aM} : am_run (c_Model_step s_Model_say s_Model_isQuote s_Model_number s_Model_letters) k_Model_step J K (n + 1) 59 L S M = ai_iload 4 61 (am_run (c_Model_step s_Model_say s_Model_isQuote s_Model_number s_Model_letters) k_Model_step J K n) K 59 L S M := by rfl
set_option maxRecDepth 20000 in
theorem r_Model_step_61 {s_Model_say : aS} {s_Model_isQuote : aS} {s_Model_number : aS} {s_Model_letters : aS} {J : aJ} {K : aR} {n : Nat} {L : aL} {S : List Value} {M : aM} : am_run (c_Model_step s_Model_say s_Model_isQuote s_Model_number s_Model_letters) k_Model_step J K (n + 1) 61 L S M = ai_ifeq 114 64 (am_run (c_Model_step s_Model_say s_Model_isQuote s_Model_number s_Model_letters) k_Model_step J K n) K 61 L S M := by rfl
set_option maxRecDepth 20000 in
theorem r_Model_step_64 {s_Model_say : aS} {s_Model_isQuote : aS} {s_Model_number : aS} {s_Model_letters : aS} {J : aJ} {K : aR} {n : Nat} {L : aL} {S : List Value} {M : aM} : am_run (c_Model_step s_Model_say s_Model_isQuote s_Model_number s_Model_letters) k_Model_step J K (n + 1) 64 L S M = ai_aload 0 65 (am_run (c_Model_step s_Model_say s_Model_isQuote s_Model_number s_Model_letters) k_Model_step J K n) K 64 L S M := by rfl
set_option maxRecDepth 20000 in
theorem r_Model_step_65 {s_Model_say : aS} {s_Model_isQuote : aS} {s_Model_number : aS} {s_Model_letters : aS} {J : aJ} {K : aR} {n : Nat} {L : aL} {S : List Value} {M : aM} : am_run (c_Model_step s_Model_say s_Model_isQuote s_Model_number s_Model_letters) k_Model_step J K (n + 1) 65 L S M = ai_getf 7 6 68 (am_run (c_Model_step s_Model_say s_Model_isQuote s_Model_number s_Model_letters) k_Model_step J K n) K 65 L S M := by rfl
set_option maxRecDepth 20000 in
theorem r_Model_step_68 {s_Model_say : aS} {s_Model_isQuote : aS} {s_Model_number : aS} {s_Model_letters : aS} {J : aJ} {K : aR} {n : Nat} {L : aL} {S : List Value} {M : aM} : am_run (c_Model_step s_Model_say s_Model_isQuote s_Model_number s_Model_letters) k_Model_step J K (n + 1) 68 L S M = ai_iload 3 69 (am_run (c_Model_step s_Model_say s_Model_isQuote s_Model_number s_Model_letters) k_Model_step J K n) K 68 L S M := by rfl
set_option maxRecDepth 20000 in
theorem r_Model_step_69 {s_Model_say : aS} {s_Model_isQuote : aS} {s_Model_number : aS} {s_Model_letters : aS} {J : aJ} {K : aR} {n : Nat} {L : aL} {S : List Value} {M : aM} : am_run (c_Model_step s_Model_say s_Model_isQuote s_Model_number s_Model_letters) k_Model_step J K (n + 1) 69 L S M = ai_iald 70 (am_run (c_Model_step s_Model_say s_Model_isQuote s_Model_number s_Model_letters) k_Model_step J K n) K 69 L S M := by rfl
set_option maxRecDepth 20000 in
theorem r_Model_step_70 {s_Model_say : aS} {s_Model_isQuote : aS} {s_Model_number : aS} {s_Model_letters : aS} {J : aJ} {K : aR} {n : Nat} {L : aL} {S : List Value} {M : aM} : am_run (c_Model_step s_Model_say s_Model_isQuote s_Model_number s_Model_letters) k_Model_step J K (n + 1) 70 L S M = ai_const 4 71 (am_run (c_Model_step s_Model_say s_Model_isQuote s_Model_number s_Model_letters) k_Model_step J K n) K 70 L S M := by rfl
set_option maxRecDepth 20000 in
theorem r_Model_step_71 {s_Model_say : aS} {s_Model_isQuote : aS} {s_Model_number : aS} {s_Model_letters : aS} {J : aJ} {K : aR} {n : Nat} {L : aL} {S : List Value} {M : aM} : am_run (c_Model_step s_Model_say s_Model_isQuote s_Model_number s_Model_letters) k_Model_step J K (n + 1) 71 L S M = ai_cmpeq 114 74 (am_run (c_Model_step s_Model_say s_Model_isQuote s_Model_number s_Model_letters) k_Model_step J K n) K 71 L S M := by rfl
set_option maxRecDepth 20000 in
theorem r_Model_step_74 {s_Model_say : aS} {s_Model_isQuote : aS} {s_Model_number : aS} {s_Model_letters : aS} {J : aJ} {K : aR} {n : Nat} {L : aL} {S : List Value} {M : aM} : am_run (c_Model_step s_Model_say s_Model_isQuote s_Model_number s_Model_letters) k_Model_step J K (n + 1) 74 L S M = ai_aload 0 75 (am_run (c_Model_step s_Model_say s_Model_isQuote s_Model_number s_Model_letters) k_Model_step J K n) K 74 L S M := by rfl
set_option maxRecDepth 20000 in
theorem r_Model_step_75 {s_Model_say : aS} {s_Model_isQuote : aS} {s_Model_number : aS} {s_Model_letters : aS} {J : aJ} {K : aR} {n : Nat} {L : aL} {S : List Value} {M : aM} : am_run (c_Model_step s_Model_say s_Model_isQuote s_Model_number s_Model_letters) k_Model_step J K (n + 1) 75 L S M = ai_const 32 77 (am_run (c_Model_step s_Model_say s_Model_isQuote s_Model_number s_Model_letters) k_Model_step J K n) K 75 L S M := by rfl
set_option maxRecDepth 20000 in
theorem r_Model_step_77 {s_Model_say : aS} {s_Model_isQuote : aS} {s_Model_number : aS} {s_Model_letters : aS} {J : aJ} {K : aR} {n : Nat} {L : aL} {S : List Value} {M : aM} : am_run (c_Model_step s_Model_say s_Model_isQuote s_Model_number s_Model_letters) k_Model_step J K (n + 1) 77 L S M = ai_callv2 7 s_Model_say 80 (am_run (c_Model_step s_Model_say s_Model_isQuote s_Model_number s_Model_letters) k_Model_step J K n) K 77 L S M := by rfl
set_option maxRecDepth 20000 in
theorem r_Model_step_80 {s_Model_say : aS} {s_Model_isQuote : aS} {s_Model_number : aS} {s_Model_letters : aS} {J : aJ} {K : aR} {n : Nat} {L : aL} {S : List Value} {M : aM} : am_run (c_Model_step s_Model_say s_Model_isQuote s_Model_number s_Model_letters) k_Model_step J K (n + 1) 80 L S M = ai_aload 0 81 (am_run (c_Model_step s_Model_say s_Model_isQuote s_Model_number s_Model_letters) k_Model_step J K n) K 80 L S M := by rfl
set_option maxRecDepth 20000 in
theorem r_Model_step_81 {s_Model_say : aS} {s_Model_isQuote : aS} {s_Model_number : aS} {s_Model_letters : aS} {J : aJ} {K : aR} {n : Nat} {L : aL} {S : List Value} {M : aM} : am_run (c_Model_step s_Model_say s_Model_isQuote s_Model_number s_Model_letters) k_Model_step J K (n + 1) 81 L S M = ai_const 46 83 (am_run (c_Model_step s_Model_say s_Model_isQuote s_Model_number s_Model_letters) k_Model_step J K n) K 81 L S M := by rfl
set_option maxRecDepth 20000 in
theorem r_Model_step_83 {s_Model_say : aS} {s_Model_isQuote : aS} {s_Model_number : aS} {s_Model_letters : aS} {J : aJ} {K : aR} {n : Nat} {L : aL} {S : List Value} {M : aM} : am_run (c_Model_step s_Model_say s_Model_isQuote s_Model_number s_Model_letters) k_Model_step J K (n + 1) 83 L S M = ai_callv2 7 s_Model_say 86 (am_run (c_Model_step s_Model_say s_Model_isQuote s_Model_number s_Model_letters) k_Model_step J K n) K 83 L S M := by rfl
set_option maxRecDepth 20000 in
theorem r_Model_step_86 {s_Model_say : aS} {s_Model_isQuote : aS} {s_Model_number : aS} {s_Model_letters : aS} {J : aJ} {K : aR} {n : Nat} {L : aL} {S : List Value} {M : aM} : am_run (c_Model_step s_Model_say s_Model_isQuote s_Model_number s_Model_letters) k_Model_step J K (n + 1) 86 L S M = ai_aload 0 87 (am_run (c_Model_step s_Model_say s_Model_isQuote s_Model_number s_Model_letters) k_Model_step J K n) K 86 L S M := by rfl
set_option maxRecDepth 20000 in
theorem r_Model_step_87 {s_Model_say : aS} {s_Model_isQuote : aS} {s_Model_number : aS} {s_Model_letters : aS} {J : aJ} {K : aR} {n : Nat} {L : aL} {S : List Value} {M : aM} : am_run (c_Model_step s_Model_say s_Model_isQuote s_Model_number s_Model_letters) k_Model_step J K (n + 1) 87 L S M = ai_const 32 89 (am_run (c_Model_step s_Model_say s_Model_isQuote s_Model_number s_Model_letters) k_Model_step J K n) K 87 L S M := by rfl
set_option maxRecDepth 20000 in
theorem r_Model_step_89 {s_Model_say : aS} {s_Model_isQuote : aS} {s_Model_number : aS} {s_Model_letters : aS} {J : aJ} {K : aR} {n : Nat} {L : aL} {S : List Value} {M : aM} : am_run (c_Model_step s_Model_say s_Model_isQuote s_Model_number s_Model_letters) k_Model_step J K (n + 1) 89 L S M = ai_callv2 7 s_Model_say 92 (am_run (c_Model_step s_Model_say s_Model_isQuote s_Model_number s_Model_letters) k_Model_step J K n) K 89 L S M := by rfl
set_option maxRecDepth 20000 in
theorem r_Model_step_92 {s_Model_say : aS} {s_Model_isQuote : aS} {s_Model_number : aS} {s_Model_letters : aS} {J : aJ} {K : aR} {n : Nat} {L : aL} {S : List Value} {M : aM} : am_run (c_Model_step s_Model_say s_Model_isQuote s_Model_number s_Model_letters) k_Model_step J K (n + 1) 92 L S M = ai_aload 0 93 (am_run (c_Model_step s_Model_say s_Model_isQuote s_Model_number s_Model_letters) k_Model_step J K n) K 92 L S M := by rfl
set_option maxRecDepth 20000 in
theorem r_Model_step_93 {s_Model_say : aS} {s_Model_isQuote : aS} {s_Model_number : aS} {s_Model_letters : aS} {J : aJ} {K : aR} {n : Nat} {L : aL} {S : List Value} {M : aM} : am_run (c_Model_step s_Model_say s_Model_isQuote s_Model_number s_Model_letters) k_Model_step J K (n + 1) 93 L S M = ai_getf 7 19 96 (am_run (c_Model_step s_Model_say s_Model_isQuote s_Model_number s_Model_letters) k_Model_step J K n) K 93 L S M := by rfl
set_option maxRecDepth 20000 in
theorem r_Model_step_96 {s_Model_say : aS} {s_Model_isQuote : aS} {s_Model_number : aS} {s_Model_letters : aS} {J : aJ} {K : aR} {n : Nat} {L : aL} {S : List Value} {M : aM} : am_run (c_Model_step s_Model_say s_Model_isQuote s_Model_number s_Model_letters) k_Model_step J K (n + 1) 96 L S M = ai_iload 2 97 (am_run (c_Model_step s_Model_say s_Model_isQuote s_Model_number s_Model_letters) k_Model_step J K n) K 96 L S M := by rfl
set_option maxRecDepth 20000 in
theorem r_Model_step_97 {s_Model_say : aS} {s_Model_isQuote : aS} {s_Model_number : aS} {s_Model_letters : aS} {J : aJ} {K : aR} {n : Nat} {L : aL} {S : List Value} {M : aM} : am_run (c_Model_step s_Model_say s_Model_isQuote s_Model_number s_Model_letters) k_Model_step J K (n + 1) 97 L S M = ai_const 2000 100 (am_run (c_Model_step s_Model_say s_Model_isQuote s_Model_number s_Model_letters) k_Model_step J K n) K 97 L S M := by rfl
set_option maxRecDepth 20000 in
theorem r_Model_step_100 {s_Model_say : aS} {s_Model_isQuote : aS} {s_Model_number : aS} {s_Model_letters : aS} {J : aJ} {K : aR} {n : Nat} {L : aL} {S : List Value} {M : aM} : am_run (c_Model_step s_Model_say s_Model_isQuote s_Model_number s_Model_letters) k_Model_step J K (n + 1) 100 L S M = ai_iast 101 (am_run (c_Model_step s_Model_say s_Model_isQuote s_Model_number s_Model_letters) k_Model_step J K n) K 100 L S M := by rfl
set_option maxRecDepth 20000 in
theorem r_Model_step_101 {s_Model_say : aS} {s_Model_isQuote : aS} {s_Model_number : aS} {s_Model_letters : aS} {J : aJ} {K : aR} {n : Nat} {L : aL} {S : List Value} {M : aM} : am_run (c_Model_step s_Model_say s_Model_isQuote s_Model_number s_Model_letters) k_Model_step J K (n + 1) 101 L S M = ai_aload 0 102 (am_run (c_Model_step s_Model_say s_Model_isQuote s_Model_number s_Model_letters) k_Model_step J K n) K 101 L S M := by rfl
set_option maxRecDepth 20000 in
theorem r_Model_step_102 {s_Model_say : aS} {s_Model_isQuote : aS} {s_Model_number : aS} {s_Model_letters : aS} {J : aJ} {K : aR} {n : Nat} {L : aL} {S : List Value} {M : aM} : am_run (c_Model_step s_Model_say s_Model_isQuote s_Model_number s_Model_letters) k_Model_step J K (n + 1) 102 L S M = ai_getf 7 19 105 (am_run (c_Model_step s_Model_say s_Model_isQuote s_Model_number s_Model_letters) k_Model_step J K n) K 102 L S M := by rfl
set_option maxRecDepth 20000 in
theorem r_Model_step_105 {s_Model_say : aS} {s_Model_isQuote : aS} {s_Model_number : aS} {s_Model_letters : aS} {J : aJ} {K : aR} {n : Nat} {L : aL} {S : List Value} {M : aM} : am_run (c_Model_step s_Model_say s_Model_isQuote s_Model_number s_Model_letters) k_Model_step J K (n + 1) 105 L S M = ai_iload 2 106 (am_run (c_Model_step s_Model_say s_Model_isQuote s_Model_number s_Model_letters) k_Model_step J K n) K 105 L S M := by rfl
set_option maxRecDepth 20000 in
theorem r_Model_step_106 {s_Model_say : aS} {s_Model_isQuote : aS} {s_Model_number : aS} {s_Model_letters : aS} {J : aJ} {K : aR} {n : Nat} {L : aL} {S : List Value} {M : aM} : am_run (c_Model_step s_Model_say s_Model_isQuote s_Model_number s_Model_letters) k_Model_step J K (n + 1) 106 L S M = ai_const 1 107 (am_run (c_Model_step s_Model_say s_Model_isQuote s_Model_number s_Model_letters) k_Model_step J K n) K 106 L S M := by rfl
set_option maxRecDepth 20000 in
theorem r_Model_step_107 {s_Model_say : aS} {s_Model_isQuote : aS} {s_Model_number : aS} {s_Model_letters : aS} {J : aJ} {K : aR} {n : Nat} {L : aL} {S : List Value} {M : aM} : am_run (c_Model_step s_Model_say s_Model_isQuote s_Model_number s_Model_letters) k_Model_step J K (n + 1) 107 L S M = ai_iadd 108 (am_run (c_Model_step s_Model_say s_Model_isQuote s_Model_number s_Model_letters) k_Model_step J K n) K 107 L S M := by rfl
set_option maxRecDepth 20000 in
theorem r_Model_step_108 {s_Model_say : aS} {s_Model_isQuote : aS} {s_Model_number : aS} {s_Model_letters : aS} {J : aJ} {K : aR} {n : Nat} {L : aL} {S : List Value} {M : aM} : am_run (c_Model_step s_Model_say s_Model_isQuote s_Model_number s_Model_letters) k_Model_step J K (n + 1) 108 L S M = ai_iload 3 109 (am_run (c_Model_step s_Model_say s_Model_isQuote s_Model_number s_Model_letters) k_Model_step J K n) K 108 L S M := by rfl
set_option maxRecDepth 20000 in
theorem r_Model_step_109 {s_Model_say : aS} {s_Model_isQuote : aS} {s_Model_number : aS} {s_Model_letters : aS} {J : aJ} {K : aR} {n : Nat} {L : aL} {S : List Value} {M : aM} : am_run (c_Model_step s_Model_say s_Model_isQuote s_Model_number s_Model_letters) k_Model_step J K (n + 1) 109 L S M = ai_iast 110 (am_run (c_Model_step s_Model_say s_Model_isQuote s_Model_number s_Model_letters) k_Model_step J K n) K 109 L S M := by rfl
set_option maxRecDepth 20000 in
theorem r_Model_step_110 {s_Model_say : aS} {s_Model_isQuote : aS} {s_Model_number : aS} {s_Model_letters : aS} {J : aJ} {K : aR} {n : Nat} {L : aL} {S : List Value} {M : aM} : am_run (c_Model_step s_Model_say s_Model_isQuote s_Model_number s_Model_letters) k_Model_step J K (n + 1) 110 L S M = ai_iload 2 111 (am_run (c_Model_step s_Model_say s_Model_isQuote s_Model_number s_Model_letters) k_Model_step J K n) K 110 L S M := by rfl
set_option maxRecDepth 20000 in
theorem r_Model_step_111 {s_Model_say : aS} {s_Model_isQuote : aS} {s_Model_number : aS} {s_Model_letters : aS} {J : aJ} {K : aR} {n : Nat} {L : aL} {S : List Value} {M : aM} : am_run (c_Model_step s_Model_say s_Model_isQuote s_Model_number s_Model_letters) k_Model_step J K (n + 1) 111 L S M = ai_const 2 112 (am_run (c_Model_step s_Model_say s_Model_isQuote s_Model_number s_Model_letters) k_Model_step J K n) K 111 L S M := by rfl
set_option maxRecDepth 20000 in
theorem r_Model_step_112 {s_Model_say : aS} {s_Model_isQuote : aS} {s_Model_number : aS} {s_Model_letters : aS} {J : aJ} {K : aR} {n : Nat} {L : aL} {S : List Value} {M : aM} : am_run (c_Model_step s_Model_say s_Model_isQuote s_Model_number s_Model_letters) k_Model_step J K (n + 1) 112 L S M = ai_iadd 113 (am_run (c_Model_step s_Model_say s_Model_isQuote s_Model_number s_Model_letters) k_Model_step J K n) K 112 L S M := by rfl
set_option maxRecDepth 20000 in
theorem r_Model_step_113 {s_Model_say : aS} {s_Model_isQuote : aS} {s_Model_number : aS} {s_Model_letters : aS} {J : aJ} {K : aR} {n : Nat} {L : aL} {S : List Value} {M : aM} : am_run (c_Model_step s_Model_say s_Model_isQuote s_Model_number s_Model_letters) k_Model_step J K (n + 1) 113 L S M = ai_iret (am_run (c_Model_step s_Model_say s_Model_isQuote s_Model_number s_Model_letters) k_Model_step J K n) K 113 L S M := by rfl
set_option maxRecDepth 20000 in
theorem r_Model_step_114 {s_Model_say : aS} {s_Model_isQuote : aS} {s_Model_number : aS} {s_Model_letters : aS} {J : aJ} {K : aR} {n : Nat} {L : aL} {S : List Value} {M : aM} : am_run (c_Model_step s_Model_say s_Model_isQuote s_Model_number s_Model_letters) k_Model_step J K (n + 1) 114 L S M = ai_aload 0 115 (am_run (c_Model_step s_Model_say s_Model_isQuote s_Model_number s_Model_letters) k_Model_step J K n) K 114 L S M := by rfl
set_option maxRecDepth 20000 in
theorem r_Model_step_115 {s_Model_say : aS} {s_Model_isQuote : aS} {s_Model_number : aS} {s_Model_letters : aS} {J : aJ} {K : aR} {n : Nat} {L : aL} {S : List Value} {M : aM} : am_run (c_Model_step s_Model_say s_Model_isQuote s_Model_number s_Model_letters) k_Model_step J K (n + 1) 115 L S M = ai_getf 7 6 118 (am_run (c_Model_step s_Model_say s_Model_isQuote s_Model_number s_Model_letters) k_Model_step J K n) K 115 L S M := by rfl
set_option maxRecDepth 20000 in
theorem r_Model_step_118 {s_Model_say : aS} {s_Model_isQuote : aS} {s_Model_number : aS} {s_Model_letters : aS} {J : aJ} {K : aR} {n : Nat} {L : aL} {S : List Value} {M : aM} : am_run (c_Model_step s_Model_say s_Model_isQuote s_Model_number s_Model_letters) k_Model_step J K (n + 1) 118 L S M = ai_iload 3 119 (am_run (c_Model_step s_Model_say s_Model_isQuote s_Model_number s_Model_letters) k_Model_step J K n) K 118 L S M := by rfl
set_option maxRecDepth 20000 in
theorem r_Model_step_119 {s_Model_say : aS} {s_Model_isQuote : aS} {s_Model_number : aS} {s_Model_letters : aS} {J : aJ} {K : aR} {n : Nat} {L : aL} {S : List Value} {M : aM} : am_run (c_Model_step s_Model_say s_Model_isQuote s_Model_number s_Model_letters) k_Model_step J K (n + 1) 119 L S M = ai_iald 120 (am_run (c_Model_step s_Model_say s_Model_isQuote s_Model_number s_Model_letters) k_Model_step J K n) K 119 L S M := by rfl
set_option maxRecDepth 20000 in
theorem r_Model_step_120 {s_Model_say : aS} {s_Model_isQuote : aS} {s_Model_number : aS} {s_Model_letters : aS} {J : aJ} {K : aR} {n : Nat} {L : aL} {S : List Value} {M : aM} : am_run (c_Model_step s_Model_say s_Model_isQuote s_Model_number s_Model_letters) k_Model_step J K (n + 1) 120 L S M = ai_const 4 121 (am_run (c_Model_step s_Model_say s_Model_isQuote s_Model_number s_Model_letters) k_Model_step J K n) K 120 L S M := by rfl
set_option maxRecDepth 20000 in
theorem r_Model_step_121 {s_Model_say : aS} {s_Model_isQuote : aS} {s_Model_number : aS} {s_Model_letters : aS} {J : aJ} {K : aR} {n : Nat} {L : aL} {S : List Value} {M : aM} : am_run (c_Model_step s_Model_say s_Model_isQuote s_Model_number s_Model_letters) k_Model_step J K (n + 1) 121 L S M = ai_cmpne 214 124 (am_run (c_Model_step s_Model_say s_Model_isQuote s_Model_number s_Model_letters) k_Model_step J K n) K 121 L S M := by rfl
set_option maxRecDepth 20000 in
theorem r_Model_step_124 {s_Model_say : aS} {s_Model_isQuote : aS} {s_Model_number : aS} {s_Model_letters : aS} {J : aJ} {K : aR} {n : Nat} {L : aL} {S : List Value} {M : aM} : am_run (c_Model_step s_Model_say s_Model_isQuote s_Model_number s_Model_letters) k_Model_step J K (n + 1) 124 L S M = ai_iload 4 126 (am_run (c_Model_step s_Model_say s_Model_isQuote s_Model_number s_Model_letters) k_Model_step J K n) K 124 L S M := by rfl
set_option maxRecDepth 20000 in
theorem r_Model_step_126 {s_Model_say : aS} {s_Model_isQuote : aS} {s_Model_number : aS} {s_Model_letters : aS} {J : aJ} {K : aR} {n : Nat} {L : aL} {S : List Value} {M : aM} : am_run (c_Model_step s_Model_say s_Model_isQuote s_Model_number s_Model_letters) k_Model_step J K (n + 1) 126 L S M = ai_ifne 164 129 (am_run (c_Model_step s_Model_say s_Model_isQuote s_Model_number s_Model_letters) k_Model_step J K n) K 126 L S M := by rfl
set_option maxRecDepth 20000 in
theorem r_Model_step_129 {s_Model_say : aS} {s_Model_isQuote : aS} {s_Model_number : aS} {s_Model_letters : aS} {J : aJ} {K : aR} {n : Nat} {L : aL} {S : List Value} {M : aM} : am_run (c_Model_step s_Model_say s_Model_isQuote s_Model_number s_Model_letters) k_Model_step J K (n + 1) 129 L S M = ai_aload 0 130 (am_run (c_Model_step s_Model_say s_Model_isQuote s_Model_number s_Model_letters) k_Model_step J K n) K 129 L S M := by rfl
set_option maxRecDepth 20000 in
theorem r_Model_step_130 {s_Model_say : aS} {s_Model_isQuote : aS} {s_Model_number : aS} {s_Model_letters : aS} {J : aJ} {K : aR} {n : Nat} {L : aL} {S : List Value} {M : aM} : am_run (c_Model_step s_Model_say s_Model_isQuote s_Model_number s_Model_letters) k_Model_step J K (n + 1) 130 L S M = ai_iload 3 131 (am_run (c_Model_step s_Model_say s_Model_isQuote s_Model_number s_Model_letters) k_Model_step J K n) K 130 L S M := by rfl
set_option maxRecDepth 20000 in
theorem r_Model_step_131 {s_Model_say : aS} {s_Model_isQuote : aS} {s_Model_number : aS} {s_Model_letters : aS} {J : aJ} {K : aR} {n : Nat} {L : aL} {S : List Value} {M : aM} : am_run (c_Model_step s_Model_say s_Model_isQuote s_Model_number s_Model_letters) k_Model_step J K (n + 1) 131 L S M = ai_callv2 7 s_Model_isQuote 134 (am_run (c_Model_step s_Model_say s_Model_isQuote s_Model_number s_Model_letters) k_Model_step J K n) K 131 L S M := by rfl
set_option maxRecDepth 20000 in
theorem r_Model_step_134 {s_Model_say : aS} {s_Model_isQuote : aS} {s_Model_number : aS} {s_Model_letters : aS} {J : aJ} {K : aR} {n : Nat} {L : aL} {S : List Value} {M : aM} : am_run (c_Model_step s_Model_say s_Model_isQuote s_Model_number s_Model_letters) k_Model_step J K (n + 1) 134 L S M = ai_ifeq 164 137 (am_run (c_Model_step s_Model_say s_Model_isQuote s_Model_number s_Model_letters) k_Model_step J K n) K 134 L S M := by rfl
set_option maxRecDepth 20000 in
theorem r_Model_step_137 {s_Model_say : aS} {s_Model_isQuote : aS} {s_Model_number : aS} {s_Model_letters : aS} {J : aJ} {K : aR} {n : Nat} {L : aL} {S : List Value} {M : aM} : am_run (c_Model_step s_Model_say s_Model_isQuote s_Model_number s_Model_letters) k_Model_step J K (n + 1) 137 L S M = ai_aload 0 138 (am_run (c_Model_step s_Model_say s_Model_isQuote s_Model_number s_Model_letters) k_Model_step J K n) K 137 L S M := by rfl
set_option maxRecDepth 20000 in
theorem r_Model_step_138 {s_Model_say : aS} {s_Model_isQuote : aS} {s_Model_number : aS} {s_Model_letters : aS} {J : aJ} {K : aR} {n : Nat} {L : aL} {S : List Value} {M : aM} : am_run (c_Model_step s_Model_say s_Model_isQuote s_Model_number s_Model_letters) k_Model_step J K (n + 1) 138 L S M = ai_const 39 140 (am_run (c_Model_step s_Model_say s_Model_isQuote s_Model_number s_Model_letters) k_Model_step J K n) K 138 L S M := by rfl
set_option maxRecDepth 20000 in
theorem r_Model_step_140 {s_Model_say : aS} {s_Model_isQuote : aS} {s_Model_number : aS} {s_Model_letters : aS} {J : aJ} {K : aR} {n : Nat} {L : aL} {S : List Value} {M : aM} : am_run (c_Model_step s_Model_say s_Model_isQuote s_Model_number s_Model_letters) k_Model_step J K (n + 1) 140 L S M = ai_callv2 7 s_Model_say 143 (am_run (c_Model_step s_Model_say s_Model_isQuote s_Model_number s_Model_letters) k_Model_step J K n) K 140 L S M := by rfl
set_option maxRecDepth 20000 in
theorem r_Model_step_143 {s_Model_say : aS} {s_Model_isQuote : aS} {s_Model_number : aS} {s_Model_letters : aS} {J : aJ} {K : aR} {n : Nat} {L : aL} {S : List Value} {M : aM} : am_run (c_Model_step s_Model_say s_Model_isQuote s_Model_number s_Model_letters) k_Model_step J K (n + 1) 143 L S M = ai_aload 0 144 (am_run (c_Model_step s_Model_say s_Model_isQuote s_Model_number s_Model_letters) k_Model_step J K n) K 143 L S M := by rfl
set_option maxRecDepth 20000 in
theorem r_Model_step_144 {s_Model_say : aS} {s_Model_isQuote : aS} {s_Model_number : aS} {s_Model_letters : aS} {J : aJ} {K : aR} {n : Nat} {L : aL} {S : List Value} {M : aM} : am_run (c_Model_step s_Model_say s_Model_isQuote s_Model_number s_Model_letters) k_Model_step J K (n + 1) 144 L S M = ai_getf 7 19 147 (am_run (c_Model_step s_Model_say s_Model_isQuote s_Model_number s_Model_letters) k_Model_step J K n) K 144 L S M := by rfl
set_option maxRecDepth 20000 in
theorem r_Model_step_147 {s_Model_say : aS} {s_Model_isQuote : aS} {s_Model_number : aS} {s_Model_letters : aS} {J : aJ} {K : aR} {n : Nat} {L : aL} {S : List Value} {M : aM} : am_run (c_Model_step s_Model_say s_Model_isQuote s_Model_number s_Model_letters) k_Model_step J K (n + 1) 147 L S M = ai_iload 2 148 (am_run (c_Model_step s_Model_say s_Model_isQuote s_Model_number s_Model_letters) k_Model_step J K n) K 147 L S M := by rfl
set_option maxRecDepth 20000 in
theorem r_Model_step_148 {s_Model_say : aS} {s_Model_isQuote : aS} {s_Model_number : aS} {s_Model_letters : aS} {J : aJ} {K : aR} {n : Nat} {L : aL} {S : List Value} {M : aM} : am_run (c_Model_step s_Model_say s_Model_isQuote s_Model_number s_Model_letters) k_Model_step J K (n + 1) 148 L S M = ai_aload 0 149 (am_run (c_Model_step s_Model_say s_Model_isQuote s_Model_number s_Model_letters) k_Model_step J K n) K 148 L S M := by rfl
set_option maxRecDepth 20000 in
theorem r_Model_step_149 {s_Model_say : aS} {s_Model_isQuote : aS} {s_Model_number : aS} {s_Model_letters : aS} {J : aJ} {K : aR} {n : Nat} {L : aL} {S : List Value} {M : aM} : am_run (c_Model_step s_Model_say s_Model_isQuote s_Model_number s_Model_letters) k_Model_step J K (n + 1) 149 L S M = ai_getf 7 9 152 (am_run (c_Model_step s_Model_say s_Model_isQuote s_Model_number s_Model_letters) k_Model_step J K n) K 149 L S M := by rfl
set_option maxRecDepth 20000 in
theorem r_Model_step_152 {s_Model_say : aS} {s_Model_isQuote : aS} {s_Model_number : aS} {s_Model_letters : aS} {J : aJ} {K : aR} {n : Nat} {L : aL} {S : List Value} {M : aM} : am_run (c_Model_step s_Model_say s_Model_isQuote s_Model_number s_Model_letters) k_Model_step J K (n + 1) 152 L S M = ai_aload 0 153 (am_run (c_Model_step s_Model_say s_Model_isQuote s_Model_number s_Model_letters) k_Model_step J K n) K 152 L S M := by rfl
set_option maxRecDepth 20000 in
theorem r_Model_step_153 {s_Model_say : aS} {s_Model_isQuote : aS} {s_Model_number : aS} {s_Model_letters : aS} {J : aJ} {K : aR} {n : Nat} {L : aL} {S : List Value} {M : aM} : am_run (c_Model_step s_Model_say s_Model_isQuote s_Model_number s_Model_letters) k_Model_step J K (n + 1) 153 L S M = ai_getf 7 10 156 (am_run (c_Model_step s_Model_say s_Model_isQuote s_Model_number s_Model_letters) k_Model_step J K n) K 153 L S M := by rfl
set_option maxRecDepth 20000 in
theorem r_Model_step_156 {s_Model_say : aS} {s_Model_isQuote : aS} {s_Model_number : aS} {s_Model_letters : aS} {J : aJ} {K : aR} {n : Nat} {L : aL} {S : List Value} {M : aM} : am_run (c_Model_step s_Model_say s_Model_isQuote s_Model_number s_Model_letters) k_Model_step J K (n + 1) 156 L S M = ai_iload 3 157 (am_run (c_Model_step s_Model_say s_Model_isQuote s_Model_number s_Model_letters) k_Model_step J K n) K 156 L S M := by rfl
set_option maxRecDepth 20000 in
theorem r_Model_step_157 {s_Model_say : aS} {s_Model_isQuote : aS} {s_Model_number : aS} {s_Model_letters : aS} {J : aJ} {K : aR} {n : Nat} {L : aL} {S : List Value} {M : aM} : am_run (c_Model_step s_Model_say s_Model_isQuote s_Model_number s_Model_letters) k_Model_step J K (n + 1) 157 L S M = ai_iald 158 (am_run (c_Model_step s_Model_say s_Model_isQuote s_Model_number s_Model_letters) k_Model_step J K n) K 157 L S M := by rfl
set_option maxRecDepth 20000 in
theorem r_Model_step_158 {s_Model_say : aS} {s_Model_isQuote : aS} {s_Model_number : aS} {s_Model_letters : aS} {J : aJ} {K : aR} {n : Nat} {L : aL} {S : List Value} {M : aM} : am_run (c_Model_step s_Model_say s_Model_isQuote s_Model_number s_Model_letters) k_Model_step J K (n + 1) 158 L S M = ai_iald 159 (am_run (c_Model_step s_Model_say s_Model_isQuote s_Model_number s_Model_letters) k_Model_step J K n) K 158 L S M := by rfl
set_option maxRecDepth 20000 in
theorem r_Model_step_159 {s_Model_say : aS} {s_Model_isQuote : aS} {s_Model_number : aS} {s_Model_letters : aS} {J : aJ} {K : aR} {n : Nat} {L : aL} {S : List Value} {M : aM} : am_run (c_Model_step s_Model_say s_Model_isQuote s_Model_number s_Model_letters) k_Model_step J K (n + 1) 159 L S M = ai_iast 160 (am_run (c_Model_step s_Model_say s_Model_isQuote s_Model_number s_Model_letters) k_Model_step J K n) K 159 L S M := by rfl
set_option maxRecDepth 20000 in
theorem r_Model_step_160 {s_Model_say : aS} {s_Model_isQuote : aS} {s_Model_number : aS} {s_Model_letters : aS} {J : aJ} {K : aR} {n : Nat} {L : aL} {S : List Value} {M : aM} : am_run (c_Model_step s_Model_say s_Model_isQuote s_Model_number s_Model_letters) k_Model_step J K (n + 1) 160 L S M = ai_iload 2 161 (am_run (c_Model_step s_Model_say s_Model_isQuote s_Model_number s_Model_letters) k_Model_step J K n) K 160 L S M := by rfl
set_option maxRecDepth 20000 in
theorem r_Model_step_161 {s_Model_say : aS} {s_Model_isQuote : aS} {s_Model_number : aS} {s_Model_letters : aS} {J : aJ} {K : aR} {n : Nat} {L : aL} {S : List Value} {M : aM} : am_run (c_Model_step s_Model_say s_Model_isQuote s_Model_number s_Model_letters) k_Model_step J K (n + 1) 161 L S M = ai_const 1 162 (am_run (c_Model_step s_Model_say s_Model_isQuote s_Model_number s_Model_letters) k_Model_step J K n) K 161 L S M := by rfl
set_option maxRecDepth 20000 in
theorem r_Model_step_162 {s_Model_say : aS} {s_Model_isQuote : aS} {s_Model_number : aS} {s_Model_letters : aS} {J : aJ} {K : aR} {n : Nat} {L : aL} {S : List Value} {M : aM} : am_run (c_Model_step s_Model_say s_Model_isQuote s_Model_number s_Model_letters) k_Model_step J K (n + 1) 162 L S M = ai_iadd 163 (am_run (c_Model_step s_Model_say s_Model_isQuote s_Model_number s_Model_letters) k_Model_step J K n) K 162 L S M := by rfl
set_option maxRecDepth 20000 in
theorem r_Model_step_163 {s_Model_say : aS} {s_Model_isQuote : aS} {s_Model_number : aS} {s_Model_letters : aS} {J : aJ} {K : aR} {n : Nat} {L : aL} {S : List Value} {M : aM} : am_run (c_Model_step s_Model_say s_Model_isQuote s_Model_number s_Model_letters) k_Model_step J K (n + 1) 163 L S M = ai_iret (am_run (c_Model_step s_Model_say s_Model_isQuote s_Model_number s_Model_letters) k_Model_step J K n) K 163 L S M := by rfl
set_option maxRecDepth 20000 in
theorem r_Model_step_164 {s_Model_say : aS} {s_Model_isQuote : aS} {s_Model_number : aS} {s_Model_letters : aS} {J : aJ} {K : aR} {n : Nat} {L : aL} {S : List Value} {M : aM} : am_run (c_Model_step s_Model_say s_Model_isQuote s_Model_number s_Model_letters) k_Model_step J K (n + 1) 164 L S M = ai_aload 0 165 (am_run (c_Model_step s_Model_say s_Model_isQuote s_Model_number s_Model_letters) k_Model_step J K n) K 164 L S M := by rfl
set_option maxRecDepth 20000 in
theorem r_Model_step_165 {s_Model_say : aS} {s_Model_isQuote : aS} {s_Model_number : aS} {s_Model_letters : aS} {J : aJ} {K : aR} {n : Nat} {L : aL} {S : List Value} {M : aM} : am_run (c_Model_step s_Model_say s_Model_isQuote s_Model_number s_Model_letters) k_Model_step J K (n + 1) 165 L S M = ai_iload 4 167 (am_run (c_Model_step s_Model_say s_Model_isQuote s_Model_number s_Model_letters) k_Model_step J K n) K 165 L S M := by rfl
set_option maxRecDepth 20000 in
theorem r_Model_step_167 {s_Model_say : aS} {s_Model_isQuote : aS} {s_Model_number : aS} {s_Model_letters : aS} {J : aJ} {K : aR} {n : Nat} {L : aL} {S : List Value} {M : aM} : am_run (c_Model_step s_Model_say s_Model_isQuote s_Model_number s_Model_letters) k_Model_step J K (n + 1) 167 L S M = ai_ifeq 175 170 (am_run (c_Model_step s_Model_say s_Model_isQuote s_Model_number s_Model_letters) k_Model_step J K n) K 167 L S M := by rfl
set_option maxRecDepth 20000 in
theorem r_Model_step_170 {s_Model_say : aS} {s_Model_isQuote : aS} {s_Model_number : aS} {s_Model_letters : aS} {J : aJ} {K : aR} {n : Nat} {L : aL} {S : List Value} {M : aM} : am_run (c_Model_step s_Model_say s_Model_isQuote s_Model_number s_Model_letters) k_Model_step J K (n + 1) 170 L S M = ai_const 32 172 (am_run (c_Model_step s_Model_say s_Model_isQuote s_Model_number s_Model_letters) k_Model_step J K n) K 170 L S M := by rfl
set_option maxRecDepth 20000 in
theorem r_Model_step_172 {s_Model_say : aS} {s_Model_isQuote : aS} {s_Model_number : aS} {s_Model_letters : aS} {J : aJ} {K : aR} {n : Nat} {L : aL} {S : List Value} {M : aM} : am_run (c_Model_step s_Model_say s_Model_isQuote s_Model_number s_Model_letters) k_Model_step J K (n + 1) 172 L S M = ai_goto 177 (am_run (c_Model_step s_Model_say s_Model_isQuote s_Model_number s_Model_letters) k_Model_step J K n) K 172 L S M := by rfl
set_option maxRecDepth 20000 in
theorem r_Model_step_175 {s_Model_say : aS} {s_Model_isQuote : aS} {s_Model_number : aS} {s_Model_letters : aS} {J : aJ} {K : aR} {n : Nat} {L : aL} {S : List Value} {M : aM} : am_run (c_Model_step s_Model_say s_Model_isQuote s_Model_number s_Model_letters) k_Model_step J K (n + 1) 175 L S M = ai_const 40 177 (am_run (c_Model_step s_Model_say s_Model_isQuote s_Model_number s_Model_letters) k_Model_step J K n) K 175 L S M := by rfl
set_option maxRecDepth 20000 in
theorem r_Model_step_177 {s_Model_say : aS} {s_Model_isQuote : aS} {s_Model_number : aS} {s_Model_letters : aS} {J : aJ} {K : aR} {n : Nat} {L : aL} {S : List Value} {M : aM} : am_run (c_Model_step s_Model_say s_Model_isQuote s_Model_number s_Model_letters) k_Model_step J K (n + 1) 177 L S M = ai_callv2 7 s_Model_say 180 (am_run (c_Model_step s_Model_say s_Model_isQuote s_Model_number s_Model_letters) k_Model_step J K n) K 177 L S M := by rfl
set_option maxRecDepth 20000 in
theorem r_Model_step_180 {s_Model_say : aS} {s_Model_isQuote : aS} {s_Model_number : aS} {s_Model_letters : aS} {J : aJ} {K : aR} {n : Nat} {L : aL} {S : List Value} {M : aM} : am_run (c_Model_step s_Model_say s_Model_isQuote s_Model_number s_Model_letters) k_Model_step J K (n + 1) 180 L S M = ai_aload 0 181 (am_run (c_Model_step s_Model_say s_Model_isQuote s_Model_number s_Model_letters) k_Model_step J K n) K 180 L S M := by rfl
set_option maxRecDepth 20000 in
theorem r_Model_step_181 {s_Model_say : aS} {s_Model_isQuote : aS} {s_Model_number : aS} {s_Model_letters : aS} {J : aJ} {K : aR} {n : Nat} {L : aL} {S : List Value} {M : aM} : am_run (c_Model_step s_Model_say s_Model_isQuote s_Model_number s_Model_letters) k_Model_step J K (n + 1) 181 L S M = ai_getf 7 19 184 (am_run (c_Model_step s_Model_say s_Model_isQuote s_Model_number s_Model_letters) k_Model_step J K n) K 181 L S M := by rfl
set_option maxRecDepth 20000 in
theorem r_Model_step_184 {s_Model_say : aS} {s_Model_isQuote : aS} {s_Model_number : aS} {s_Model_letters : aS} {J : aJ} {K : aR} {n : Nat} {L : aL} {S : List Value} {M : aM} : am_run (c_Model_step s_Model_say s_Model_isQuote s_Model_number s_Model_letters) k_Model_step J K (n + 1) 184 L S M = ai_iload 2 185 (am_run (c_Model_step s_Model_say s_Model_isQuote s_Model_number s_Model_letters) k_Model_step J K n) K 184 L S M := by rfl
set_option maxRecDepth 20000 in
theorem r_Model_step_185 {s_Model_say : aS} {s_Model_isQuote : aS} {s_Model_number : aS} {s_Model_letters : aS} {J : aJ} {K : aR} {n : Nat} {L : aL} {S : List Value} {M : aM} : am_run (c_Model_step s_Model_say s_Model_isQuote s_Model_number s_Model_letters) k_Model_step J K (n + 1) 185 L S M = ai_const 1000 188 (am_run (c_Model_step s_Model_say s_Model_isQuote s_Model_number s_Model_letters) k_Model_step J K n) K 185 L S M := by rfl
set_option maxRecDepth 20000 in
theorem r_Model_step_188 {s_Model_say : aS} {s_Model_isQuote : aS} {s_Model_number : aS} {s_Model_letters : aS} {J : aJ} {K : aR} {n : Nat} {L : aL} {S : List Value} {M : aM} : am_run (c_Model_step s_Model_say s_Model_isQuote s_Model_number s_Model_letters) k_Model_step J K (n + 1) 188 L S M = ai_aload 0 189 (am_run (c_Model_step s_Model_say s_Model_isQuote s_Model_number s_Model_letters) k_Model_step J K n) K 188 L S M := by rfl
set_option maxRecDepth 20000 in
theorem r_Model_step_189 {s_Model_say : aS} {s_Model_isQuote : aS} {s_Model_number : aS} {s_Model_letters : aS} {J : aJ} {K : aR} {n : Nat} {L : aL} {S : List Value} {M : aM} : am_run (c_Model_step s_Model_say s_Model_isQuote s_Model_number s_Model_letters) k_Model_step J K (n + 1) 189 L S M = ai_getf 7 10 192 (am_run (c_Model_step s_Model_say s_Model_isQuote s_Model_number s_Model_letters) k_Model_step J K n) K 189 L S M := by rfl
set_option maxRecDepth 20000 in
theorem r_Model_step_192 {s_Model_say : aS} {s_Model_isQuote : aS} {s_Model_number : aS} {s_Model_letters : aS} {J : aJ} {K : aR} {n : Nat} {L : aL} {S : List Value} {M : aM} : am_run (c_Model_step s_Model_say s_Model_isQuote s_Model_number s_Model_letters) k_Model_step J K (n + 1) 192 L S M = ai_iload 3 193 (am_run (c_Model_step s_Model_say s_Model_isQuote s_Model_number s_Model_letters) k_Model_step J K n) K 192 L S M := by rfl
set_option maxRecDepth 20000 in
theorem r_Model_step_193 {s_Model_say : aS} {s_Model_isQuote : aS} {s_Model_number : aS} {s_Model_letters : aS} {J : aJ} {K : aR} {n : Nat} {L : aL} {S : List Value} {M : aM} : am_run (c_Model_step s_Model_say s_Model_isQuote s_Model_number s_Model_letters) k_Model_step J K (n + 1) 193 L S M = ai_iald 194 (am_run (c_Model_step s_Model_say s_Model_isQuote s_Model_number s_Model_letters) k_Model_step J K n) K 193 L S M := by rfl
set_option maxRecDepth 20000 in
theorem r_Model_step_194 {s_Model_say : aS} {s_Model_isQuote : aS} {s_Model_number : aS} {s_Model_letters : aS} {J : aJ} {K : aR} {n : Nat} {L : aL} {S : List Value} {M : aM} : am_run (c_Model_step s_Model_say s_Model_isQuote s_Model_number s_Model_letters) k_Model_step J K (n + 1) 194 L S M = ai_iadd 195 (am_run (c_Model_step s_Model_say s_Model_isQuote s_Model_number s_Model_letters) k_Model_step J K n) K 194 L S M := by rfl
set_option maxRecDepth 20000 in
theorem r_Model_step_195 {s_Model_say : aS} {s_Model_isQuote : aS} {s_Model_number : aS} {s_Model_letters : aS} {J : aJ} {K : aR} {n : Nat} {L : aL} {S : List Value} {M : aM} : am_run (c_Model_step s_Model_say s_Model_isQuote s_Model_number s_Model_letters) k_Model_step J K (n + 1) 195 L S M = ai_iast 196 (am_run (c_Model_step s_Model_say s_Model_isQuote s_Model_number s_Model_letters) k_Model_step J K n) K 195 L S M := by rfl
set_option maxRecDepth 20000 in
theorem r_Model_step_196 {s_Model_say : aS} {s_Model_isQuote : aS} {s_Model_number : aS} {s_Model_letters : aS} {J : aJ} {K : aR} {n : Nat} {L : aL} {S : List Value} {M : aM} : am_run (c_Model_step s_Model_say s_Model_isQuote s_Model_number s_Model_letters) k_Model_step J K (n + 1) 196 L S M = ai_aload 0 197 (am_run (c_Model_step s_Model_say s_Model_isQuote s_Model_number s_Model_letters) k_Model_step J K n) K 196 L S M := by rfl
set_option maxRecDepth 20000 in
theorem r_Model_step_197 {s_Model_say : aS} {s_Model_isQuote : aS} {s_Model_number : aS} {s_Model_letters : aS} {J : aJ} {K : aR} {n : Nat} {L : aL} {S : List Value} {M : aM} : am_run (c_Model_step s_Model_say s_Model_isQuote s_Model_number s_Model_letters) k_Model_step J K (n + 1) 197 L S M = ai_getf 7 19 200 (am_run (c_Model_step s_Model_say s_Model_isQuote s_Model_number s_Model_letters) k_Model_step J K n) K 197 L S M := by rfl
set_option maxRecDepth 20000 in
theorem r_Model_step_200 {s_Model_say : aS} {s_Model_isQuote : aS} {s_Model_number : aS} {s_Model_letters : aS} {J : aJ} {K : aR} {n : Nat} {L : aL} {S : List Value} {M : aM} : am_run (c_Model_step s_Model_say s_Model_isQuote s_Model_number s_Model_letters) k_Model_step J K (n + 1) 200 L S M = ai_iload 2 201 (am_run (c_Model_step s_Model_say s_Model_isQuote s_Model_number s_Model_letters) k_Model_step J K n) K 200 L S M := by rfl
set_option maxRecDepth 20000 in
theorem r_Model_step_201 {s_Model_say : aS} {s_Model_isQuote : aS} {s_Model_number : aS} {s_Model_letters : aS} {J : aJ} {K : aR} {n : Nat} {L : aL} {S : List Value} {M : aM} : am_run (c_Model_step s_Model_say s_Model_isQuote s_Model_number s_Model_letters) k_Model_step J K (n + 1) 201 L S M = ai_const 1 202 (am_run (c_Model_step s_Model_say s_Model_isQuote s_Model_number s_Model_letters) k_Model_step J K n) K 201 L S M := by rfl
set_option maxRecDepth 20000 in
theorem r_Model_step_202 {s_Model_say : aS} {s_Model_isQuote : aS} {s_Model_number : aS} {s_Model_letters : aS} {J : aJ} {K : aR} {n : Nat} {L : aL} {S : List Value} {M : aM} : am_run (c_Model_step s_Model_say s_Model_isQuote s_Model_number s_Model_letters) k_Model_step J K (n + 1) 202 L S M = ai_iadd 203 (am_run (c_Model_step s_Model_say s_Model_isQuote s_Model_number s_Model_letters) k_Model_step J K n) K 202 L S M := by rfl
set_option maxRecDepth 20000 in
theorem r_Model_step_203 {s_Model_say : aS} {s_Model_isQuote : aS} {s_Model_number : aS} {s_Model_letters : aS} {J : aJ} {K : aR} {n : Nat} {L : aL} {S : List Value} {M : aM} : am_run (c_Model_step s_Model_say s_Model_isQuote s_Model_number s_Model_letters) k_Model_step J K (n + 1) 203 L S M = ai_aload 0 204 (am_run (c_Model_step s_Model_say s_Model_isQuote s_Model_number s_Model_letters) k_Model_step J K n) K 203 L S M := by rfl
set_option maxRecDepth 20000 in
theorem r_Model_step_204 {s_Model_say : aS} {s_Model_isQuote : aS} {s_Model_number : aS} {s_Model_letters : aS} {J : aJ} {K : aR} {n : Nat} {L : aL} {S : List Value} {M : aM} : am_run (c_Model_step s_Model_say s_Model_isQuote s_Model_number s_Model_letters) k_Model_step J K (n + 1) 204 L S M = ai_getf 7 9 207 (am_run (c_Model_step s_Model_say s_Model_isQuote s_Model_number s_Model_letters) k_Model_step J K n) K 204 L S M := by rfl
set_option maxRecDepth 20000 in
theorem r_Model_step_207 {s_Model_say : aS} {s_Model_isQuote : aS} {s_Model_number : aS} {s_Model_letters : aS} {J : aJ} {K : aR} {n : Nat} {L : aL} {S : List Value} {M : aM} : am_run (c_Model_step s_Model_say s_Model_isQuote s_Model_number s_Model_letters) k_Model_step J K (n + 1) 207 L S M = ai_iload 3 208 (am_run (c_Model_step s_Model_say s_Model_isQuote s_Model_number s_Model_letters) k_Model_step J K n) K 207 L S M := by rfl
set_option maxRecDepth 20000 in
theorem r_Model_step_208 {s_Model_say : aS} {s_Model_isQuote : aS} {s_Model_number : aS} {s_Model_letters : aS} {J : aJ} {K : aR} {n : Nat} {L : aL} {S : List Value} {M : aM} : am_run (c_Model_step s_Model_say s_Model_isQuote s_Model_number s_Model_letters) k_Model_step J K (n + 1) 208 L S M = ai_iald 209 (am_run (c_Model_step s_Model_say s_Model_isQuote s_Model_number s_Model_letters) k_Model_step J K n) K 208 L S M := by rfl
set_option maxRecDepth 20000 in
theorem r_Model_step_209 {s_Model_say : aS} {s_Model_isQuote : aS} {s_Model_number : aS} {s_Model_letters : aS} {J : aJ} {K : aR} {n : Nat} {L : aL} {S : List Value} {M : aM} : am_run (c_Model_step s_Model_say s_Model_isQuote s_Model_number s_Model_letters) k_Model_step J K (n + 1) 209 L S M = ai_iast 210 (am_run (c_Model_step s_Model_say s_Model_isQuote s_Model_number s_Model_letters) k_Model_step J K n) K 209 L S M := by rfl
set_option maxRecDepth 20000 in
theorem r_Model_step_210 {s_Model_say : aS} {s_Model_isQuote : aS} {s_Model_number : aS} {s_Model_letters : aS} {J : aJ} {K : aR} {n : Nat} {L : aL} {S : List Value} {M : aM} : am_run (c_Model_step s_Model_say s_Model_isQuote s_Model_number s_Model_letters) k_Model_step J K (n + 1) 210 L S M = ai_iload 2 211 (am_run (c_Model_step s_Model_say s_Model_isQuote s_Model_number s_Model_letters) k_Model_step J K n) K 210 L S M := by rfl
set_option maxRecDepth 20000 in
theorem r_Model_step_211 {s_Model_say : aS} {s_Model_isQuote : aS} {s_Model_number : aS} {s_Model_letters : aS} {J : aJ} {K : aR} {n : Nat} {L : aL} {S : List Value} {M : aM} : am_run (c_Model_step s_Model_say s_Model_isQuote s_Model_number s_Model_letters) k_Model_step J K (n + 1) 211 L S M = ai_const 2 212 (am_run (c_Model_step s_Model_say s_Model_isQuote s_Model_number s_Model_letters) k_Model_step J K n) K 211 L S M := by rfl
set_option maxRecDepth 20000 in
theorem r_Model_step_212 {s_Model_say : aS} {s_Model_isQuote : aS} {s_Model_number : aS} {s_Model_letters : aS} {J : aJ} {K : aR} {n : Nat} {L : aL} {S : List Value} {M : aM} : am_run (c_Model_step s_Model_say s_Model_isQuote s_Model_number s_Model_letters) k_Model_step J K (n + 1) 212 L S M = ai_iadd 213 (am_run (c_Model_step s_Model_say s_Model_isQuote s_Model_number s_Model_letters) k_Model_step J K n) K 212 L S M := by rfl
set_option maxRecDepth 20000 in
theorem r_Model_step_213 {s_Model_say : aS} {s_Model_isQuote : aS} {s_Model_number : aS} {s_Model_letters : aS} {J : aJ} {K : aR} {n : Nat} {L : aL} {S : List Value} {M : aM} : am_run (c_Model_step s_Model_say s_Model_isQuote s_Model_number s_Model_letters) k_Model_step J K (n + 1) 213 L S M = ai_iret (am_run (c_Model_step s_Model_say s_Model_isQuote s_Model_number s_Model_letters) k_Model_step J K n) K 213 L S M := by rfl
set_option maxRecDepth 20000 in
theorem r_Model_step_214 {s_Model_say : aS} {s_Model_isQuote : aS} {s_Model_number : aS} {s_Model_letters : aS} {J : aJ} {K : aR} {n : Nat} {L : aL} {S : List Value} {M : aM} : am_run (c_Model_step s_Model_say s_Model_isQuote s_Model_number s_Model_letters) k_Model_step J K (n + 1) 214 L S M = ai_aload 0 215 (am_run (c_Model_step s_Model_say s_Model_isQuote s_Model_number s_Model_letters) k_Model_step J K n) K 214 L S M := by rfl
set_option maxRecDepth 20000 in
theorem r_Model_step_215 {s_Model_say : aS} {s_Model_isQuote : aS} {s_Model_number : aS} {s_Model_letters : aS} {J : aJ} {K : aR} {n : Nat} {L : aL} {S : List Value} {M : aM} : am_run (c_Model_step s_Model_say s_Model_isQuote s_Model_number s_Model_letters) k_Model_step J K (n + 1) 215 L S M = ai_getf 7 6 218 (am_run (c_Model_step s_Model_say s_Model_isQuote s_Model_number s_Model_letters) k_Model_step J K n) K 215 L S M := by rfl
set_option maxRecDepth 20000 in
theorem r_Model_step_218 {s_Model_say : aS} {s_Model_isQuote : aS} {s_Model_number : aS} {s_Model_letters : aS} {J : aJ} {K : aR} {n : Nat} {L : aL} {S : List Value} {M : aM} : am_run (c_Model_step s_Model_say s_Model_isQuote s_Model_number s_Model_letters) k_Model_step J K (n + 1) 218 L S M = ai_iload 3 219 (am_run (c_Model_step s_Model_say s_Model_isQuote s_Model_number s_Model_letters) k_Model_step J K n) K 218 L S M := by rfl
set_option maxRecDepth 20000 in
theorem r_Model_step_219 {s_Model_say : aS} {s_Model_isQuote : aS} {s_Model_number : aS} {s_Model_letters : aS} {J : aJ} {K : aR} {n : Nat} {L : aL} {S : List Value} {M : aM} : am_run (c_Model_step s_Model_say s_Model_isQuote s_Model_number s_Model_letters) k_Model_step J K (n + 1) 219 L S M = ai_iald 220 (am_run (c_Model_step s_Model_say s_Model_isQuote s_Model_number s_Model_letters) k_Model_step J K n) K 219 L S M := by rfl
set_option maxRecDepth 20000 in
theorem r_Model_step_220 {s_Model_say : aS} {s_Model_isQuote : aS} {s_Model_number : aS} {s_Model_letters : aS} {J : aJ} {K : aR} {n : Nat} {L : aL} {S : List Value} {M : aM} : am_run (c_Model_step s_Model_say s_Model_isQuote s_Model_number s_Model_letters) k_Model_step J K (n + 1) 220 L S M = ai_const 5 221 (am_run (c_Model_step s_Model_say s_Model_isQuote s_Model_number s_Model_letters) k_Model_step J K n) K 220 L S M := by rfl
set_option maxRecDepth 20000 in
theorem r_Model_step_221 {s_Model_say : aS} {s_Model_isQuote : aS} {s_Model_number : aS} {s_Model_letters : aS} {J : aJ} {K : aR} {n : Nat} {L : aL} {S : List Value} {M : aM} : am_run (c_Model_step s_Model_say s_Model_isQuote s_Model_number s_Model_letters) k_Model_step J K (n + 1) 221 L S M = ai_cmpne 239 224 (am_run (c_Model_step s_Model_say s_Model_isQuote s_Model_number s_Model_letters) k_Model_step J K n) K 221 L S M := by rfl
set_option maxRecDepth 20000 in
theorem r_Model_step_224 {s_Model_say : aS} {s_Model_isQuote : aS} {s_Model_number : aS} {s_Model_letters : aS} {J : aJ} {K : aR} {n : Nat} {L : aL} {S : List Value} {M : aM} : am_run (c_Model_step s_Model_say s_Model_isQuote s_Model_number s_Model_letters) k_Model_step J K (n + 1) 224 L S M = ai_aload 0 225 (am_run (c_Model_step s_Model_say s_Model_isQuote s_Model_number s_Model_letters) k_Model_step J K n) K 224 L S M := by rfl
set_option maxRecDepth 20000 in
theorem r_Model_step_225 {s_Model_say : aS} {s_Model_isQuote : aS} {s_Model_number : aS} {s_Model_letters : aS} {J : aJ} {K : aR} {n : Nat} {L : aL} {S : List Value} {M : aM} : am_run (c_Model_step s_Model_say s_Model_isQuote s_Model_number s_Model_letters) k_Model_step J K (n + 1) 225 L S M = ai_const 40 227 (am_run (c_Model_step s_Model_say s_Model_isQuote s_Model_number s_Model_letters) k_Model_step J K n) K 225 L S M := by rfl
set_option maxRecDepth 20000 in
theorem r_Model_step_227 {s_Model_say : aS} {s_Model_isQuote : aS} {s_Model_number : aS} {s_Model_letters : aS} {J : aJ} {K : aR} {n : Nat} {L : aL} {S : List Value} {M : aM} : am_run (c_Model_step s_Model_say s_Model_isQuote s_Model_number s_Model_letters) k_Model_step J K (n + 1) 227 L S M = ai_callv2 7 s_Model_say 230 (am_run (c_Model_step s_Model_say s_Model_isQuote s_Model_number s_Model_letters) k_Model_step J K n) K 227 L S M := by rfl
set_option maxRecDepth 20000 in
theorem r_Model_step_230 {s_Model_say : aS} {s_Model_isQuote : aS} {s_Model_number : aS} {s_Model_letters : aS} {J : aJ} {K : aR} {n : Nat} {L : aL} {S : List Value} {M : aM} : am_run (c_Model_step s_Model_say s_Model_isQuote s_Model_number s_Model_letters) k_Model_step J K (n + 1) 230 L S M = ai_aload 0 231 (am_run (c_Model_step s_Model_say s_Model_isQuote s_Model_number s_Model_letters) k_Model_step J K n) K 230 L S M := by rfl
set_option maxRecDepth 20000 in
theorem r_Model_step_231 {s_Model_say : aS} {s_Model_isQuote : aS} {s_Model_number : aS} {s_Model_letters : aS} {J : aJ} {K : aR} {n : Nat} {L : aL} {S : List Value} {M : aM} : am_run (c_Model_step s_Model_say s_Model_isQuote s_Model_number s_Model_letters) k_Model_step J K (n + 1) 231 L S M = ai_const 41 233 (am_run (c_Model_step s_Model_say s_Model_isQuote s_Model_number s_Model_letters) k_Model_step J K n) K 231 L S M := by rfl
set_option maxRecDepth 20000 in
theorem r_Model_step_233 {s_Model_say : aS} {s_Model_isQuote : aS} {s_Model_number : aS} {s_Model_letters : aS} {J : aJ} {K : aR} {n : Nat} {L : aL} {S : List Value} {M : aM} : am_run (c_Model_step s_Model_say s_Model_isQuote s_Model_number s_Model_letters) k_Model_step J K (n + 1) 233 L S M = ai_callv2 7 s_Model_say 236 (am_run (c_Model_step s_Model_say s_Model_isQuote s_Model_number s_Model_letters) k_Model_step J K n) K 233 L S M := by rfl
set_option maxRecDepth 20000 in
theorem r_Model_step_236 {s_Model_say : aS} {s_Model_isQuote : aS} {s_Model_number : aS} {s_Model_letters : aS} {J : aJ} {K : aR} {n : Nat} {L : aL} {S : List Value} {M : aM} : am_run (c_Model_step s_Model_say s_Model_isQuote s_Model_number s_Model_letters) k_Model_step J K (n + 1) 236 L S M = ai_goto 267 (am_run (c_Model_step s_Model_say s_Model_isQuote s_Model_number s_Model_letters) k_Model_step J K n) K 236 L S M := by rfl
set_option maxRecDepth 20000 in
theorem r_Model_step_239 {s_Model_say : aS} {s_Model_isQuote : aS} {s_Model_number : aS} {s_Model_letters : aS} {J : aJ} {K : aR} {n : Nat} {L : aL} {S : List Value} {M : aM} : am_run (c_Model_step s_Model_say s_Model_isQuote s_Model_number s_Model_letters) k_Model_step J K (n + 1) 239 L S M = ai_aload 0 240 (am_run (c_Model_step s_Model_say s_Model_isQuote s_Model_number s_Model_letters) k_Model_step J K n) K 239 L S M := by rfl
set_option maxRecDepth 20000 in
theorem r_Model_step_240 {s_Model_say : aS} {s_Model_isQuote : aS} {s_Model_number : aS} {s_Model_letters : aS} {J : aJ} {K : aR} {n : Nat} {L : aL} {S : List Value} {M : aM} : am_run (c_Model_step s_Model_say s_Model_isQuote s_Model_number s_Model_letters) k_Model_step J K (n + 1) 240 L S M = ai_getf 7 6 243 (am_run (c_Model_step s_Model_say s_Model_isQuote s_Model_number s_Model_letters) k_Model_step J K n) K 240 L S M := by rfl
set_option maxRecDepth 20000 in
theorem r_Model_step_243 {s_Model_say : aS} {s_Model_isQuote : aS} {s_Model_number : aS} {s_Model_letters : aS} {J : aJ} {K : aR} {n : Nat} {L : aL} {S : List Value} {M : aM} : am_run (c_Model_step s_Model_say s_Model_isQuote s_Model_number s_Model_letters) k_Model_step J K (n + 1) 243 L S M = ai_iload 3 244 (am_run (c_Model_step s_Model_say s_Model_isQuote s_Model_number s_Model_letters) k_Model_step J K n) K 243 L S M := by rfl
set_option maxRecDepth 20000 in
theorem r_Model_step_244 {s_Model_say : aS} {s_Model_isQuote : aS} {s_Model_number : aS} {s_Model_letters : aS} {J : aJ} {K : aR} {n : Nat} {L : aL} {S : List Value} {M : aM} : am_run (c_Model_step s_Model_say s_Model_isQuote s_Model_number s_Model_letters) k_Model_step J K (n + 1) 244 L S M = ai_iald 245 (am_run (c_Model_step s_Model_say s_Model_isQuote s_Model_number s_Model_letters) k_Model_step J K n) K 244 L S M := by rfl
set_option maxRecDepth 20000 in
theorem r_Model_step_245 {s_Model_say : aS} {s_Model_isQuote : aS} {s_Model_number : aS} {s_Model_letters : aS} {J : aJ} {K : aR} {n : Nat} {L : aL} {S : List Value} {M : aM} : am_run (c_Model_step s_Model_say s_Model_isQuote s_Model_number s_Model_letters) k_Model_step J K (n + 1) 245 L S M = ai_const 1 246 (am_run (c_Model_step s_Model_say s_Model_isQuote s_Model_number s_Model_letters) k_Model_step J K n) K 245 L S M := by rfl
set_option maxRecDepth 20000 in
theorem r_Model_step_246 {s_Model_say : aS} {s_Model_isQuote : aS} {s_Model_number : aS} {s_Model_letters : aS} {J : aJ} {K : aR} {n : Nat} {L : aL} {S : List Value} {M : aM} : am_run (c_Model_step s_Model_say s_Model_isQuote s_Model_number s_Model_letters) k_Model_step J K (n + 1) 246 L S M = ai_cmpne 262 249 (am_run (c_Model_step s_Model_say s_Model_isQuote s_Model_number s_Model_letters) k_Model_step J K n) K 246 L S M := by rfl
set_option maxRecDepth 20000 in
theorem r_Model_step_249 {s_Model_say : aS} {s_Model_isQuote : aS} {s_Model_number : aS} {s_Model_letters : aS} {J : aJ} {K : aR} {n : Nat} {L : aL} {S : List Value} {M : aM} : am_run (c_Model_step s_Model_say s_Model_isQuote s_Model_number s_Model_letters) k_Model_step J K (n + 1) 249 L S M = ai_aload 0 250 (am_run (c_Model_step s_Model_say s_Model_isQuote s_Model_number s_Model_letters) k_Model_step J K n) K 249 L S M := by rfl
set_option maxRecDepth 20000 in
theorem r_Model_step_250 {s_Model_say : aS} {s_Model_isQuote : aS} {s_Model_number : aS} {s_Model_letters : aS} {J : aJ} {K : aR} {n : Nat} {L : aL} {S : List Value} {M : aM} : am_run (c_Model_step s_Model_say s_Model_isQuote s_Model_number s_Model_letters) k_Model_step J K (n + 1) 250 L S M = ai_aload 0 251 (am_run (c_Model_step s_Model_say s_Model_isQuote s_Model_number s_Model_letters) k_Model_step J K n) K 250 L S M := by rfl
set_option maxRecDepth 20000 in
theorem r_Model_step_251 {s_Model_say : aS} {s_Model_isQuote : aS} {s_Model_number : aS} {s_Model_letters : aS} {J : aJ} {K : aR} {n : Nat} {L : aL} {S : List Value} {M : aM} : am_run (c_Model_step s_Model_say s_Model_isQuote s_Model_number s_Model_letters) k_Model_step J K (n + 1) 251 L S M = ai_getf 7 7 254 (am_run (c_Model_step s_Model_say s_Model_isQuote s_Model_number s_Model_letters) k_Model_step J K n) K 251 L S M := by rfl
set_option maxRecDepth 20000 in
theorem r_Model_step_254 {s_Model_say : aS} {s_Model_isQuote : aS} {s_Model_number : aS} {s_Model_letters : aS} {J : aJ} {K : aR} {n : Nat} {L : aL} {S : List Value} {M : aM} : am_run (c_Model_step s_Model_say s_Model_isQuote s_Model_number s_Model_letters) k_Model_step J K (n + 1) 254 L S M = ai_iload 3 255 (am_run (c_Model_step s_Model_say s_Model_isQuote s_Model_number s_Model_letters) k_Model_step J K n) K 254 L S M := by rfl
set_option maxRecDepth 20000 in
theorem r_Model_step_255 {s_Model_say : aS} {s_Model_isQuote : aS} {s_Model_number : aS} {s_Model_letters : aS} {J : aJ} {K : aR} {n : Nat} {L : aL} {S : List Value} {M : aM} : am_run (c_Model_step s_Model_say s_Model_isQuote s_Model_number s_Model_letters) k_Model_step J K (n + 1) 255 L S M = ai_iald 256 (am_run (c_Model_step s_Model_say s_Model_isQuote s_Model_number s_Model_letters) k_Model_step J K n) K 255 L S M := by rfl
set_option maxRecDepth 20000 in
theorem r_Model_step_256 {s_Model_say : aS} {s_Model_isQuote : aS} {s_Model_number : aS} {s_Model_letters : aS} {J : aJ} {K : aR} {n : Nat} {L : aL} {S : List Value} {M : aM} : am_run (c_Model_step s_Model_say s_Model_isQuote s_Model_number s_Model_letters) k_Model_step J K (n + 1) 256 L S M = ai_callv2 7 s_Model_number 259 (am_run (c_Model_step s_Model_say s_Model_isQuote s_Model_number s_Model_letters) k_Model_step J K n) K 256 L S M := by rfl
set_option maxRecDepth 20000 in
theorem r_Model_step_259 {s_Model_say : aS} {s_Model_isQuote : aS} {s_Model_number : aS} {s_Model_letters : aS} {J : aJ} {K : aR} {n : Nat} {L : aL} {S : List Value} {M : aM} : am_run (c_Model_step s_Model_say s_Model_isQuote s_Model_number s_Model_letters) k_Model_step J K (n + 1) 259 L S M = ai_goto 267 (am_run (c_Model_step s_Model_say s_Model_isQuote s_Model_number s_Model_letters) k_Model_step J K n) K 259 L S M := by rfl
set_option maxRecDepth 20000 in
theorem r_Model_step_262 {s_Model_say : aS} {s_Model_isQuote : aS} {s_Model_number : aS} {s_Model_letters : aS} {J : aJ} {K : aR} {n : Nat} {L : aL} {S : List Value} {M : aM} : am_run (c_Model_step s_Model_say s_Model_isQuote s_Model_number s_Model_letters) k_Model_step J K (n + 1) 262 L S M = ai_aload 0 263 (am_run (c_Model_step s_Model_say s_Model_isQuote s_Model_number s_Model_letters) k_Model_step J K n) K 262 L S M := by rfl
set_option maxRecDepth 20000 in
theorem r_Model_step_263 {s_Model_say : aS} {s_Model_isQuote : aS} {s_Model_number : aS} {s_Model_letters : aS} {J : aJ} {K : aR} {n : Nat} {L : aL} {S : List Value} {M : aM} : am_run (c_Model_step s_Model_say s_Model_isQuote s_Model_number s_Model_letters) k_Model_step J K (n + 1) 263 L S M = ai_iload 3 264 (am_run (c_Model_step s_Model_say s_Model_isQuote s_Model_number s_Model_letters) k_Model_step J K n) K 263 L S M := by rfl
set_option maxRecDepth 20000 in
theorem r_Model_step_264 {s_Model_say : aS} {s_Model_isQuote : aS} {s_Model_number : aS} {s_Model_letters : aS} {J : aJ} {K : aR} {n : Nat} {L : aL} {S : List Value} {M : aM} : am_run (c_Model_step s_Model_say s_Model_isQuote s_Model_number s_Model_letters) k_Model_step J K (n + 1) 264 L S M = ai_callv2 7 s_Model_letters 267 (am_run (c_Model_step s_Model_say s_Model_isQuote s_Model_number s_Model_letters) k_Model_step J K n) K 264 L S M := by rfl
set_option maxRecDepth 20000 in
theorem r_Model_step_267 {s_Model_say : aS} {s_Model_isQuote : aS} {s_Model_number : aS} {s_Model_letters : aS} {J : aJ} {K : aR} {n : Nat} {L : aL} {S : List Value} {M : aM} : am_run (c_Model_step s_Model_say s_Model_isQuote s_Model_number s_Model_letters) k_Model_step J K (n + 1) 267 L S M = ai_iload 2 268 (am_run (c_Model_step s_Model_say s_Model_isQuote s_Model_number s_Model_letters) k_Model_step J K n) K 267 L S M := by rfl
set_option maxRecDepth 20000 in
theorem r_Model_step_268 {s_Model_say : aS} {s_Model_isQuote : aS} {s_Model_number : aS} {s_Model_letters : aS} {J : aJ} {K : aR} {n : Nat} {L : aL} {S : List Value} {M : aM} : am_run (c_Model_step s_Model_say s_Model_isQuote s_Model_number s_Model_letters) k_Model_step J K (n + 1) 268 L S M = ai_iret (am_run (c_Model_step s_Model_say s_Model_isQuote s_Model_number s_Model_letters) k_Model_step J K n) K 268 L S M := by rfl
def c_Model_write (s_Model_isNode : aS) (s_Model_step : aS) : List (Nat × aI) := [
  (0, ai_aload 0 1),
  (1, ai_iload 1 2),
  (2, ai_callv2 7 s_Model_isNode 5),
  (5, ai_ifne 10 8),
  (8, ai_const 0 9),
  (9, ai_zret),
  (10, ai_aload 0 11),
  (11, ai_getf 7 19 14),
  (14, ai_const 0 15),
  (15, ai_iload 1 16),
  (16, ai_iast 17),
  (17, ai_const 1 18),
  (18, ai_istore 2 19),
  (19, ai_iload 2 20),
  (20, ai_ifle 42 23),
  (23, ai_aload 0 24),
  (24, ai_aload 0 25),
  (25, ai_getf 7 19 28),
  (28, ai_iload 2 29),
  (29, ai_const 1 30),
  (30, ai_isub 31),
  (31, ai_iald 32),
  (32, ai_iload 2 33),
  (33, ai_const 1 34),
  (34, ai_isub 35),
  (35, ai_callv3 7 s_Model_step 38),
  (38, ai_istore 2 39),
  (39, ai_goto 19),
  (42, ai_const 1 43),
  (43, ai_zret)]
set_option maxRecDepth 100000 in
set_option maxHeartbeats 4000000 in
theorem tb_Model_write {G : aG} {d : Nat} {s_Model_isNode : aS} {d_Model_isNode : Nat} (h_Model_isNode : am_Sp G Y_Model_isNode d_Model_isNode s_Model_isNode) (l_Model_isNode : d_Model_isNode < d) {s_Model_step : aS} {d_Model_step : Nat} (h_Model_step : am_Sp G Y_Model_step d_Model_step s_Model_step) (l_Model_step : d_Model_step < d) : am_tab G Y_Model_write d (c_Model_write s_Model_isNode s_Model_step) := by
  intro K p e s m args below meth c C
  exact ⟨as_aload_n C (pc := 0) (q := 0) (by decide +kernel) rfl rfl,
    as_iload_n C (pc := 1) (q := 1) (by decide +kernel) rfl rfl,
    as_callv2 C (pc := 2) h_Model_isNode (T := T_Model) (N := 21) rfl w_703 w_78 w_702 w_62 w_700 hy_Model_isNode (am_rm_of l_Model_isNode (by decide)) (by decide +kernel) rfl,
    as_ifne C (pc := 5) (off := 5) (by decide +kernel) (by decide) rfl,
    as_iconst C (pc := 8) (n := 0) (by decide +kernel) (by decide +kernel) rfl,
    as_zret C (pc := 9) rfl (by decide +kernel),
    as_aload_n C (pc := 10) (q := 0) (by decide +kernel) rfl rfl,
    as_getf C (pc := 11) (T := T_Model) (N := 21) rfl in_Model (by decide) rfl w_536 (by decide +kernel) rfl,
    as_iconst C (pc := 14) (n := 0) (by decide +kernel) (by decide +kernel) rfl,
    as_iload_n C (pc := 15) (q := 1) (by decide +kernel) rfl rfl,
    as_iast C (pc := 16) (by decide +kernel) rfl,
    as_iconst C (pc := 17) (n := 1) (by decide +kernel) (by decide +kernel) rfl,
    as_istore_n C (pc := 18) (q := 2) (by decide +kernel) rfl (by decide) rfl,
    as_iload_n C (pc := 19) (q := 2) (by decide +kernel) rfl rfl,
    as_ifle C (pc := 20) (off := 22) (by decide +kernel) (by decide) rfl,
    as_aload_n C (pc := 23) (q := 0) (by decide +kernel) rfl rfl,
    as_aload_n C (pc := 24) (q := 0) (by decide +kernel) rfl rfl,
    as_getf C (pc := 25) (T := T_Model) (N := 21) rfl in_Model (by decide) rfl w_536 (by decide +kernel) rfl,
    as_iload_n C (pc := 28) (q := 2) (by decide +kernel) rfl rfl,
    as_iconst C (pc := 29) (n := 1) (by decide +kernel) (by decide +kernel) rfl,
    as_isub C (pc := 30) (by decide +kernel) rfl,
    as_iald C (pc := 31) (by decide +kernel) rfl,
    as_iload_n C (pc := 32) (q := 2) (by decide +kernel) rfl rfl,
    as_iconst C (pc := 33) (n := 1) (by decide +kernel) (by decide +kernel) rfl,
    as_isub C (pc := 34) (by decide +kernel) rfl,
    as_callv3 C (pc := 35) h_Model_step (T := T_Model) (N := 21) rfl w_731 w_78 w_730 w_64 w_728 hy_Model_step (am_rm_of l_Model_step (by decide)) (by decide +kernel) rfl,
    as_istore_n C (pc := 38) (q := 2) (by decide +kernel) rfl (by decide) rfl,
    as_goto C (pc := 39) (off := (-20)) (by decide +kernel) (by decide),
    as_iconst C (pc := 42) (n := 1) (by decide +kernel) (by decide +kernel) rfl,
    as_zret C (pc := 43) rfl (by decide +kernel), trivial⟩
abbrev k_Model_write : List Nat := [19]
theorem q_Model_write_19 {s_Model_isNode : aS} {s_Model_step : aS} : am_at (c_Model_write s_Model_isNode s_Model_step) 19 = ai_iload 2 20 := by rfl
theorem r_Model_write_0 {s_Model_isNode : aS} {s_Model_step : aS} {J : aJ} {K : aR} {n : Nat} {L : aL} {S : List Value} {M : aM} : am_run (c_Model_write s_Model_isNode s_Model_step) k_Model_write J K (n + 1) 0 L S M = ai_aload 0 1 (am_run (c_Model_write s_Model_isNode s_Model_step) k_Model_write J K n) K 0 L S M := by rfl
theorem r_Model_write_1 {s_Model_isNode : aS} {s_Model_step : aS} {J : aJ} {K : aR} {n : Nat} {L : aL} {S : List Value} {M : aM} : am_run (c_Model_write s_Model_isNode s_Model_step) k_Model_write J K (n + 1) 1 L S M = ai_iload 1 2 (am_run (c_Model_write s_Model_isNode s_Model_step) k_Model_write J K n) K 1 L S M := by rfl
theorem r_Model_write_2 {s_Model_isNode : aS} {s_Model_step : aS} {J : aJ} {K : aR} {n : Nat} {L : aL} {S : List Value} {M : aM} : am_run (c_Model_write s_Model_isNode s_Model_step) k_Model_write J K (n + 1) 2 L S M = ai_callv2 7 s_Model_isNode 5 (am_run (c_Model_write s_Model_isNode s_Model_step) k_Model_write J K n) K 2 L S M := by rfl
theorem r_Model_write_5 {s_Model_isNode : aS} {s_Model_step : aS} {J : aJ} {K : aR} {n : Nat} {L : aL} {S : List Value} {M : aM} : am_run (c_Model_write s_Model_isNode s_Model_step) k_Model_write J K (n + 1) 5 L S M = ai_ifne 10 8 (am_run (c_Model_write s_Model_isNode s_Model_step) k_Model_write J K n) K 5 L S M := by rfl
theorem r_Model_write_8 {s_Model_isNode : aS} {s_Model_step : aS} {J : aJ} {K : aR} {n : Nat} {L : aL} {S : List Value} {M : aM} : am_run (c_Model_write s_Model_isNode s_Model_step) k_Model_write J K (n + 1) 8 L S M = ai_const 0 9 (am_run (c_Model_write s_Model_isNode s_Model_step) k_Model_write J K n) K 8 L S M := by rfl
theorem r_Model_write_9 {s_Model_isNode : aS} {s_Model_step : aS} {J : aJ} {K : aR} {n : Nat} {L : aL} {S : List Value} {M : aM} : am_run (c_Model_write s_Model_isNode s_Model_step) k_Model_write J K (n + 1) 9 L S M = ai_zret (am_run (c_Model_write s_Model_isNode s_Model_step) k_Model_write J K n) K 9 L S M := by rfl
theorem r_Model_write_10 {s_Model_isNode : aS} {s_Model_step : aS} {J : aJ} {K : aR} {n : Nat} {L : aL} {S : List Value} {M : aM} : am_run (c_Model_write s_Model_isNode s_Model_step) k_Model_write J K (n + 1) 10 L S M = ai_aload 0 11 (am_run (c_Model_write s_Model_isNode s_Model_step) k_Model_write J K n) K 10 L S M := by rfl
theorem r_Model_write_11 {s_Model_isNode : aS} {s_Model_step : aS} {J : aJ} {K : aR} {n : Nat} {L : aL} {S : List Value} {M : aM} : am_run (c_Model_write s_Model_isNode s_Model_step) k_Model_write J K (n + 1) 11 L S M = ai_getf 7 19 14 (am_run (c_Model_write s_Model_isNode s_Model_step) k_Model_write J K n) K 11 L S M := by rfl
theorem r_Model_write_14 {s_Model_isNode : aS} {s_Model_step : aS} {J : aJ} {K : aR} {n : Nat} {L : aL} {S : List Value} {M : aM} : am_run (c_Model_write s_Model_isNode s_Model_step) k_Model_write J K (n + 1) 14 L S M = ai_const 0 15 (am_run (c_Model_write s_Model_isNode s_Model_step) k_Model_write J K n) K 14 L S M := by rfl
theorem r_Model_write_15 {s_Model_isNode : aS} {s_Model_step : aS} {J : aJ} {K : aR} {n : Nat} {L : aL} {S : List Value} {M : aM} : am_run (c_Model_write s_Model_isNode s_Model_step) k_Model_write J K (n + 1) 15 L S M = ai_iload 1 16 (am_run (c_Model_write s_Model_isNode s_Model_step) k_Model_write J K n) K 15 L S M := by rfl
theorem r_Model_write_16 {s_Model_isNode : aS} {s_Model_step : aS} {J : aJ} {K : aR} {n : Nat} {L : aL} {S : List Value} {M : aM} : am_run (c_Model_write s_Model_isNode s_Model_step) k_Model_write J K (n + 1) 16 L S M = ai_iast 17 (am_run (c_Model_write s_Model_isNode s_Model_step) k_Model_write J K n) K 16 L S M := by rfl
theorem r_Model_write_17 {s_Model_isNode : aS} {s_Model_step : aS} {J : aJ} {K : aR} {n : Nat} {L : aL} {S : List Value} {M : aM} : am_run (c_Model_write s_Model_isNode s_Model_step) k_Model_write J K (n + 1) 17 L S M = ai_const 1 18 (am_run (c_Model_write s_Model_isNode s_Model_step) k_Model_write J K n) K 17 L S M := by rfl
theorem r_Model_write_18 {s_Model_isNode : aS} {s_Model_step : aS} {J : aJ} {K : aR} {n : Nat} {L : aL} {S : List Value} {M : aM} : am_run (c_Model_write s_Model_isNode s_Model_step) k_Model_write J K (n + 1) 18 L S M = ai_istore 2 19 (am_run (c_Model_write s_Model_isNode s_Model_step) k_Model_write J K n) K 18 L S M := by rfl
theorem r_Model_write_19 {s_Model_isNode : aS} {s_Model_step : aS} {J : aJ} {K : aR} {n : Nat} {L : aL} {S : List Value} {M : aM} : am_run (c_Model_write s_Model_isNode s_Model_step) k_Model_write J K (n + 1) 19 L S M = J 19 L S M := by rfl
theorem r_Model_write_20 {s_Model_isNode : aS} {s_Model_step : aS} {J : aJ} {K : aR} {n : Nat} {L : aL} {S : List Value} {M : aM} : am_run (c_Model_write s_Model_isNode s_Model_step) k_Model_write J K (n + 1) 20 L S M = ai_ifle 42 23 (am_run (c_Model_write s_Model_isNode s_Model_step) k_Model_write J K n) K 20 L S M := by rfl
theorem r_Model_write_23 {s_Model_isNode : aS} {s_Model_step : aS} {J : aJ} {K : aR} {n : Nat} {L : aL} {S : List Value} {M : aM} : am_run (c_Model_write s_Model_isNode s_Model_step) k_Model_write J K (n + 1) 23 L S M = ai_aload 0 24 (am_run (c_Model_write s_Model_isNode s_Model_step) k_Model_write J K n) K 23 L S M := by rfl
theorem r_Model_write_24 {s_Model_isNode : aS} {s_Model_step : aS} {J : aJ} {K : aR} {n : Nat} {L : aL} {S : List Value} {M : aM} : am_run (c_Model_write s_Model_isNode s_Model_step) k_Model_write J K (n + 1) 24 L S M = ai_aload 0 25 (am_run (c_Model_write s_Model_isNode s_Model_step) k_Model_write J K n) K 24 L S M := by rfl
theorem r_Model_write_25 {s_Model_isNode : aS} {s_Model_step : aS} {J : aJ} {K : aR} {n : Nat} {L : aL} {S : List Value} {M : aM} : am_run (c_Model_write s_Model_isNode s_Model_step) k_Model_write J K (n + 1) 25 L S M = ai_getf 7 19 28 (am_run (c_Model_write s_Model_isNode s_Model_step) k_Model_write J K n) K 25 L S M := by rfl
theorem r_Model_write_28 {s_Model_isNode : aS} {s_Model_step : aS} {J : aJ} {K : aR} {n : Nat} {L : aL} {S : List Value} {M : aM} : am_run (c_Model_write s_Model_isNode s_Model_step) k_Model_write J K (n + 1) 28 L S M = ai_iload 2 29 (am_run (c_Model_write s_Model_isNode s_Model_step) k_Model_write J K n) K 28 L S M := by rfl
theorem r_Model_write_29 {s_Model_isNode : aS} {s_Model_step : aS} {J : aJ} {K : aR} {n : Nat} {L : aL} {S : List Value} {M : aM} : am_run (c_Model_write s_Model_isNode s_Model_step) k_Model_write J K (n + 1) 29 L S M = ai_const 1 30 (am_run (c_Model_write s_Model_isNode s_Model_step) k_Model_write J K n) K 29 L S M := by rfl
theorem r_Model_write_30 {s_Model_isNode : aS} {s_Model_step : aS} {J : aJ} {K : aR} {n : Nat} {L : aL} {S : List Value} {M : aM} : am_run (c_Model_write s_Model_isNode s_Model_step) k_Model_write J K (n + 1) 30 L S M = ai_isub 31 (am_run (c_Model_write s_Model_isNode s_Model_step) k_Model_write J K n) K 30 L S M := by rfl
theorem r_Model_write_31 {s_Model_isNode : aS} {s_Model_step : aS} {J : aJ} {K : aR} {n : Nat} {L : aL} {S : List Value} {M : aM} : am_run (c_Model_write s_Model_isNode s_Model_step) k_Model_write J K (n + 1) 31 L S M = ai_iald 32 (am_run (c_Model_write s_Model_isNode s_Model_step) k_Model_write J K n) K 31 L S M := by rfl
theorem r_Model_write_32 {s_Model_isNode : aS} {s_Model_step : aS} {J : aJ} {K : aR} {n : Nat} {L : aL} {S : List Value} {M : aM} : am_run (c_Model_write s_Model_isNode s_Model_step) k_Model_write J K (n + 1) 32 L S M = ai_iload 2 33 (am_run (c_Model_write s_Model_isNode s_Model_step) k_Model_write J K n) K 32 L S M := by rfl
theorem r_Model_write_33 {s_Model_isNode : aS} {s_Model_step : aS} {J : aJ} {K : aR} {n : Nat} {L : aL} {S : List Value} {M : aM} : am_run (c_Model_write s_Model_isNode s_Model_step) k_Model_write J K (n + 1) 33 L S M = ai_const 1 34 (am_run (c_Model_write s_Model_isNode s_Model_step) k_Model_write J K n) K 33 L S M := by rfl
theorem r_Model_write_34 {s_Model_isNode : aS} {s_Model_step : aS} {J : aJ} {K : aR} {n : Nat} {L : aL} {S : List Value} {M : aM} : am_run (c_Model_write s_Model_isNode s_Model_step) k_Model_write J K (n + 1) 34 L S M = ai_isub 35 (am_run (c_Model_write s_Model_isNode s_Model_step) k_Model_write J K n) K 34 L S M := by rfl
theorem r_Model_write_35 {s_Model_isNode : aS} {s_Model_step : aS} {J : aJ} {K : aR} {n : Nat} {L : aL} {S : List Value} {M : aM} : am_run (c_Model_write s_Model_isNode s_Model_step) k_Model_write J K (n + 1) 35 L S M = ai_callv3 7 s_Model_step 38 (am_run (c_Model_write s_Model_isNode s_Model_step) k_Model_write J K n) K 35 L S M := by rfl
theorem r_Model_write_38 {s_Model_isNode : aS} {s_Model_step : aS} {J : aJ} {K : aR} {n : Nat} {L : aL} {S : List Value} {M : aM} : am_run (c_Model_write s_Model_isNode s_Model_step) k_Model_write J K (n + 1) 38 L S M = ai_istore 2 39 (am_run (c_Model_write s_Model_isNode s_Model_step) k_Model_write J K n) K 38 L S M := by rfl
theorem r_Model_write_39 {s_Model_isNode : aS} {s_Model_step : aS} {J : aJ} {K : aR} {n : Nat} {L : aL} {S : List Value} {M : aM} : am_run (c_Model_write s_Model_isNode s_Model_step) k_Model_write J K (n + 1) 39 L S M = ai_goto 19 (am_run (c_Model_write s_Model_isNode s_Model_step) k_Model_write J K n) K 39 L S M := by rfl
theorem r_Model_write_42 {s_Model_isNode : aS} {s_Model_step : aS} {J : aJ} {K : aR} {n : Nat} {L : aL} {S : List Value} {M : aM} : am_run (c_Model_write s_Model_isNode s_Model_step) k_Model_write J K (n + 1) 42 L S M = ai_const 1 43 (am_run (c_Model_write s_Model_isNode s_Model_step) k_Model_write J K n) K 42 L S M := by rfl
theorem r_Model_write_43 {s_Model_isNode : aS} {s_Model_step : aS} {J : aJ} {K : aR} {n : Nat} {L : aL} {S : List Value} {M : aM} : am_run (c_Model_write s_Model_isNode s_Model_step) k_Model_write J K (n + 1) 43 L S M = ai_zret (am_run (c_Model_write s_Model_isNode s_Model_step) k_Model_write J K n) K 43 L S M := by rfl
def c_Model_fetch : List (Nat × aI) := [
  (0, ai_aload 0 1),
  (1, ai_getf 7 18 4),
  (4, ai_const 7 6),
  (6, ai_cmpge 16 9),
  (9, ai_aload 0 10),
  (10, ai_getf 7 18 13),
  (13, ai_goto 18),
  (16, ai_const 7 18),
  (18, ai_istore 1 19),
  (19, ai_iload 1 20),
  (20, ai_ifne 25 23),
  (23, ai_lconst 0 24),
  (24, ai_lret),
  (25, ai_iload 1 26),
  (26, ai_i2l 27),
  (27, ai_const 56 29),
  (29, ai_lshl 30),
  (30, ai_lstore 2 31),
  (31, ai_const 0 32),
  (32, ai_istore 4 34),
  (34, ai_iload 4 36),
  (36, ai_iload 1 37),
  (37, ai_cmpge 66 40),
  (40, ai_lload 2 41),
  (41, ai_aload 0 42),
  (42, ai_getf 7 17 45),
  (45, ai_iload 4 47),
  (47, ai_iald 48),
  (48, ai_i2l 49),
  (49, ai_const 48 51),
  (51, ai_const 8 53),
  (53, ai_iload 4 55),
  (55, ai_imul 56),
  (56, ai_isub 57),
  (57, ai_lshl 58),
  (58, ai_lor 59),
  (59, ai_lstore 2 60),
  (60, ai_iinc 4 1 63),
  (63, ai_goto 34),
  (66, ai_aload 0 67),
  (67, ai_aload 0 68),
  (68, ai_getf 7 18 71),
  (71, ai_iload 1 72),
  (72, ai_isub 73),
  (73, ai_putf 7 18 76),
  (76, ai_const 0 77),
  (77, ai_istore 4 79),
  (79, ai_iload 4 81),
  (81, ai_aload 0 82),
  (82, ai_getf 7 18 85),
  (85, ai_cmpge 110 88),
  (88, ai_aload 0 89),
  (89, ai_getf 7 17 92),
  (92, ai_iload 4 94),
  (94, ai_aload 0 95),
  (95, ai_getf 7 17 98),
  (98, ai_iload 4 100),
  (100, ai_iload 1 101),
  (101, ai_iadd 102),
  (102, ai_iald 103),
  (103, ai_iast 104),
  (104, ai_iinc 4 1 107),
  (107, ai_goto 79),
  (110, ai_lload 2 111),
  (111, ai_lret)]
set_option maxRecDepth 100000 in
set_option maxHeartbeats 4000000 in
theorem tb_Model_fetch {G : aG} {d : Nat} : am_tab G Y_Model_fetch d (c_Model_fetch) := by
  intro K p e s m args below meth c C
  exact ⟨as_aload_n C (pc := 0) (q := 0) (by decide +kernel) rfl rfl,
    as_getf C (pc := 1) (T := T_Model) (N := 21) rfl in_Model (by decide) rfl w_535 (by decide +kernel) rfl,
    as_bipush C (pc := 4) (n := 7) (by decide +kernel) (by decide +kernel) rfl,
    as_cmpge C (pc := 6) (off := 10) (by decide +kernel) (by decide) rfl,
    as_aload_n C (pc := 9) (q := 0) (by decide +kernel) rfl rfl,
    as_getf C (pc := 10) (T := T_Model) (N := 21) rfl in_Model (by decide) rfl w_535 (by decide +kernel) rfl,
    as_goto C (pc := 13) (off := 5) (by decide +kernel) (by decide),
    as_bipush C (pc := 16) (n := 7) (by decide +kernel) (by decide +kernel) rfl,
    as_istore_n C (pc := 18) (q := 1) (by decide +kernel) rfl (by decide) rfl,
    as_iload_n C (pc := 19) (q := 1) (by decide +kernel) rfl rfl,
    as_ifne C (pc := 20) (off := 5) (by decide +kernel) (by decide) rfl,
    as_lconst C (pc := 23) (n := 0) (by decide +kernel) (by decide +kernel) rfl,
    as_lret C (pc := 24) rfl (by decide +kernel),
    as_iload_n C (pc := 25) (q := 1) (by decide +kernel) rfl rfl,
    as_i2l C (pc := 26) (by decide +kernel) rfl,
    as_bipush C (pc := 27) (n := 56) (by decide +kernel) (by decide +kernel) rfl,
    as_lshl C (pc := 29) (by decide +kernel) rfl,
    as_lstore_n C (pc := 30) (q := 2) (by decide +kernel) rfl (by decide) rfl,
    as_iconst C (pc := 31) (n := 0) (by decide +kernel) (by decide +kernel) rfl,
    as_istore C (pc := 32) (k := 4) (by decide +kernel) (by decide) rfl,
    as_iload C (pc := 34) (k := 4) (by decide +kernel) rfl,
    as_iload_n C (pc := 36) (q := 1) (by decide +kernel) rfl rfl,
    as_cmpge C (pc := 37) (off := 29) (by decide +kernel) (by decide) rfl,
    as_lload_n C (pc := 40) (q := 2) (by decide +kernel) rfl rfl,
    as_aload_n C (pc := 41) (q := 0) (by decide +kernel) rfl rfl,
    as_getf C (pc := 42) (T := T_Model) (N := 21) rfl in_Model (by decide) rfl w_534 (by decide +kernel) rfl,
    as_iload C (pc := 45) (k := 4) (by decide +kernel) rfl,
    as_iald C (pc := 47) (by decide +kernel) rfl,
    as_i2l C (pc := 48) (by decide +kernel) rfl,
    as_bipush C (pc := 49) (n := 48) (by decide +kernel) (by decide +kernel) rfl,
    as_bipush C (pc := 51) (n := 8) (by decide +kernel) (by decide +kernel) rfl,
    as_iload C (pc := 53) (k := 4) (by decide +kernel) rfl,
    as_imul C (pc := 55) (by decide +kernel) rfl,
    as_isub C (pc := 56) (by decide +kernel) rfl,
    as_lshl C (pc := 57) (by decide +kernel) rfl,
    as_lor C (pc := 58) (by decide +kernel) rfl,
    as_lstore_n C (pc := 59) (q := 2) (by decide +kernel) rfl (by decide) rfl,
    as_iinc C (pc := 60) (k := 4) (n := 1) (by decide +kernel) (by decide +kernel) (by decide) rfl,
    as_goto C (pc := 63) (off := (-29)) (by decide +kernel) (by decide),
    as_aload_n C (pc := 66) (q := 0) (by decide +kernel) rfl rfl,
    as_aload_n C (pc := 67) (q := 0) (by decide +kernel) rfl rfl,
    as_getf C (pc := 68) (T := T_Model) (N := 21) rfl in_Model (by decide) rfl w_535 (by decide +kernel) rfl,
    as_iload_n C (pc := 71) (q := 1) (by decide +kernel) rfl rfl,
    as_isub C (pc := 72) (by decide +kernel) rfl,
    as_putf C (pc := 73) t_Model (T := T_Model) (N := 21) rfl in_Model tok_Model nm_Model (by decide) rfl rfl (by decide +kernel) w_535 (by decide +kernel) rfl,
    as_iconst C (pc := 76) (n := 0) (by decide +kernel) (by decide +kernel) rfl,
    as_istore C (pc := 77) (k := 4) (by decide +kernel) (by decide) rfl,
    as_iload C (pc := 79) (k := 4) (by decide +kernel) rfl,
    as_aload_n C (pc := 81) (q := 0) (by decide +kernel) rfl rfl,
    as_getf C (pc := 82) (T := T_Model) (N := 21) rfl in_Model (by decide) rfl w_535 (by decide +kernel) rfl,
    as_cmpge C (pc := 85) (off := 25) (by decide +kernel) (by decide) rfl,
    as_aload_n C (pc := 88) (q := 0) (by decide +kernel) rfl rfl,
    as_getf C (pc := 89) (T := T_Model) (N := 21) rfl in_Model (by decide) rfl w_534 (by decide +kernel) rfl,
    as_iload C (pc := 92) (k := 4) (by decide +kernel) rfl,
    as_aload_n C (pc := 94) (q := 0) (by decide +kernel) rfl rfl,
    as_getf C (pc := 95) (T := T_Model) (N := 21) rfl in_Model (by decide) rfl w_534 (by decide +kernel) rfl,
    as_iload C (pc := 98) (k := 4) (by decide +kernel) rfl,
    as_iload_n C (pc := 100) (q := 1) (by decide +kernel) rfl rfl,
    as_iadd C (pc := 101) (by decide +kernel) rfl,
    as_iald C (pc := 102) (by decide +kernel) rfl,
    as_iast C (pc := 103) (by decide +kernel) rfl,
    as_iinc C (pc := 104) (k := 4) (n := 1) (by decide +kernel) (by decide +kernel) (by decide) rfl,
    as_goto C (pc := 107) (off := (-28)) (by decide +kernel) (by decide),
    as_lload_n C (pc := 110) (q := 2) (by decide +kernel) rfl rfl,
    as_lret C (pc := 111) rfl (by decide +kernel), trivial⟩
abbrev k_Model_fetch : List Nat := [34, 79]
set_option maxRecDepth 20000 in
theorem q_Model_fetch_34 : am_at (c_Model_fetch) 34 = ai_iload 4 36 := by rfl
set_option maxRecDepth 20000 in
theorem q_Model_fetch_79 : am_at (c_Model_fetch) 79 = ai_iload 4 81 := by rfl
set_option maxRecDepth 20000 in
theorem r_Model_fetch_0 {J : aJ} {K : aR} {n : Nat} {L : aL} {S : List Value} {M : aM} : am_run (c_Model_fetch) k_Model_fetch J K (n + 1) 0 L S M = ai_aload 0 1 (am_run (c_Model_fetch) k_Model_fetch J K n) K 0 L S M := by rfl
set_option maxRecDepth 20000 in
theorem r_Model_fetch_1 {J : aJ} {K : aR} {n : Nat} {L : aL} {S : List Value} {M : aM} : am_run (c_Model_fetch) k_Model_fetch J K (n + 1) 1 L S M = ai_getf 7 18 4 (am_run (c_Model_fetch) k_Model_fetch J K n) K 1 L S M := by rfl
set_option maxRecDepth 20000 in
theorem r_Model_fetch_4 {J : aJ} {K : aR} {n : Nat} {L : aL} {S : List Value} {M : aM} : am_run (c_Model_fetch) k_Model_fetch J K (n + 1) 4 L S M = ai_const 7 6 (am_run (c_Model_fetch) k_Model_fetch J K n) K 4 L S M := by rfl
set_option maxRecDepth 20000 in
theorem r_Model_fetch_6 {J : aJ} {K : aR} {n : Nat} {L : aL} {S : List Value} {M : aM} : am_run (c_Model_fetch) k_Model_fetch J K (n + 1) 6 L S M = ai_cmpge 16 9 (am_run (c_Model_fetch) k_Model_fetch J K n) K 6 L S M := by rfl
set_option maxRecDepth 20000 in
theorem r_Model_fetch_9 {J : aJ} {K : aR} {n : Nat} {L : aL} {S : List Value} {M : aM} : am_run (c_Model_fetch) k_Model_fetch J K (n + 1) 9 L S M = ai_aload 0 10 (am_run (c_Model_fetch) k_Model_fetch J K n) K 9 L S M := by rfl
set_option maxRecDepth 20000 in
theorem r_Model_fetch_10 {J : aJ} {K : aR} {n : Nat} {L : aL} {S : List Value} {M : aM} : am_run (c_Model_fetch) k_Model_fetch J K (n + 1) 10 L S M = ai_getf 7 18 13 (am_run (c_Model_fetch) k_Model_fetch J K n) K 10 L S M := by rfl
set_option maxRecDepth 20000 in
theorem r_Model_fetch_13 {J : aJ} {K : aR} {n : Nat} {L : aL} {S : List Value} {M : aM} : am_run (c_Model_fetch) k_Model_fetch J K (n + 1) 13 L S M = ai_goto 18 (am_run (c_Model_fetch) k_Model_fetch J K n) K 13 L S M := by rfl
set_option maxRecDepth 20000 in
theorem r_Model_fetch_16 {J : aJ} {K : aR} {n : Nat} {L : aL} {S : List Value} {M : aM} : am_run (c_Model_fetch) k_Model_fetch J K (n + 1) 16 L S M = ai_const 7 18 (am_run (c_Model_fetch) k_Model_fetch J K n) K 16 L S M := by rfl
set_option maxRecDepth 20000 in
theorem r_Model_fetch_18 {J : aJ} {K : aR} {n : Nat} {L : aL} {S : List Value} {M : aM} : am_run (c_Model_fetch) k_Model_fetch J K (n + 1) 18 L S M = ai_istore 1 19 (am_run (c_Model_fetch) k_Model_fetch J K n) K 18 L S M := by rfl
set_option maxRecDepth 20000 in
theorem r_Model_fetch_19 {J : aJ} {K : aR} {n : Nat} {L : aL} {S : List Value} {M : aM} : am_run (c_Model_fetch) k_Model_fetch J K (n + 1) 19 L S M = ai_iload 1 20 (am_run (c_Model_fetch) k_Model_fetch J K n) K 19 L S M := by rfl
set_option maxRecDepth 20000 in
theorem r_Model_fetch_20 {J : aJ} {K : aR} {n : Nat} {L : aL} {S : List Value} {M : aM} : am_run (c_Model_fetch) k_Model_fetch J K (n + 1) 20 L S M = ai_ifne 25 23 (am_run (c_Model_fetch) k_Model_fetch J K n) K 20 L S M := by rfl
set_option maxRecDepth 20000 in
theorem r_Model_fetch_23 {J : aJ} {K : aR} {n : Nat} {L : aL} {S : List Value} {M : aM} : am_run (c_Model_fetch) k_Model_fetch J K (n + 1) 23 L S M = ai_lconst 0 24 (am_run (c_Model_fetch) k_Model_fetch J K n) K 23 L S M := by rfl
set_option maxRecDepth 20000 in
theorem r_Model_fetch_24 {J : aJ} {K : aR} {n : Nat} {L : aL} {S : List Value} {M : aM} : am_run (c_Model_fetch) k_Model_fetch J K (n + 1) 24 L S M = ai_lret (am_run (c_Model_fetch) k_Model_fetch J K n) K 24 L S M := by rfl
set_option maxRecDepth 20000 in
theorem r_Model_fetch_25 {J : aJ} {K : aR} {n : Nat} {L : aL} {S : List Value} {M : aM} : am_run (c_Model_fetch) k_Model_fetch J K (n + 1) 25 L S M = ai_iload 1 26 (am_run (c_Model_fetch) k_Model_fetch J K n) K 25 L S M := by rfl
set_option maxRecDepth 20000 in
theorem r_Model_fetch_26 {J : aJ} {K : aR} {n : Nat} {L : aL} {S : List Value} {M : aM} : am_run (c_Model_fetch) k_Model_fetch J K (n + 1) 26 L S M = ai_i2l 27 (am_run (c_Model_fetch) k_Model_fetch J K n) K 26 L S M := by rfl
set_option maxRecDepth 20000 in
theorem r_Model_fetch_27 {J : aJ} {K : aR} {n : Nat} {L : aL} {S : List Value} {M : aM} : am_run (c_Model_fetch) k_Model_fetch J K (n + 1) 27 L S M = ai_const 56 29 (am_run (c_Model_fetch) k_Model_fetch J K n) K 27 L S M := by rfl
set_option maxRecDepth 20000 in
theorem r_Model_fetch_29 {J : aJ} {K : aR} {n : Nat} {L : aL} {S : List Value} {M : aM} : am_run (c_Model_fetch) k_Model_fetch J K (n + 1) 29 L S M = ai_lshl 30 (am_run (c_Model_fetch) k_Model_fetch J K n) K 29 L S M := by rfl
set_option maxRecDepth 20000 in
theorem r_Model_fetch_30 {J : aJ} {K : aR} {n : Nat} {L : aL} {S : List Value} {M : aM} : am_run (c_Model_fetch) k_Model_fetch J K (n + 1) 30 L S M = ai_lstore 2 31 (am_run (c_Model_fetch) k_Model_fetch J K n) K 30 L S M := by rfl
set_option maxRecDepth 20000 in
theorem r_Model_fetch_31 {J : aJ} {K : aR} {n : Nat} {L : aL} {S : List Value} {M : aM} : am_run (c_Model_fetch) k_Model_fetch J K (n + 1) 31 L S M = ai_const 0 32 (am_run (c_Model_fetch) k_Model_fetch J K n) K 31 L S M := by rfl
set_option maxRecDepth 20000 in
theorem r_Model_fetch_32 {J : aJ} {K : aR} {n : Nat} {L : aL} {S : List Value} {M : aM} : am_run (c_Model_fetch) k_Model_fetch J K (n + 1) 32 L S M = ai_istore 4 34 (am_run (c_Model_fetch) k_Model_fetch J K n) K 32 L S M := by rfl
set_option maxRecDepth 20000 in
theorem r_Model_fetch_34 {J : aJ} {K : aR} {n : Nat} {L : aL} {S : List Value} {M : aM} : am_run (c_Model_fetch) k_Model_fetch J K (n + 1) 34 L S M = J 34 L S M := by rfl
set_option maxRecDepth 20000 in
theorem r_Model_fetch_36 {J : aJ} {K : aR} {n : Nat} {L : aL} {S : List Value} {M : aM} : am_run (c_Model_fetch) k_Model_fetch J K (n + 1) 36 L S M = ai_iload 1 37 (am_run (c_Model_fetch) k_Model_fetch J K n) K 36 L S M := by rfl
set_option maxRecDepth 20000 in
theorem r_Model_fetch_37 {J : aJ} {K : aR} {n : Nat} {L : aL} {S : List Value} {M : aM} : am_run (c_Model_fetch) k_Model_fetch J K (n + 1) 37 L S M = ai_cmpge 66 40 (am_run (c_Model_fetch) k_Model_fetch J K n) K 37 L S M := by rfl
set_option maxRecDepth 20000 in
theorem r_Model_fetch_40 {J : aJ} {K : aR} {n : Nat} {L : aL} {S : List Value} {M : aM} : am_run (c_Model_fetch) k_Model_fetch J K (n + 1) 40 L S M = ai_lload 2 41 (am_run (c_Model_fetch) k_Model_fetch J K n) K 40 L S M := by rfl
set_option maxRecDepth 20000 in
theorem r_Model_fetch_41 {J : aJ} {K : aR} {n : Nat} {L : aL} {S : List Value} {M : aM} : am_run (c_Model_fetch) k_Model_fetch J K (n + 1) 41 L S M = ai_aload 0 42 (am_run (c_Model_fetch) k_Model_fetch J K n) K 41 L S M := by rfl
set_option maxRecDepth 20000 in
theorem r_Model_fetch_42 {J : aJ} {K : aR} {n : Nat} {L : aL} {S : List Value} {M : aM} : am_run (c_Model_fetch) k_Model_fetch J K (n + 1) 42 L S M = ai_getf 7 17 45 (am_run (c_Model_fetch) k_Model_fetch J K n) K 42 L S M := by rfl
set_option maxRecDepth 20000 in
theorem r_Model_fetch_45 {J : aJ} {K : aR} {n : Nat} {L : aL} {S : List Value} {M : aM} : am_run (c_Model_fetch) k_Model_fetch J K (n + 1) 45 L S M = ai_iload 4 47 (am_run (c_Model_fetch) k_Model_fetch J K n) K 45 L S M := by rfl
set_option maxRecDepth 20000 in
theorem r_Model_fetch_47 {J : aJ} {K : aR} {n : Nat} {L : aL} {S : List Value} {M : aM} : am_run (c_Model_fetch) k_Model_fetch J K (n + 1) 47 L S M = ai_iald 48 (am_run (c_Model_fetch) k_Model_fetch J K n) K 47 L S M := by rfl
set_option maxRecDepth 20000 in
theorem r_Model_fetch_48 {J : aJ} {K : aR} {n : Nat} {L : aL} {S : List Value} {M : aM} : am_run (c_Model_fetch) k_Model_fetch J K (n + 1) 48 L S M = ai_i2l 49 (am_run (c_Model_fetch) k_Model_fetch J K n) K 48 L S M := by rfl
set_option maxRecDepth 20000 in
theorem r_Model_fetch_49 {J : aJ} {K : aR} {n : Nat} {L : aL} {S : List Value} {M : aM} : am_run (c_Model_fetch) k_Model_fetch J K (n + 1) 49 L S M = ai_const 48 51 (am_run (c_Model_fetch) k_Model_fetch J K n) K 49 L S M := by rfl
set_option maxRecDepth 20000 in
theorem r_Model_fetch_51 {J : aJ} {K : aR} {n : Nat} {L : aL} {S : List Value} {M : aM} : am_run (c_Model_fetch) k_Model_fetch J K (n + 1) 51 L S M = ai_const 8 53 (am_run (c_Model_fetch) k_Model_fetch J K n) K 51 L S M := by rfl
set_option maxRecDepth 20000 in
theorem r_Model_fetch_53 {J : aJ} {K : aR} {n : Nat} {L : aL} {S : List Value} {M : aM} : am_run (c_Model_fetch) k_Model_fetch J K (n + 1) 53 L S M = ai_iload 4 55 (am_run (c_Model_fetch) k_Model_fetch J K n) K 53 L S M := by rfl
set_option maxRecDepth 20000 in
theorem r_Model_fetch_55 {J : aJ} {K : aR} {n : Nat} {L : aL} {S : List Value} {M : aM} : am_run (c_Model_fetch) k_Model_fetch J K (n + 1) 55 L S M = ai_imul 56 (am_run (c_Model_fetch) k_Model_fetch J K n) K 55 L S M := by rfl
set_option maxRecDepth 20000 in
theorem r_Model_fetch_56 {J : aJ} {K : aR} {n : Nat} {L : aL} {S : List Value} {M : aM} : am_run (c_Model_fetch) k_Model_fetch J K (n + 1) 56 L S M = ai_isub 57 (am_run (c_Model_fetch) k_Model_fetch J K n) K 56 L S M := by rfl
set_option maxRecDepth 20000 in
theorem r_Model_fetch_57 {J : aJ} {K : aR} {n : Nat} {L : aL} {S : List Value} {M : aM} : am_run (c_Model_fetch) k_Model_fetch J K (n + 1) 57 L S M = ai_lshl 58 (am_run (c_Model_fetch) k_Model_fetch J K n) K 57 L S M := by rfl
set_option maxRecDepth 20000 in
theorem r_Model_fetch_58 {J : aJ} {K : aR} {n : Nat} {L : aL} {S : List Value} {M : aM} : am_run (c_Model_fetch) k_Model_fetch J K (n + 1) 58 L S M = ai_lor 59 (am_run (c_Model_fetch) k_Model_fetch J K n) K 58 L S M := by rfl
set_option maxRecDepth 20000 in
theorem r_Model_fetch_59 {J : aJ} {K : aR} {n : Nat} {L : aL} {S : List Value} {M : aM} : am_run (c_Model_fetch) k_Model_fetch J K (n + 1) 59 L S M = ai_lstore 2 60 (am_run (c_Model_fetch) k_Model_fetch J K n) K 59 L S M := by rfl
set_option maxRecDepth 20000 in
theorem r_Model_fetch_60 {J : aJ} {K : aR} {n : Nat} {L : aL} {S : List Value} {M : aM} : am_run (c_Model_fetch) k_Model_fetch J K (n + 1) 60 L S M = ai_iinc 4 1 63 (am_run (c_Model_fetch) k_Model_fetch J K n) K 60 L S M := by rfl
set_option maxRecDepth 20000 in
theorem r_Model_fetch_63 {J : aJ} {K : aR} {n : Nat} {L : aL} {S : List Value} {M : aM} : am_run (c_Model_fetch) k_Model_fetch J K (n + 1) 63 L S M = ai_goto 34 (am_run (c_Model_fetch) k_Model_fetch J K n) K 63 L S M := by rfl
set_option maxRecDepth 20000 in
theorem r_Model_fetch_66 {J : aJ} {K : aR} {n : Nat} {L : aL} {S : List Value} {M : aM} : am_run (c_Model_fetch) k_Model_fetch J K (n + 1) 66 L S M = ai_aload 0 67 (am_run (c_Model_fetch) k_Model_fetch J K n) K 66 L S M := by rfl
set_option maxRecDepth 20000 in
theorem r_Model_fetch_67 {J : aJ} {K : aR} {n : Nat} {L : aL} {S : List Value} {M : aM} : am_run (c_Model_fetch) k_Model_fetch J K (n + 1) 67 L S M = ai_aload 0 68 (am_run (c_Model_fetch) k_Model_fetch J K n) K 67 L S M := by rfl
set_option maxRecDepth 20000 in
theorem r_Model_fetch_68 {J : aJ} {K : aR} {n : Nat} {L : aL} {S : List Value} {M : aM} : am_run (c_Model_fetch) k_Model_fetch J K (n + 1) 68 L S M = ai_getf 7 18 71 (am_run (c_Model_fetch) k_Model_fetch J K n) K 68 L S M := by rfl
set_option maxRecDepth 20000 in
theorem r_Model_fetch_71 {J : aJ} {K : aR} {n : Nat} {L : aL} {S : List Value} {M : aM} : am_run (c_Model_fetch) k_Model_fetch J K (n + 1) 71 L S M = ai_iload 1 72 (am_run (c_Model_fetch) k_Model_fetch J K n) K 71 L S M := by rfl
set_option maxRecDepth 20000 in
theorem r_Model_fetch_72 {J : aJ} {K : aR} {n : Nat} {L : aL} {S : List Value} {M : aM} : am_run (c_Model_fetch) k_Model_fetch J K (n + 1) 72 L S M = ai_isub 73 (am_run (c_Model_fetch) k_Model_fetch J K n) K 72 L S M := by rfl
set_option maxRecDepth 20000 in
theorem r_Model_fetch_73 {J : aJ} {K : aR} {n : Nat} {L : aL} {S : List Value} {M : aM} : am_run (c_Model_fetch) k_Model_fetch J K (n + 1) 73 L S M = ai_putf 7 18 76 (am_run (c_Model_fetch) k_Model_fetch J K n) K 73 L S M := by rfl
set_option maxRecDepth 20000 in
theorem r_Model_fetch_76 {J : aJ} {K : aR} {n : Nat} {L : aL} {S : List Value} {M : aM} : am_run (c_Model_fetch) k_Model_fetch J K (n + 1) 76 L S M = ai_const 0 77 (am_run (c_Model_fetch) k_Model_fetch J K n) K 76 L S M := by rfl
set_option maxRecDepth 20000 in
theorem r_Model_fetch_77 {J : aJ} {K : aR} {n : Nat} {L : aL} {S : List Value} {M : aM} : am_run (c_Model_fetch) k_Model_fetch J K (n + 1) 77 L S M = ai_istore 4 79 (am_run (c_Model_fetch) k_Model_fetch J K n) K 77 L S M := by rfl
set_option maxRecDepth 20000 in
theorem r_Model_fetch_79 {J : aJ} {K : aR} {n : Nat} {L : aL} {S : List Value} {M : aM} : am_run (c_Model_fetch) k_Model_fetch J K (n + 1) 79 L S M = J 79 L S M := by rfl
set_option maxRecDepth 20000 in
theorem r_Model_fetch_81 {J : aJ} {K : aR} {n : Nat} {L : aL} {S : List Value} {M : aM} : am_run (c_Model_fetch) k_Model_fetch J K (n + 1) 81 L S M = ai_aload 0 82 (am_run (c_Model_fetch) k_Model_fetch J K n) K 81 L S M := by rfl
set_option maxRecDepth 20000 in
theorem r_Model_fetch_82 {J : aJ} {K : aR} {n : Nat} {L : aL} {S : List Value} {M : aM} : am_run (c_Model_fetch) k_Model_fetch J K (n + 1) 82 L S M = ai_getf 7 18 85 (am_run (c_Model_fetch) k_Model_fetch J K n) K 82 L S M := by rfl
set_option maxRecDepth 20000 in
theorem r_Model_fetch_85 {J : aJ} {K : aR} {n : Nat} {L : aL} {S : List Value} {M : aM} : am_run (c_Model_fetch) k_Model_fetch J K (n + 1) 85 L S M = ai_cmpge 110 88 (am_run (c_Model_fetch) k_Model_fetch J K n) K 85 L S M := by rfl
set_option maxRecDepth 20000 in
theorem r_Model_fetch_88 {J : aJ} {K : aR} {n : Nat} {L : aL} {S : List Value} {M : aM} : am_run (c_Model_fetch) k_Model_fetch J K (n + 1) 88 L S M = ai_aload 0 89 (am_run (c_Model_fetch) k_Model_fetch J K n) K 88 L S M := by rfl
set_option maxRecDepth 20000 in
theorem r_Model_fetch_89 {J : aJ} {K : aR} {n : Nat} {L : aL} {S : List Value} {M : aM} : am_run (c_Model_fetch) k_Model_fetch J K (n + 1) 89 L S M = ai_getf 7 17 92 (am_run (c_Model_fetch) k_Model_fetch J K n) K 89 L S M := by rfl
set_option maxRecDepth 20000 in
theorem r_Model_fetch_92 {J : aJ} {K : aR} {n : Nat} {L : aL} {S : List Value} {M : aM} : am_run (c_Model_fetch) k_Model_fetch J K (n + 1) 92 L S M = ai_iload 4 94 (am_run (c_Model_fetch) k_Model_fetch J K n) K 92 L S M := by rfl
set_option maxRecDepth 20000 in
theorem r_Model_fetch_94 {J : aJ} {K : aR} {n : Nat} {L : aL} {S : List Value} {M : aM} : am_run (c_Model_fetch) k_Model_fetch J K (n + 1) 94 L S M = ai_aload 0 95 (am_run (c_Model_fetch) k_Model_fetch J K n) K 94 L S M := by rfl
set_option maxRecDepth 20000 in
theorem r_Model_fetch_95 {J : aJ} {K : aR} {n : Nat} {L : aL} {S : List Value} {M : aM} : am_run (c_Model_fetch) k_Model_fetch J K (n + 1) 95 L S M = ai_getf 7 17 98 (am_run (c_Model_fetch) k_Model_fetch J K n) K 95 L S M := by rfl
set_option maxRecDepth 20000 in
theorem r_Model_fetch_98 {J : aJ} {K : aR} {n : Nat} {L : aL} {S : List Value} {M : aM} : am_run (c_Model_fetch) k_Model_fetch J K (n + 1) 98 L S M = ai_iload 4 100 (am_run (c_Model_fetch) k_Model_fetch J K n) K 98 L S M := by rfl
set_option maxRecDepth 20000 in
theorem r_Model_fetch_100 {J : aJ} {K : aR} {n : Nat} {L : aL} {S : List Value} {M : aM} : am_run (c_Model_fetch) k_Model_fetch J K (n + 1) 100 L S M = ai_iload 1 101 (am_run (c_Model_fetch) k_Model_fetch J K n) K 100 L S M := by rfl
set_option maxRecDepth 20000 in
theorem r_Model_fetch_101 {J : aJ} {K : aR} {n : Nat} {L : aL} {S : List Value} {M : aM} : am_run (c_Model_fetch) k_Model_fetch J K (n + 1) 101 L S M = ai_iadd 102 (am_run (c_Model_fetch) k_Model_fetch J K n) K 101 L S M := by rfl
set_option maxRecDepth 20000 in
theorem r_Model_fetch_102 {J : aJ} {K : aR} {n : Nat} {L : aL} {S : List Value} {M : aM} : am_run (c_Model_fetch) k_Model_fetch J K (n + 1) 102 L S M = ai_iald 103 (am_run (c_Model_fetch) k_Model_fetch J K n) K 102 L S M := by rfl
set_option maxRecDepth 20000 in
theorem r_Model_fetch_103 {J : aJ} {K : aR} {n : Nat} {L : aL} {S : List Value} {M : aM} : am_run (c_Model_fetch) k_Model_fetch J K (n + 1) 103 L S M = ai_iast 104 (am_run (c_Model_fetch) k_Model_fetch J K n) K 103 L S M := by rfl
set_option maxRecDepth 20000 in
theorem r_Model_fetch_104 {J : aJ} {K : aR} {n : Nat} {L : aL} {S : List Value} {M : aM} : am_run (c_Model_fetch) k_Model_fetch J K (n + 1) 104 L S M = ai_iinc 4 1 107 (am_run (c_Model_fetch) k_Model_fetch J K n) K 104 L S M := by rfl
set_option maxRecDepth 20000 in
theorem r_Model_fetch_107 {J : aJ} {K : aR} {n : Nat} {L : aL} {S : List Value} {M : aM} : am_run (c_Model_fetch) k_Model_fetch J K (n + 1) 107 L S M = ai_goto 79 (am_run (c_Model_fetch) k_Model_fetch J K n) K 107 L S M := by rfl
set_option maxRecDepth 20000 in
theorem r_Model_fetch_110 {J : aJ} {K : aR} {n : Nat} {L : aL} {S : List Value} {M : aM} : am_run (c_Model_fetch) k_Model_fetch J K (n + 1) 110 L S M = ai_lload 2 111 (am_run (c_Model_fetch) k_Model_fetch J K n) K 110 L S M := by rfl
set_option maxRecDepth 20000 in
theorem r_Model_fetch_111 {J : aJ} {K : aR} {n : Nat} {L : aL} {S : List Value} {M : aM} : am_run (c_Model_fetch) k_Model_fetch J K (n + 1) 111 L S M = ai_lret (am_run (c_Model_fetch) k_Model_fetch J K n) K 111 L S M := by rfl
def c_Model_count : List (Nat × aI) := [
  (0, ai_iload 1 1),
  (1, ai_ifne 11 4),
  (4, ai_aload 0 5),
  (5, ai_getf 7 1 8),
  (8, ai_goto 48),
  (11, ai_iload 1 12),
  (12, ai_const 1 13),
  (13, ai_cmpne 23 16),
  (16, ai_aload 0 17),
  (17, ai_getf 7 5 20),
  (20, ai_goto 48),
  (23, ai_iload 1 24),
  (24, ai_const 2 25),
  (25, ai_cmpne 35 28),
  (28, ai_aload 0 29),
  (29, ai_getf 7 11 32),
  (32, ai_goto 48),
  (35, ai_iload 1 36),
  (36, ai_const 3 37),
  (37, ai_cmpne 47 40),
  (40, ai_aload 0 41),
  (41, ai_getf 7 18 44),
  (44, ai_goto 48),
  (47, ai_const (-1) 48),
  (48, ai_iret)]
set_option maxRecDepth 100000 in
set_option maxHeartbeats 4000000 in
theorem tb_Model_count {G : aG} {d : Nat} : am_tab G Y_Model_count d (c_Model_count) := by
  intro K p e s m args below meth c C
  exact ⟨as_iload_n C (pc := 0) (q := 1) (by decide +kernel) rfl rfl,
    as_ifne C (pc := 1) (off := 10) (by decide +kernel) (by decide) rfl,
    as_aload_n C (pc := 4) (q := 0) (by decide +kernel) rfl rfl,
    as_getf C (pc := 5) (T := T_Model) (N := 21) rfl in_Model (by decide) rfl w_518 (by decide +kernel) rfl,
    as_goto C (pc := 8) (off := 40) (by decide +kernel) (by decide),
    as_iload_n C (pc := 11) (q := 1) (by decide +kernel) rfl rfl,
    as_iconst C (pc := 12) (n := 1) (by decide +kernel) (by decide +kernel) rfl,
    as_cmpne C (pc := 13) (off := 10) (by decide +kernel) (by decide) rfl,
    as_aload_n C (pc := 16) (q := 0) (by decide +kernel) rfl rfl,
    as_getf C (pc := 17) (T := T_Model) (N := 21) rfl in_Model (by decide) rfl w_522 (by decide +kernel) rfl,
    as_goto C (pc := 20) (off := 28) (by decide +kernel) (by decide),
    as_iload_n C (pc := 23) (q := 1) (by decide +kernel) rfl rfl,
    as_iconst C (pc := 24) (n := 2) (by decide +kernel) (by decide +kernel) rfl,
    as_cmpne C (pc := 25) (off := 10) (by decide +kernel) (by decide) rfl,
    as_aload_n C (pc := 28) (q := 0) (by decide +kernel) rfl rfl,
    as_getf C (pc := 29) (T := T_Model) (N := 21) rfl in_Model (by decide) rfl w_528 (by decide +kernel) rfl,
    as_goto C (pc := 32) (off := 16) (by decide +kernel) (by decide),
    as_iload_n C (pc := 35) (q := 1) (by decide +kernel) rfl rfl,
    as_iconst C (pc := 36) (n := 3) (by decide +kernel) (by decide +kernel) rfl,
    as_cmpne C (pc := 37) (off := 10) (by decide +kernel) (by decide) rfl,
    as_aload_n C (pc := 40) (q := 0) (by decide +kernel) rfl rfl,
    as_getf C (pc := 41) (T := T_Model) (N := 21) rfl in_Model (by decide) rfl w_535 (by decide +kernel) rfl,
    as_goto C (pc := 44) (off := 4) (by decide +kernel) (by decide),
    as_iconst C (pc := 47) (n := (-1)) (by decide +kernel) (by decide +kernel) rfl,
    as_iret C (pc := 48) rfl (by decide +kernel), trivial⟩
abbrev k_Model_count : List Nat := []
theorem r_Model_count_0 {J : aJ} {K : aR} {n : Nat} {L : aL} {S : List Value} {M : aM} : am_run (c_Model_count) k_Model_count J K (n + 1) 0 L S M = ai_iload 1 1 (am_run (c_Model_count) k_Model_count J K n) K 0 L S M := by rfl
theorem r_Model_count_1 {J : aJ} {K : aR} {n : Nat} {L : aL} {S : List Value} {M : aM} : am_run (c_Model_count) k_Model_count J K (n + 1) 1 L S M = ai_ifne 11 4 (am_run (c_Model_count) k_Model_count J K n) K 1 L S M := by rfl
theorem r_Model_count_4 {J : aJ} {K : aR} {n : Nat} {L : aL} {S : List Value} {M : aM} : am_run (c_Model_count) k_Model_count J K (n + 1) 4 L S M = ai_aload 0 5 (am_run (c_Model_count) k_Model_count J K n) K 4 L S M := by rfl
theorem r_Model_count_5 {J : aJ} {K : aR} {n : Nat} {L : aL} {S : List Value} {M : aM} : am_run (c_Model_count) k_Model_count J K (n + 1) 5 L S M = ai_getf 7 1 8 (am_run (c_Model_count) k_Model_count J K n) K 5 L S M := by rfl
theorem r_Model_count_8 {J : aJ} {K : aR} {n : Nat} {L : aL} {S : List Value} {M : aM} : am_run (c_Model_count) k_Model_count J K (n + 1) 8 L S M = ai_goto 48 (am_run (c_Model_count) k_Model_count J K n) K 8 L S M := by rfl
theorem r_Model_count_11 {J : aJ} {K : aR} {n : Nat} {L : aL} {S : List Value} {M : aM} : am_run (c_Model_count) k_Model_count J K (n + 1) 11 L S M = ai_iload 1 12 (am_run (c_Model_count) k_Model_count J K n) K 11 L S M := by rfl
theorem r_Model_count_12 {J : aJ} {K : aR} {n : Nat} {L : aL} {S : List Value} {M : aM} : am_run (c_Model_count) k_Model_count J K (n + 1) 12 L S M = ai_const 1 13 (am_run (c_Model_count) k_Model_count J K n) K 12 L S M := by rfl
theorem r_Model_count_13 {J : aJ} {K : aR} {n : Nat} {L : aL} {S : List Value} {M : aM} : am_run (c_Model_count) k_Model_count J K (n + 1) 13 L S M = ai_cmpne 23 16 (am_run (c_Model_count) k_Model_count J K n) K 13 L S M := by rfl
theorem r_Model_count_16 {J : aJ} {K : aR} {n : Nat} {L : aL} {S : List Value} {M : aM} : am_run (c_Model_count) k_Model_count J K (n + 1) 16 L S M = ai_aload 0 17 (am_run (c_Model_count) k_Model_count J K n) K 16 L S M := by rfl
theorem r_Model_count_17 {J : aJ} {K : aR} {n : Nat} {L : aL} {S : List Value} {M : aM} : am_run (c_Model_count) k_Model_count J K (n + 1) 17 L S M = ai_getf 7 5 20 (am_run (c_Model_count) k_Model_count J K n) K 17 L S M := by rfl
theorem r_Model_count_20 {J : aJ} {K : aR} {n : Nat} {L : aL} {S : List Value} {M : aM} : am_run (c_Model_count) k_Model_count J K (n + 1) 20 L S M = ai_goto 48 (am_run (c_Model_count) k_Model_count J K n) K 20 L S M := by rfl
theorem r_Model_count_23 {J : aJ} {K : aR} {n : Nat} {L : aL} {S : List Value} {M : aM} : am_run (c_Model_count) k_Model_count J K (n + 1) 23 L S M = ai_iload 1 24 (am_run (c_Model_count) k_Model_count J K n) K 23 L S M := by rfl
theorem r_Model_count_24 {J : aJ} {K : aR} {n : Nat} {L : aL} {S : List Value} {M : aM} : am_run (c_Model_count) k_Model_count J K (n + 1) 24 L S M = ai_const 2 25 (am_run (c_Model_count) k_Model_count J K n) K 24 L S M := by rfl
theorem r_Model_count_25 {J : aJ} {K : aR} {n : Nat} {L : aL} {S : List Value} {M : aM} : am_run (c_Model_count) k_Model_count J K (n + 1) 25 L S M = ai_cmpne 35 28 (am_run (c_Model_count) k_Model_count J K n) K 25 L S M := by rfl
theorem r_Model_count_28 {J : aJ} {K : aR} {n : Nat} {L : aL} {S : List Value} {M : aM} : am_run (c_Model_count) k_Model_count J K (n + 1) 28 L S M = ai_aload 0 29 (am_run (c_Model_count) k_Model_count J K n) K 28 L S M := by rfl
theorem r_Model_count_29 {J : aJ} {K : aR} {n : Nat} {L : aL} {S : List Value} {M : aM} : am_run (c_Model_count) k_Model_count J K (n + 1) 29 L S M = ai_getf 7 11 32 (am_run (c_Model_count) k_Model_count J K n) K 29 L S M := by rfl
theorem r_Model_count_32 {J : aJ} {K : aR} {n : Nat} {L : aL} {S : List Value} {M : aM} : am_run (c_Model_count) k_Model_count J K (n + 1) 32 L S M = ai_goto 48 (am_run (c_Model_count) k_Model_count J K n) K 32 L S M := by rfl
theorem r_Model_count_35 {J : aJ} {K : aR} {n : Nat} {L : aL} {S : List Value} {M : aM} : am_run (c_Model_count) k_Model_count J K (n + 1) 35 L S M = ai_iload 1 36 (am_run (c_Model_count) k_Model_count J K n) K 35 L S M := by rfl
theorem r_Model_count_36 {J : aJ} {K : aR} {n : Nat} {L : aL} {S : List Value} {M : aM} : am_run (c_Model_count) k_Model_count J K (n + 1) 36 L S M = ai_const 3 37 (am_run (c_Model_count) k_Model_count J K n) K 36 L S M := by rfl
theorem r_Model_count_37 {J : aJ} {K : aR} {n : Nat} {L : aL} {S : List Value} {M : aM} : am_run (c_Model_count) k_Model_count J K (n + 1) 37 L S M = ai_cmpne 47 40 (am_run (c_Model_count) k_Model_count J K n) K 37 L S M := by rfl
theorem r_Model_count_40 {J : aJ} {K : aR} {n : Nat} {L : aL} {S : List Value} {M : aM} : am_run (c_Model_count) k_Model_count J K (n + 1) 40 L S M = ai_aload 0 41 (am_run (c_Model_count) k_Model_count J K n) K 40 L S M := by rfl
theorem r_Model_count_41 {J : aJ} {K : aR} {n : Nat} {L : aL} {S : List Value} {M : aM} : am_run (c_Model_count) k_Model_count J K (n + 1) 41 L S M = ai_getf 7 18 44 (am_run (c_Model_count) k_Model_count J K n) K 41 L S M := by rfl
theorem r_Model_count_44 {J : aJ} {K : aR} {n : Nat} {L : aL} {S : List Value} {M : aM} : am_run (c_Model_count) k_Model_count J K (n + 1) 44 L S M = ai_goto 48 (am_run (c_Model_count) k_Model_count J K n) K 44 L S M := by rfl
theorem r_Model_count_47 {J : aJ} {K : aR} {n : Nat} {L : aL} {S : List Value} {M : aM} : am_run (c_Model_count) k_Model_count J K (n + 1) 47 L S M = ai_const (-1) 48 (am_run (c_Model_count) k_Model_count J K n) K 47 L S M := by rfl
theorem r_Model_count_48 {J : aJ} {K : aR} {n : Nat} {L : aL} {S : List Value} {M : aM} : am_run (c_Model_count) k_Model_count J K (n + 1) 48 L S M = ai_iret (am_run (c_Model_count) k_Model_count J K n) K 48 L S M := by rfl
