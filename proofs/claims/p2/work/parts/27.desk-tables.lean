def c_Desk_put (s_Text_append : aS) : List (Nat × aI) := [
  (0, ai_iload 3 1),
  (1, ai_const 1 2),
  (2, ai_cmplt 26 5),
  (5, ai_iload 3 6),
  (6, ai_const 8 8),
  (8, ai_cmpgt 26 11),
  (11, ai_aload 0 12),
  (12, ai_getf 6 0 15),
  (15, ai_getf 2 1 18),
  (18, ai_iload 3 19),
  (19, ai_iadd 20),
  (20, ai_const 400 23),
  (23, ai_cmple 28 26),
  (26, ai_const 0 27),
  (27, ai_zret),
  (28, ai_iload 3 29),
  (29, ai_const 1 30),
  (30, ai_isub 31),
  (31, ai_istore 4 33),
  (33, ai_iload 4 35),
  (35, ai_iflt 63 38),
  (38, ai_aload 0 39),
  (39, ai_getf 6 0 42),
  (42, ai_lload 1 43),
  (43, ai_const 8 45),
  (45, ai_iload 4 47),
  (47, ai_imul 48),
  (48, ai_lushr 49),
  (49, ai_l2i 50),
  (50, ai_const 255 53),
  (53, ai_iand 54),
  (54, ai_callv2 2 s_Text_append 57),
  (57, ai_iinc 4 (-1) 60),
  (60, ai_goto 33),
  (63, ai_const 1 64),
  (64, ai_zret)]
set_option maxRecDepth 100000 in
set_option maxHeartbeats 4000000 in
theorem tb_Desk_put {G : aG} {d : Nat} {s_Text_append : aS} {d_Text_append : Nat} (h_Text_append : am_Sp G Y_Text_append d_Text_append s_Text_append) (l_Text_append : d_Text_append < d) : am_tab G Y_Desk_put d (c_Desk_put s_Text_append) := by
  intro K p e s m args below meth c C
  exact ⟨as_iload_n C (pc := 0) (q := 3) (by decide +kernel) rfl rfl,
    as_iconst C (pc := 1) (n := 1) (by decide +kernel) (by decide +kernel) rfl,
    as_cmplt C (pc := 2) (off := 24) (by decide +kernel) (by decide) rfl,
    as_iload_n C (pc := 5) (q := 3) (by decide +kernel) rfl rfl,
    as_bipush C (pc := 6) (n := 8) (by decide +kernel) (by decide +kernel) rfl,
    as_cmpgt C (pc := 8) (off := 18) (by decide +kernel) (by decide) rfl,
    as_aload_n C (pc := 11) (q := 0) (by decide +kernel) rfl rfl,
    as_getf C (pc := 12) (T := T_Desk) (N := 5) rfl in_Desk (by decide) rfl w_223 (by decide +kernel) rfl,
    as_getfN C (pc := 15) (T := T_Text) (N := 2) rfl in_Text (by decide) rfl w_100 (by decide +kernel) rfl,
    as_iload_n C (pc := 18) (q := 3) (by decide +kernel) rfl rfl,
    as_iadd C (pc := 19) (by decide +kernel) rfl,
    as_sipush C (pc := 20) (n := 400) (by decide +kernel) (by decide +kernel) rfl,
    as_cmple C (pc := 23) (off := 5) (by decide +kernel) (by decide) rfl,
    as_iconst C (pc := 26) (n := 0) (by decide +kernel) (by decide +kernel) rfl,
    as_zret C (pc := 27) rfl (by decide +kernel),
    as_iload_n C (pc := 28) (q := 3) (by decide +kernel) rfl rfl,
    as_iconst C (pc := 29) (n := 1) (by decide +kernel) (by decide +kernel) rfl,
    as_isub C (pc := 30) (by decide +kernel) rfl,
    as_istore C (pc := 31) (k := 4) (by decide +kernel) (by decide) rfl,
    as_iload C (pc := 33) (k := 4) (by decide +kernel) rfl,
    as_iflt C (pc := 35) (off := 28) (by decide +kernel) (by decide) rfl,
    as_aload_n C (pc := 38) (q := 0) (by decide +kernel) rfl rfl,
    as_getf C (pc := 39) (T := T_Desk) (N := 5) rfl in_Desk (by decide) rfl w_223 (by decide +kernel) rfl,
    as_lload_n C (pc := 42) (q := 1) (by decide +kernel) rfl rfl,
    as_bipush C (pc := 43) (n := 8) (by decide +kernel) (by decide +kernel) rfl,
    as_iload C (pc := 45) (k := 4) (by decide +kernel) rfl,
    as_imul C (pc := 47) (by decide +kernel) rfl,
    as_lushr C (pc := 48) (by decide +kernel) rfl,
    as_l2i C (pc := 49) (by decide +kernel) rfl,
    as_sipush C (pc := 50) (n := 255) (by decide +kernel) (by decide +kernel) rfl,
    as_iand C (pc := 53) (by decide +kernel) rfl,
    as_callv2N C (pc := 54) h_Text_append (T := T_Text) (N := 2) rfl w_246 w_71 w_245 w_0 w_243 hy_Text_append (am_rm_of l_Text_append (by decide)) (by decide +kernel) rfl,
    as_iinc C (pc := 57) (k := 4) (n := (-1)) (by decide +kernel) (by decide +kernel) (by decide) rfl,
    as_goto C (pc := 60) (off := (-27)) (by decide +kernel) (by decide),
    as_iconst C (pc := 63) (n := 1) (by decide +kernel) (by decide +kernel) rfl,
    as_zret C (pc := 64) rfl (by decide +kernel), trivial⟩
abbrev k_Desk_put : List Nat := [33]
theorem q_Desk_put_33 {s_Text_append : aS} : am_at (c_Desk_put s_Text_append) 33 = ai_iload 4 35 := by rfl
theorem r_Desk_put_0 {s_Text_append : aS} {J : aJ} {K : aR} {n : Nat} {L : aL} {S : List Value} {M : aM} : am_run (c_Desk_put s_Text_append) k_Desk_put J K (n + 1) 0 L S M = ai_iload 3 1 (am_run (c_Desk_put s_Text_append) k_Desk_put J K n) K 0 L S M := by rfl
theorem r_Desk_put_1 {s_Text_append : aS} {J : aJ} {K : aR} {n : Nat} {L : aL} {S : List Value} {M : aM} : am_run (c_Desk_put s_Text_append) k_Desk_put J K (n + 1) 1 L S M = ai_const 1 2 (am_run (c_Desk_put s_Text_append) k_Desk_put J K n) K 1 L S M := by rfl
theorem r_Desk_put_2 {s_Text_append : aS} {J : aJ} {K : aR} {n : Nat} {L : aL} {S : List Value} {M : aM} : am_run (c_Desk_put s_Text_append) k_Desk_put J K (n + 1) 2 L S M = ai_cmplt 26 5 (am_run (c_Desk_put s_Text_append) k_Desk_put J K n) K 2 L S M := by rfl
theorem r_Desk_put_5 {s_Text_append : aS} {J : aJ} {K : aR} {n : Nat} {L : aL} {S : List Value} {M : aM} : am_run (c_Desk_put s_Text_append) k_Desk_put J K (n + 1) 5 L S M = ai_iload 3 6 (am_run (c_Desk_put s_Text_append) k_Desk_put J K n) K 5 L S M := by rfl
theorem r_Desk_put_6 {s_Text_append : aS} {J : aJ} {K : aR} {n : Nat} {L : aL} {S : List Value} {M : aM} : am_run (c_Desk_put s_Text_append) k_Desk_put J K (n + 1) 6 L S M = ai_const 8 8 (am_run (c_Desk_put s_Text_append) k_Desk_put J K n) K 6 L S M := by rfl
theorem r_Desk_put_8 {s_Text_append : aS} {J : aJ} {K : aR} {n : Nat} {L : aL} {S : List Value} {M : aM} : am_run (c_Desk_put s_Text_append) k_Desk_put J K (n + 1) 8 L S M = ai_cmpgt 26 11 (am_run (c_Desk_put s_Text_append) k_Desk_put J K n) K 8 L S M := by rfl
theorem r_Desk_put_11 {s_Text_append : aS} {J : aJ} {K : aR} {n : Nat} {L : aL} {S : List Value} {M : aM} : am_run (c_Desk_put s_Text_append) k_Desk_put J K (n + 1) 11 L S M = ai_aload 0 12 (am_run (c_Desk_put s_Text_append) k_Desk_put J K n) K 11 L S M := by rfl
theorem r_Desk_put_12 {s_Text_append : aS} {J : aJ} {K : aR} {n : Nat} {L : aL} {S : List Value} {M : aM} : am_run (c_Desk_put s_Text_append) k_Desk_put J K (n + 1) 12 L S M = ai_getf 6 0 15 (am_run (c_Desk_put s_Text_append) k_Desk_put J K n) K 12 L S M := by rfl
theorem r_Desk_put_15 {s_Text_append : aS} {J : aJ} {K : aR} {n : Nat} {L : aL} {S : List Value} {M : aM} : am_run (c_Desk_put s_Text_append) k_Desk_put J K (n + 1) 15 L S M = ai_getf 2 1 18 (am_run (c_Desk_put s_Text_append) k_Desk_put J K n) K 15 L S M := by rfl
theorem r_Desk_put_18 {s_Text_append : aS} {J : aJ} {K : aR} {n : Nat} {L : aL} {S : List Value} {M : aM} : am_run (c_Desk_put s_Text_append) k_Desk_put J K (n + 1) 18 L S M = ai_iload 3 19 (am_run (c_Desk_put s_Text_append) k_Desk_put J K n) K 18 L S M := by rfl
theorem r_Desk_put_19 {s_Text_append : aS} {J : aJ} {K : aR} {n : Nat} {L : aL} {S : List Value} {M : aM} : am_run (c_Desk_put s_Text_append) k_Desk_put J K (n + 1) 19 L S M = ai_iadd 20 (am_run (c_Desk_put s_Text_append) k_Desk_put J K n) K 19 L S M := by rfl
theorem r_Desk_put_20 {s_Text_append : aS} {J : aJ} {K : aR} {n : Nat} {L : aL} {S : List Value} {M : aM} : am_run (c_Desk_put s_Text_append) k_Desk_put J K (n + 1) 20 L S M = ai_const 400 23 (am_run (c_Desk_put s_Text_append) k_Desk_put J K n) K 20 L S M := by rfl
theorem r_Desk_put_23 {s_Text_append : aS} {J : aJ} {K : aR} {n : Nat} {L : aL} {S : List Value} {M : aM} : am_run (c_Desk_put s_Text_append) k_Desk_put J K (n + 1) 23 L S M = ai_cmple 28 26 (am_run (c_Desk_put s_Text_append) k_Desk_put J K n) K 23 L S M := by rfl
theorem r_Desk_put_26 {s_Text_append : aS} {J : aJ} {K : aR} {n : Nat} {L : aL} {S : List Value} {M : aM} : am_run (c_Desk_put s_Text_append) k_Desk_put J K (n + 1) 26 L S M = ai_const 0 27 (am_run (c_Desk_put s_Text_append) k_Desk_put J K n) K 26 L S M := by rfl
theorem r_Desk_put_27 {s_Text_append : aS} {J : aJ} {K : aR} {n : Nat} {L : aL} {S : List Value} {M : aM} : am_run (c_Desk_put s_Text_append) k_Desk_put J K (n + 1) 27 L S M = ai_zret (am_run (c_Desk_put s_Text_append) k_Desk_put J K n) K 27 L S M := by rfl
theorem r_Desk_put_28 {s_Text_append : aS} {J : aJ} {K : aR} {n : Nat} {L : aL} {S : List Value} {M : aM} : am_run (c_Desk_put s_Text_append) k_Desk_put J K (n + 1) 28 L S M = ai_iload 3 29 (am_run (c_Desk_put s_Text_append) k_Desk_put J K n) K 28 L S M := by rfl
theorem r_Desk_put_29 {s_Text_append : aS} {J : aJ} {K : aR} {n : Nat} {L : aL} {S : List Value} {M : aM} : am_run (c_Desk_put s_Text_append) k_Desk_put J K (n + 1) 29 L S M = ai_const 1 30 (am_run (c_Desk_put s_Text_append) k_Desk_put J K n) K 29 L S M := by rfl
theorem r_Desk_put_30 {s_Text_append : aS} {J : aJ} {K : aR} {n : Nat} {L : aL} {S : List Value} {M : aM} : am_run (c_Desk_put s_Text_append) k_Desk_put J K (n + 1) 30 L S M = ai_isub 31 (am_run (c_Desk_put s_Text_append) k_Desk_put J K n) K 30 L S M := by rfl
theorem r_Desk_put_31 {s_Text_append : aS} {J : aJ} {K : aR} {n : Nat} {L : aL} {S : List Value} {M : aM} : am_run (c_Desk_put s_Text_append) k_Desk_put J K (n + 1) 31 L S M = ai_istore 4 33 (am_run (c_Desk_put s_Text_append) k_Desk_put J K n) K 31 L S M := by rfl
theorem r_Desk_put_33 {s_Text_append : aS} {J : aJ} {K : aR} {n : Nat} {L : aL} {S : List Value} {M : aM} : am_run (c_Desk_put s_Text_append) k_Desk_put J K (n + 1) 33 L S M = J 33 L S M := by rfl
theorem r_Desk_put_35 {s_Text_append : aS} {J : aJ} {K : aR} {n : Nat} {L : aL} {S : List Value} {M : aM} : am_run (c_Desk_put s_Text_append) k_Desk_put J K (n + 1) 35 L S M = ai_iflt 63 38 (am_run (c_Desk_put s_Text_append) k_Desk_put J K n) K 35 L S M := by rfl
theorem r_Desk_put_38 {s_Text_append : aS} {J : aJ} {K : aR} {n : Nat} {L : aL} {S : List Value} {M : aM} : am_run (c_Desk_put s_Text_append) k_Desk_put J K (n + 1) 38 L S M = ai_aload 0 39 (am_run (c_Desk_put s_Text_append) k_Desk_put J K n) K 38 L S M := by rfl
theorem r_Desk_put_39 {s_Text_append : aS} {J : aJ} {K : aR} {n : Nat} {L : aL} {S : List Value} {M : aM} : am_run (c_Desk_put s_Text_append) k_Desk_put J K (n + 1) 39 L S M = ai_getf 6 0 42 (am_run (c_Desk_put s_Text_append) k_Desk_put J K n) K 39 L S M := by rfl
theorem r_Desk_put_42 {s_Text_append : aS} {J : aJ} {K : aR} {n : Nat} {L : aL} {S : List Value} {M : aM} : am_run (c_Desk_put s_Text_append) k_Desk_put J K (n + 1) 42 L S M = ai_lload 1 43 (am_run (c_Desk_put s_Text_append) k_Desk_put J K n) K 42 L S M := by rfl
theorem r_Desk_put_43 {s_Text_append : aS} {J : aJ} {K : aR} {n : Nat} {L : aL} {S : List Value} {M : aM} : am_run (c_Desk_put s_Text_append) k_Desk_put J K (n + 1) 43 L S M = ai_const 8 45 (am_run (c_Desk_put s_Text_append) k_Desk_put J K n) K 43 L S M := by rfl
theorem r_Desk_put_45 {s_Text_append : aS} {J : aJ} {K : aR} {n : Nat} {L : aL} {S : List Value} {M : aM} : am_run (c_Desk_put s_Text_append) k_Desk_put J K (n + 1) 45 L S M = ai_iload 4 47 (am_run (c_Desk_put s_Text_append) k_Desk_put J K n) K 45 L S M := by rfl
theorem r_Desk_put_47 {s_Text_append : aS} {J : aJ} {K : aR} {n : Nat} {L : aL} {S : List Value} {M : aM} : am_run (c_Desk_put s_Text_append) k_Desk_put J K (n + 1) 47 L S M = ai_imul 48 (am_run (c_Desk_put s_Text_append) k_Desk_put J K n) K 47 L S M := by rfl
theorem r_Desk_put_48 {s_Text_append : aS} {J : aJ} {K : aR} {n : Nat} {L : aL} {S : List Value} {M : aM} : am_run (c_Desk_put s_Text_append) k_Desk_put J K (n + 1) 48 L S M = ai_lushr 49 (am_run (c_Desk_put s_Text_append) k_Desk_put J K n) K 48 L S M := by rfl
theorem r_Desk_put_49 {s_Text_append : aS} {J : aJ} {K : aR} {n : Nat} {L : aL} {S : List Value} {M : aM} : am_run (c_Desk_put s_Text_append) k_Desk_put J K (n + 1) 49 L S M = ai_l2i 50 (am_run (c_Desk_put s_Text_append) k_Desk_put J K n) K 49 L S M := by rfl
theorem r_Desk_put_50 {s_Text_append : aS} {J : aJ} {K : aR} {n : Nat} {L : aL} {S : List Value} {M : aM} : am_run (c_Desk_put s_Text_append) k_Desk_put J K (n + 1) 50 L S M = ai_const 255 53 (am_run (c_Desk_put s_Text_append) k_Desk_put J K n) K 50 L S M := by rfl
theorem r_Desk_put_53 {s_Text_append : aS} {J : aJ} {K : aR} {n : Nat} {L : aL} {S : List Value} {M : aM} : am_run (c_Desk_put s_Text_append) k_Desk_put J K (n + 1) 53 L S M = ai_iand 54 (am_run (c_Desk_put s_Text_append) k_Desk_put J K n) K 53 L S M := by rfl
theorem r_Desk_put_54 {s_Text_append : aS} {J : aJ} {K : aR} {n : Nat} {L : aL} {S : List Value} {M : aM} : am_run (c_Desk_put s_Text_append) k_Desk_put J K (n + 1) 54 L S M = ai_callv2 2 s_Text_append 57 (am_run (c_Desk_put s_Text_append) k_Desk_put J K n) K 54 L S M := by rfl
theorem r_Desk_put_57 {s_Text_append : aS} {J : aJ} {K : aR} {n : Nat} {L : aL} {S : List Value} {M : aM} : am_run (c_Desk_put s_Text_append) k_Desk_put J K (n + 1) 57 L S M = ai_iinc 4 (-1) 60 (am_run (c_Desk_put s_Text_append) k_Desk_put J K n) K 57 L S M := by rfl
theorem r_Desk_put_60 {s_Text_append : aS} {J : aJ} {K : aR} {n : Nat} {L : aL} {S : List Value} {M : aM} : am_run (c_Desk_put s_Text_append) k_Desk_put J K (n + 1) 60 L S M = ai_goto 33 (am_run (c_Desk_put s_Text_append) k_Desk_put J K n) K 60 L S M := by rfl
theorem r_Desk_put_63 {s_Text_append : aS} {J : aJ} {K : aR} {n : Nat} {L : aL} {S : List Value} {M : aM} : am_run (c_Desk_put s_Text_append) k_Desk_put J K (n + 1) 63 L S M = ai_const 1 64 (am_run (c_Desk_put s_Text_append) k_Desk_put J K n) K 63 L S M := by rfl
theorem r_Desk_put_64 {s_Text_append : aS} {J : aJ} {K : aR} {n : Nat} {L : aL} {S : List Value} {M : aM} : am_run (c_Desk_put s_Text_append) k_Desk_put J K (n + 1) 64 L S M = ai_zret (am_run (c_Desk_put s_Text_append) k_Desk_put J K n) K 64 L S M := by rfl
def c_Desk_read (s_Reader_readText : aS) : List (Nat × aI) := [
  (0, ai_aload 0 1),
  (1, ai_getf 6 2 4),
  (4, ai_callv1 1 s_Reader_readText 7),
  (7, ai_aload 0 8),
  (8, ai_getf 6 0 11),
  (11, ai_const 0 12),
  (12, ai_putf 2 1 15),
  (15, ai_aload 0 16),
  (16, ai_getf 6 2 19),
  (19, ai_getf 1 4 22),
  (22, ai_const (-1) 23),
  (23, ai_cmpne 36 26),
  (26, ai_aload 0 27),
  (27, ai_getf 6 1 30),
  (30, ai_getf 0 7 33),
  (33, ai_goto 37),
  (36, ai_const (-1) 37),
  (37, ai_iret)]
set_option maxRecDepth 100000 in
set_option maxHeartbeats 4000000 in
theorem tb_Desk_read {G : aG} {d : Nat} {s_Reader_readText : aS} {d_Reader_readText : Nat} (h_Reader_readText : am_Sp G Y_Reader_readText d_Reader_readText s_Reader_readText) (l_Reader_readText : d_Reader_readText < d) : am_tab G Y_Desk_read d (c_Desk_read s_Reader_readText) := by
  intro K p e s m args below meth c C
  exact ⟨as_aload_n C (pc := 0) (q := 0) (by decide +kernel) rfl rfl,
    as_getf C (pc := 1) (T := T_Desk) (N := 5) rfl in_Desk (by decide) rfl w_225 (by decide +kernel) rfl,
    as_callv1N C (pc := 4) h_Reader_readText (T := T_Reader) (N := 5) rfl w_254 w_74 w_253 w_1 w_251 hy_Reader_readText (am_rm_of l_Reader_readText (by decide)) (by decide +kernel) rfl,
    as_aload_n C (pc := 7) (q := 0) (by decide +kernel) rfl rfl,
    as_getf C (pc := 8) (T := T_Desk) (N := 5) rfl in_Desk (by decide) rfl w_223 (by decide +kernel) rfl,
    as_iconst C (pc := 11) (n := 0) (by decide +kernel) (by decide +kernel) rfl,
    as_putfN C (pc := 12) t_Text (T := T_Text) (N := 2) rfl in_Text tok_Text nm_Text (by decide) rfl rfl (by decide +kernel) w_100 (by decide +kernel) rfl,
    as_aload_n C (pc := 15) (q := 0) (by decide +kernel) rfl rfl,
    as_getf C (pc := 16) (T := T_Desk) (N := 5) rfl in_Desk (by decide) rfl w_225 (by decide +kernel) rfl,
    as_getfN C (pc := 19) (T := T_Reader) (N := 5) rfl in_Reader (by decide) rfl w_181 (by decide +kernel) rfl,
    as_iconst C (pc := 22) (n := (-1)) (by decide +kernel) (by decide +kernel) rfl,
    as_cmpne C (pc := 23) (off := 13) (by decide +kernel) (by decide) rfl,
    as_aload_n C (pc := 26) (q := 0) (by decide +kernel) rfl rfl,
    as_getf C (pc := 27) (T := T_Desk) (N := 5) rfl in_Desk (by decide) rfl w_224 (by decide +kernel) rfl,
    as_getfN C (pc := 30) (T := T_Nodes) (N := 10) rfl in_Nodes (by decide) rfl w_127 (by decide +kernel) rfl,
    as_goto C (pc := 33) (off := 4) (by decide +kernel) (by decide),
    as_iconst C (pc := 36) (n := (-1)) (by decide +kernel) (by decide +kernel) rfl,
    as_iret C (pc := 37) rfl (by decide +kernel), trivial⟩
abbrev k_Desk_read : List Nat := []
theorem r_Desk_read_0 {s_Reader_readText : aS} {J : aJ} {K : aR} {n : Nat} {L : aL} {S : List Value} {M : aM} : am_run (c_Desk_read s_Reader_readText) k_Desk_read J K (n + 1) 0 L S M = ai_aload 0 1 (am_run (c_Desk_read s_Reader_readText) k_Desk_read J K n) K 0 L S M := by rfl
theorem r_Desk_read_1 {s_Reader_readText : aS} {J : aJ} {K : aR} {n : Nat} {L : aL} {S : List Value} {M : aM} : am_run (c_Desk_read s_Reader_readText) k_Desk_read J K (n + 1) 1 L S M = ai_getf 6 2 4 (am_run (c_Desk_read s_Reader_readText) k_Desk_read J K n) K 1 L S M := by rfl
theorem r_Desk_read_4 {s_Reader_readText : aS} {J : aJ} {K : aR} {n : Nat} {L : aL} {S : List Value} {M : aM} : am_run (c_Desk_read s_Reader_readText) k_Desk_read J K (n + 1) 4 L S M = ai_callv1 1 s_Reader_readText 7 (am_run (c_Desk_read s_Reader_readText) k_Desk_read J K n) K 4 L S M := by rfl
theorem r_Desk_read_7 {s_Reader_readText : aS} {J : aJ} {K : aR} {n : Nat} {L : aL} {S : List Value} {M : aM} : am_run (c_Desk_read s_Reader_readText) k_Desk_read J K (n + 1) 7 L S M = ai_aload 0 8 (am_run (c_Desk_read s_Reader_readText) k_Desk_read J K n) K 7 L S M := by rfl
theorem r_Desk_read_8 {s_Reader_readText : aS} {J : aJ} {K : aR} {n : Nat} {L : aL} {S : List Value} {M : aM} : am_run (c_Desk_read s_Reader_readText) k_Desk_read J K (n + 1) 8 L S M = ai_getf 6 0 11 (am_run (c_Desk_read s_Reader_readText) k_Desk_read J K n) K 8 L S M := by rfl
theorem r_Desk_read_11 {s_Reader_readText : aS} {J : aJ} {K : aR} {n : Nat} {L : aL} {S : List Value} {M : aM} : am_run (c_Desk_read s_Reader_readText) k_Desk_read J K (n + 1) 11 L S M = ai_const 0 12 (am_run (c_Desk_read s_Reader_readText) k_Desk_read J K n) K 11 L S M := by rfl
theorem r_Desk_read_12 {s_Reader_readText : aS} {J : aJ} {K : aR} {n : Nat} {L : aL} {S : List Value} {M : aM} : am_run (c_Desk_read s_Reader_readText) k_Desk_read J K (n + 1) 12 L S M = ai_putf 2 1 15 (am_run (c_Desk_read s_Reader_readText) k_Desk_read J K n) K 12 L S M := by rfl
theorem r_Desk_read_15 {s_Reader_readText : aS} {J : aJ} {K : aR} {n : Nat} {L : aL} {S : List Value} {M : aM} : am_run (c_Desk_read s_Reader_readText) k_Desk_read J K (n + 1) 15 L S M = ai_aload 0 16 (am_run (c_Desk_read s_Reader_readText) k_Desk_read J K n) K 15 L S M := by rfl
theorem r_Desk_read_16 {s_Reader_readText : aS} {J : aJ} {K : aR} {n : Nat} {L : aL} {S : List Value} {M : aM} : am_run (c_Desk_read s_Reader_readText) k_Desk_read J K (n + 1) 16 L S M = ai_getf 6 2 19 (am_run (c_Desk_read s_Reader_readText) k_Desk_read J K n) K 16 L S M := by rfl
theorem r_Desk_read_19 {s_Reader_readText : aS} {J : aJ} {K : aR} {n : Nat} {L : aL} {S : List Value} {M : aM} : am_run (c_Desk_read s_Reader_readText) k_Desk_read J K (n + 1) 19 L S M = ai_getf 1 4 22 (am_run (c_Desk_read s_Reader_readText) k_Desk_read J K n) K 19 L S M := by rfl
theorem r_Desk_read_22 {s_Reader_readText : aS} {J : aJ} {K : aR} {n : Nat} {L : aL} {S : List Value} {M : aM} : am_run (c_Desk_read s_Reader_readText) k_Desk_read J K (n + 1) 22 L S M = ai_const (-1) 23 (am_run (c_Desk_read s_Reader_readText) k_Desk_read J K n) K 22 L S M := by rfl
theorem r_Desk_read_23 {s_Reader_readText : aS} {J : aJ} {K : aR} {n : Nat} {L : aL} {S : List Value} {M : aM} : am_run (c_Desk_read s_Reader_readText) k_Desk_read J K (n + 1) 23 L S M = ai_cmpne 36 26 (am_run (c_Desk_read s_Reader_readText) k_Desk_read J K n) K 23 L S M := by rfl
theorem r_Desk_read_26 {s_Reader_readText : aS} {J : aJ} {K : aR} {n : Nat} {L : aL} {S : List Value} {M : aM} : am_run (c_Desk_read s_Reader_readText) k_Desk_read J K (n + 1) 26 L S M = ai_aload 0 27 (am_run (c_Desk_read s_Reader_readText) k_Desk_read J K n) K 26 L S M := by rfl
theorem r_Desk_read_27 {s_Reader_readText : aS} {J : aJ} {K : aR} {n : Nat} {L : aL} {S : List Value} {M : aM} : am_run (c_Desk_read s_Reader_readText) k_Desk_read J K (n + 1) 27 L S M = ai_getf 6 1 30 (am_run (c_Desk_read s_Reader_readText) k_Desk_read J K n) K 27 L S M := by rfl
theorem r_Desk_read_30 {s_Reader_readText : aS} {J : aJ} {K : aR} {n : Nat} {L : aL} {S : List Value} {M : aM} : am_run (c_Desk_read s_Reader_readText) k_Desk_read J K (n + 1) 30 L S M = ai_getf 0 7 33 (am_run (c_Desk_read s_Reader_readText) k_Desk_read J K n) K 30 L S M := by rfl
theorem r_Desk_read_33 {s_Reader_readText : aS} {J : aJ} {K : aR} {n : Nat} {L : aL} {S : List Value} {M : aM} : am_run (c_Desk_read s_Reader_readText) k_Desk_read J K (n + 1) 33 L S M = ai_goto 37 (am_run (c_Desk_read s_Reader_readText) k_Desk_read J K n) K 33 L S M := by rfl
theorem r_Desk_read_36 {s_Reader_readText : aS} {J : aJ} {K : aR} {n : Nat} {L : aL} {S : List Value} {M : aM} : am_run (c_Desk_read s_Reader_readText) k_Desk_read J K (n + 1) 36 L S M = ai_const (-1) 37 (am_run (c_Desk_read s_Reader_readText) k_Desk_read J K n) K 36 L S M := by rfl
theorem r_Desk_read_37 {s_Reader_readText : aS} {J : aJ} {K : aR} {n : Nat} {L : aL} {S : List Value} {M : aM} : am_run (c_Desk_read s_Reader_readText) k_Desk_read J K (n + 1) 37 L S M = ai_iret (am_run (c_Desk_read s_Reader_readText) k_Desk_read J K n) K 37 L S M := by rfl
def c_Desk_place : List (Nat × aI) := [
  (0, ai_aload 0 1),
  (1, ai_getf 6 2 4),
  (4, ai_getf 1 4 7),
  (7, ai_iret)]
set_option maxRecDepth 100000 in
set_option maxHeartbeats 4000000 in
theorem tb_Desk_place {G : aG} {d : Nat} : am_tab G Y_Desk_place d (c_Desk_place) := by
  intro K p e s m args below meth c C
  exact ⟨as_aload_n C (pc := 0) (q := 0) (by decide +kernel) rfl rfl,
    as_getf C (pc := 1) (T := T_Desk) (N := 5) rfl in_Desk (by decide) rfl w_225 (by decide +kernel) rfl,
    as_getfN C (pc := 4) (T := T_Reader) (N := 5) rfl in_Reader (by decide) rfl w_181 (by decide +kernel) rfl,
    as_iret C (pc := 7) rfl (by decide +kernel), trivial⟩
abbrev k_Desk_place : List Nat := []
theorem r_Desk_place_0 {J : aJ} {K : aR} {n : Nat} {L : aL} {S : List Value} {M : aM} : am_run (c_Desk_place) k_Desk_place J K (n + 1) 0 L S M = ai_aload 0 1 (am_run (c_Desk_place) k_Desk_place J K n) K 0 L S M := by rfl
theorem r_Desk_place_1 {J : aJ} {K : aR} {n : Nat} {L : aL} {S : List Value} {M : aM} : am_run (c_Desk_place) k_Desk_place J K (n + 1) 1 L S M = ai_getf 6 2 4 (am_run (c_Desk_place) k_Desk_place J K n) K 1 L S M := by rfl
theorem r_Desk_place_4 {J : aJ} {K : aR} {n : Nat} {L : aL} {S : List Value} {M : aM} : am_run (c_Desk_place) k_Desk_place J K (n + 1) 4 L S M = ai_getf 1 4 7 (am_run (c_Desk_place) k_Desk_place J K n) K 4 L S M := by rfl
theorem r_Desk_place_7 {J : aJ} {K : aR} {n : Nat} {L : aL} {S : List Value} {M : aM} : am_run (c_Desk_place) k_Desk_place J K (n + 1) 7 L S M = ai_iret (am_run (c_Desk_place) k_Desk_place J K n) K 7 L S M := by rfl
def c_Desk_datum (s_Nodes_datumNode : aS) : List (Nat × aI) := [
  (0, ai_aload 0 1),
  (1, ai_getf 6 1 4),
  (4, ai_iload 1 5),
  (5, ai_callv2 0 s_Nodes_datumNode 8),
  (8, ai_iret)]
set_option maxRecDepth 100000 in
set_option maxHeartbeats 4000000 in
theorem tb_Desk_datum {G : aG} {d : Nat} {s_Nodes_datumNode : aS} {d_Nodes_datumNode : Nat} (h_Nodes_datumNode : am_Sp G Y_Nodes_datumNode d_Nodes_datumNode s_Nodes_datumNode) (l_Nodes_datumNode : d_Nodes_datumNode < d) : am_tab G Y_Desk_datum d (c_Desk_datum s_Nodes_datumNode) := by
  intro K p e s m args below meth c C
  exact ⟨as_aload_n C (pc := 0) (q := 0) (by decide +kernel) rfl rfl,
    as_getf C (pc := 1) (T := T_Desk) (N := 5) rfl in_Desk (by decide) rfl w_224 (by decide +kernel) rfl,
    as_iload_n C (pc := 4) (q := 1) (by decide +kernel) rfl rfl,
    as_callv2N C (pc := 5) h_Nodes_datumNode (T := T_Nodes) (N := 10) rfl w_393 w_72 w_392 w_32 w_390 hy_Nodes_datumNode (am_rm_of l_Nodes_datumNode (by decide)) (by decide +kernel) rfl,
    as_iret C (pc := 8) rfl (by decide +kernel), trivial⟩
abbrev k_Desk_datum : List Nat := []
theorem r_Desk_datum_0 {s_Nodes_datumNode : aS} {J : aJ} {K : aR} {n : Nat} {L : aL} {S : List Value} {M : aM} : am_run (c_Desk_datum s_Nodes_datumNode) k_Desk_datum J K (n + 1) 0 L S M = ai_aload 0 1 (am_run (c_Desk_datum s_Nodes_datumNode) k_Desk_datum J K n) K 0 L S M := by rfl
theorem r_Desk_datum_1 {s_Nodes_datumNode : aS} {J : aJ} {K : aR} {n : Nat} {L : aL} {S : List Value} {M : aM} : am_run (c_Desk_datum s_Nodes_datumNode) k_Desk_datum J K (n + 1) 1 L S M = ai_getf 6 1 4 (am_run (c_Desk_datum s_Nodes_datumNode) k_Desk_datum J K n) K 1 L S M := by rfl
theorem r_Desk_datum_4 {s_Nodes_datumNode : aS} {J : aJ} {K : aR} {n : Nat} {L : aL} {S : List Value} {M : aM} : am_run (c_Desk_datum s_Nodes_datumNode) k_Desk_datum J K (n + 1) 4 L S M = ai_iload 1 5 (am_run (c_Desk_datum s_Nodes_datumNode) k_Desk_datum J K n) K 4 L S M := by rfl
theorem r_Desk_datum_5 {s_Nodes_datumNode : aS} {J : aJ} {K : aR} {n : Nat} {L : aL} {S : List Value} {M : aM} : am_run (c_Desk_datum s_Nodes_datumNode) k_Desk_datum J K (n + 1) 5 L S M = ai_callv2 0 s_Nodes_datumNode 8 (am_run (c_Desk_datum s_Nodes_datumNode) k_Desk_datum J K n) K 5 L S M := by rfl
theorem r_Desk_datum_8 {s_Nodes_datumNode : aS} {J : aJ} {K : aR} {n : Nat} {L : aL} {S : List Value} {M : aM} : am_run (c_Desk_datum s_Nodes_datumNode) k_Desk_datum J K (n + 1) 8 L S M = ai_iret (am_run (c_Desk_datum s_Nodes_datumNode) k_Desk_datum J K n) K 8 L S M := by rfl
def c_Desk_kind (s_Nodes_kindOf : aS) : List (Nat × aI) := [
  (0, ai_aload 0 1),
  (1, ai_getf 6 1 4),
  (4, ai_iload 1 5),
  (5, ai_callv2 0 s_Nodes_kindOf 8),
  (8, ai_iret)]
set_option maxRecDepth 100000 in
set_option maxHeartbeats 4000000 in
theorem tb_Desk_kind {G : aG} {d : Nat} {s_Nodes_kindOf : aS} {d_Nodes_kindOf : Nat} (h_Nodes_kindOf : am_Sp G Y_Nodes_kindOf d_Nodes_kindOf s_Nodes_kindOf) (l_Nodes_kindOf : d_Nodes_kindOf < d) : am_tab G Y_Desk_kind d (c_Desk_kind s_Nodes_kindOf) := by
  intro K p e s m args below meth c C
  exact ⟨as_aload_n C (pc := 0) (q := 0) (by decide +kernel) rfl rfl,
    as_getf C (pc := 1) (T := T_Desk) (N := 5) rfl in_Desk (by decide) rfl w_224 (by decide +kernel) rfl,
    as_iload_n C (pc := 4) (q := 1) (by decide +kernel) rfl rfl,
    as_callv2N C (pc := 5) h_Nodes_kindOf (T := T_Nodes) (N := 10) rfl w_401 w_72 w_400 w_33 w_398 hy_Nodes_kindOf (am_rm_of l_Nodes_kindOf (by decide)) (by decide +kernel) rfl,
    as_iret C (pc := 8) rfl (by decide +kernel), trivial⟩
abbrev k_Desk_kind : List Nat := []
theorem r_Desk_kind_0 {s_Nodes_kindOf : aS} {J : aJ} {K : aR} {n : Nat} {L : aL} {S : List Value} {M : aM} : am_run (c_Desk_kind s_Nodes_kindOf) k_Desk_kind J K (n + 1) 0 L S M = ai_aload 0 1 (am_run (c_Desk_kind s_Nodes_kindOf) k_Desk_kind J K n) K 0 L S M := by rfl
theorem r_Desk_kind_1 {s_Nodes_kindOf : aS} {J : aJ} {K : aR} {n : Nat} {L : aL} {S : List Value} {M : aM} : am_run (c_Desk_kind s_Nodes_kindOf) k_Desk_kind J K (n + 1) 1 L S M = ai_getf 6 1 4 (am_run (c_Desk_kind s_Nodes_kindOf) k_Desk_kind J K n) K 1 L S M := by rfl
theorem r_Desk_kind_4 {s_Nodes_kindOf : aS} {J : aJ} {K : aR} {n : Nat} {L : aL} {S : List Value} {M : aM} : am_run (c_Desk_kind s_Nodes_kindOf) k_Desk_kind J K (n + 1) 4 L S M = ai_iload 1 5 (am_run (c_Desk_kind s_Nodes_kindOf) k_Desk_kind J K n) K 4 L S M := by rfl
theorem r_Desk_kind_5 {s_Nodes_kindOf : aS} {J : aJ} {K : aR} {n : Nat} {L : aL} {S : List Value} {M : aM} : am_run (c_Desk_kind s_Nodes_kindOf) k_Desk_kind J K (n + 1) 5 L S M = ai_callv2 0 s_Nodes_kindOf 8 (am_run (c_Desk_kind s_Nodes_kindOf) k_Desk_kind J K n) K 5 L S M := by rfl
theorem r_Desk_kind_8 {s_Nodes_kindOf : aS} {J : aJ} {K : aR} {n : Nat} {L : aL} {S : List Value} {M : aM} : am_run (c_Desk_kind s_Nodes_kindOf) k_Desk_kind J K (n + 1) 8 L S M = ai_iret (am_run (c_Desk_kind s_Nodes_kindOf) k_Desk_kind J K n) K 8 L S M := by rfl
def c_Desk_value (s_Nodes_amountOf : aS) : List (Nat × aI) := [
  (0, ai_aload 0 1),
  (1, ai_getf 6 1 4),
  (4, ai_iload 1 5),
  (5, ai_callv2 0 s_Nodes_amountOf 8),
  (8, ai_iret)]
set_option maxRecDepth 100000 in
set_option maxHeartbeats 4000000 in
theorem tb_Desk_value {G : aG} {d : Nat} {s_Nodes_amountOf : aS} {d_Nodes_amountOf : Nat} (h_Nodes_amountOf : am_Sp G Y_Nodes_amountOf d_Nodes_amountOf s_Nodes_amountOf) (l_Nodes_amountOf : d_Nodes_amountOf < d) : am_tab G Y_Desk_value d (c_Desk_value s_Nodes_amountOf) := by
  intro K p e s m args below meth c C
  exact ⟨as_aload_n C (pc := 0) (q := 0) (by decide +kernel) rfl rfl,
    as_getf C (pc := 1) (T := T_Desk) (N := 5) rfl in_Desk (by decide) rfl w_224 (by decide +kernel) rfl,
    as_iload_n C (pc := 4) (q := 1) (by decide +kernel) rfl rfl,
    as_callv2N C (pc := 5) h_Nodes_amountOf (T := T_Nodes) (N := 10) rfl w_409 w_72 w_408 w_34 w_406 hy_Nodes_amountOf (am_rm_of l_Nodes_amountOf (by decide)) (by decide +kernel) rfl,
    as_iret C (pc := 8) rfl (by decide +kernel), trivial⟩
abbrev k_Desk_value : List Nat := []
theorem r_Desk_value_0 {s_Nodes_amountOf : aS} {J : aJ} {K : aR} {n : Nat} {L : aL} {S : List Value} {M : aM} : am_run (c_Desk_value s_Nodes_amountOf) k_Desk_value J K (n + 1) 0 L S M = ai_aload 0 1 (am_run (c_Desk_value s_Nodes_amountOf) k_Desk_value J K n) K 0 L S M := by rfl
theorem r_Desk_value_1 {s_Nodes_amountOf : aS} {J : aJ} {K : aR} {n : Nat} {L : aL} {S : List Value} {M : aM} : am_run (c_Desk_value s_Nodes_amountOf) k_Desk_value J K (n + 1) 1 L S M = ai_getf 6 1 4 (am_run (c_Desk_value s_Nodes_amountOf) k_Desk_value J K n) K 1 L S M := by rfl
theorem r_Desk_value_4 {s_Nodes_amountOf : aS} {J : aJ} {K : aR} {n : Nat} {L : aL} {S : List Value} {M : aM} : am_run (c_Desk_value s_Nodes_amountOf) k_Desk_value J K (n + 1) 4 L S M = ai_iload 1 5 (am_run (c_Desk_value s_Nodes_amountOf) k_Desk_value J K n) K 4 L S M := by rfl
theorem r_Desk_value_5 {s_Nodes_amountOf : aS} {J : aJ} {K : aR} {n : Nat} {L : aL} {S : List Value} {M : aM} : am_run (c_Desk_value s_Nodes_amountOf) k_Desk_value J K (n + 1) 5 L S M = ai_callv2 0 s_Nodes_amountOf 8 (am_run (c_Desk_value s_Nodes_amountOf) k_Desk_value J K n) K 5 L S M := by rfl
theorem r_Desk_value_8 {s_Nodes_amountOf : aS} {J : aJ} {K : aR} {n : Nat} {L : aL} {S : List Value} {M : aM} : am_run (c_Desk_value s_Nodes_amountOf) k_Desk_value J K (n + 1) 8 L S M = ai_iret (am_run (c_Desk_value s_Nodes_amountOf) k_Desk_value J K n) K 8 L S M := by rfl
def c_Desk_byteAt (s_Nodes_byteOf : aS) : List (Nat × aI) := [
  (0, ai_aload 0 1),
  (1, ai_getf 6 1 4),
  (4, ai_iload 1 5),
  (5, ai_iload 2 6),
  (6, ai_callv3 0 s_Nodes_byteOf 9),
  (9, ai_iret)]
set_option maxRecDepth 100000 in
set_option maxHeartbeats 4000000 in
theorem tb_Desk_byteAt {G : aG} {d : Nat} {s_Nodes_byteOf : aS} {d_Nodes_byteOf : Nat} (h_Nodes_byteOf : am_Sp G Y_Nodes_byteOf d_Nodes_byteOf s_Nodes_byteOf) (l_Nodes_byteOf : d_Nodes_byteOf < d) : am_tab G Y_Desk_byteAt d (c_Desk_byteAt s_Nodes_byteOf) := by
  intro K p e s m args below meth c C
  exact ⟨as_aload_n C (pc := 0) (q := 0) (by decide +kernel) rfl rfl,
    as_getf C (pc := 1) (T := T_Desk) (N := 5) rfl in_Desk (by decide) rfl w_224 (by decide +kernel) rfl,
    as_iload_n C (pc := 4) (q := 1) (by decide +kernel) rfl rfl,
    as_iload_n C (pc := 5) (q := 2) (by decide +kernel) rfl rfl,
    as_callv3N C (pc := 6) h_Nodes_byteOf (T := T_Nodes) (N := 10) rfl w_417 w_72 w_416 w_35 w_414 hy_Nodes_byteOf (am_rm_of l_Nodes_byteOf (by decide)) (by decide +kernel) rfl,
    as_iret C (pc := 9) rfl (by decide +kernel), trivial⟩
abbrev k_Desk_byteAt : List Nat := []
theorem r_Desk_byteAt_0 {s_Nodes_byteOf : aS} {J : aJ} {K : aR} {n : Nat} {L : aL} {S : List Value} {M : aM} : am_run (c_Desk_byteAt s_Nodes_byteOf) k_Desk_byteAt J K (n + 1) 0 L S M = ai_aload 0 1 (am_run (c_Desk_byteAt s_Nodes_byteOf) k_Desk_byteAt J K n) K 0 L S M := by rfl
theorem r_Desk_byteAt_1 {s_Nodes_byteOf : aS} {J : aJ} {K : aR} {n : Nat} {L : aL} {S : List Value} {M : aM} : am_run (c_Desk_byteAt s_Nodes_byteOf) k_Desk_byteAt J K (n + 1) 1 L S M = ai_getf 6 1 4 (am_run (c_Desk_byteAt s_Nodes_byteOf) k_Desk_byteAt J K n) K 1 L S M := by rfl
theorem r_Desk_byteAt_4 {s_Nodes_byteOf : aS} {J : aJ} {K : aR} {n : Nat} {L : aL} {S : List Value} {M : aM} : am_run (c_Desk_byteAt s_Nodes_byteOf) k_Desk_byteAt J K (n + 1) 4 L S M = ai_iload 1 5 (am_run (c_Desk_byteAt s_Nodes_byteOf) k_Desk_byteAt J K n) K 4 L S M := by rfl
theorem r_Desk_byteAt_5 {s_Nodes_byteOf : aS} {J : aJ} {K : aR} {n : Nat} {L : aL} {S : List Value} {M : aM} : am_run (c_Desk_byteAt s_Nodes_byteOf) k_Desk_byteAt J K (n + 1) 5 L S M = ai_iload 2 6 (am_run (c_Desk_byteAt s_Nodes_byteOf) k_Desk_byteAt J K n) K 5 L S M := by rfl
theorem r_Desk_byteAt_6 {s_Nodes_byteOf : aS} {J : aJ} {K : aR} {n : Nat} {L : aL} {S : List Value} {M : aM} : am_run (c_Desk_byteAt s_Nodes_byteOf) k_Desk_byteAt J K (n + 1) 6 L S M = ai_callv3 0 s_Nodes_byteOf 9 (am_run (c_Desk_byteAt s_Nodes_byteOf) k_Desk_byteAt J K n) K 6 L S M := by rfl
theorem r_Desk_byteAt_9 {s_Nodes_byteOf : aS} {J : aJ} {K : aR} {n : Nat} {L : aL} {S : List Value} {M : aM} : am_run (c_Desk_byteAt s_Nodes_byteOf) k_Desk_byteAt J K (n + 1) 9 L S M = ai_iret (am_run (c_Desk_byteAt s_Nodes_byteOf) k_Desk_byteAt J K n) K 9 L S M := by rfl
def c_Desk_part (s_Nodes_headOf : aS) (s_Nodes_tailOf : aS) : List (Nat × aI) := [
  (0, ai_iload 2 1),
  (1, ai_ifne 13 4),
  (4, ai_aload 0 5),
  (5, ai_getf 6 1 8),
  (8, ai_iload 1 9),
  (9, ai_callv2 0 s_Nodes_headOf 12),
  (12, ai_iret),
  (13, ai_iload 2 14),
  (14, ai_const 1 15),
  (15, ai_cmpne 29 18),
  (18, ai_aload 0 19),
  (19, ai_getf 6 1 22),
  (22, ai_iload 1 23),
  (23, ai_callv2 0 s_Nodes_tailOf 26),
  (26, ai_goto 30),
  (29, ai_const (-1) 30),
  (30, ai_iret)]
set_option maxRecDepth 100000 in
set_option maxHeartbeats 4000000 in
theorem tb_Desk_part {G : aG} {d : Nat} {s_Nodes_headOf : aS} {d_Nodes_headOf : Nat} (h_Nodes_headOf : am_Sp G Y_Nodes_headOf d_Nodes_headOf s_Nodes_headOf) (l_Nodes_headOf : d_Nodes_headOf < d) {s_Nodes_tailOf : aS} {d_Nodes_tailOf : Nat} (h_Nodes_tailOf : am_Sp G Y_Nodes_tailOf d_Nodes_tailOf s_Nodes_tailOf) (l_Nodes_tailOf : d_Nodes_tailOf < d) : am_tab G Y_Desk_part d (c_Desk_part s_Nodes_headOf s_Nodes_tailOf) := by
  intro K p e s m args below meth c C
  exact ⟨as_iload_n C (pc := 0) (q := 2) (by decide +kernel) rfl rfl,
    as_ifne C (pc := 1) (off := 12) (by decide +kernel) (by decide) rfl,
    as_aload_n C (pc := 4) (q := 0) (by decide +kernel) rfl rfl,
    as_getf C (pc := 5) (T := T_Desk) (N := 5) rfl in_Desk (by decide) rfl w_224 (by decide +kernel) rfl,
    as_iload_n C (pc := 8) (q := 1) (by decide +kernel) rfl rfl,
    as_callv2N C (pc := 9) h_Nodes_headOf (T := T_Nodes) (N := 10) rfl w_429 w_72 w_428 w_37 w_426 hy_Nodes_headOf (am_rm_of l_Nodes_headOf (by decide)) (by decide +kernel) rfl,
    as_iret C (pc := 12) rfl (by decide +kernel),
    as_iload_n C (pc := 13) (q := 2) (by decide +kernel) rfl rfl,
    as_iconst C (pc := 14) (n := 1) (by decide +kernel) (by decide +kernel) rfl,
    as_cmpne C (pc := 15) (off := 14) (by decide +kernel) (by decide) rfl,
    as_aload_n C (pc := 18) (q := 0) (by decide +kernel) rfl rfl,
    as_getf C (pc := 19) (T := T_Desk) (N := 5) rfl in_Desk (by decide) rfl w_224 (by decide +kernel) rfl,
    as_iload_n C (pc := 22) (q := 1) (by decide +kernel) rfl rfl,
    as_callv2N C (pc := 23) h_Nodes_tailOf (T := T_Nodes) (N := 10) rfl w_433 w_72 w_432 w_38 w_430 hy_Nodes_tailOf (am_rm_of l_Nodes_tailOf (by decide)) (by decide +kernel) rfl,
    as_goto C (pc := 26) (off := 4) (by decide +kernel) (by decide),
    as_iconst C (pc := 29) (n := (-1)) (by decide +kernel) (by decide +kernel) rfl,
    as_iret C (pc := 30) rfl (by decide +kernel), trivial⟩
abbrev k_Desk_part : List Nat := []
theorem r_Desk_part_0 {s_Nodes_headOf : aS} {s_Nodes_tailOf : aS} {J : aJ} {K : aR} {n : Nat} {L : aL} {S : List Value} {M : aM} : am_run (c_Desk_part s_Nodes_headOf s_Nodes_tailOf) k_Desk_part J K (n + 1) 0 L S M = ai_iload 2 1 (am_run (c_Desk_part s_Nodes_headOf s_Nodes_tailOf) k_Desk_part J K n) K 0 L S M := by rfl
theorem r_Desk_part_1 {s_Nodes_headOf : aS} {s_Nodes_tailOf : aS} {J : aJ} {K : aR} {n : Nat} {L : aL} {S : List Value} {M : aM} : am_run (c_Desk_part s_Nodes_headOf s_Nodes_tailOf) k_Desk_part J K (n + 1) 1 L S M = ai_ifne 13 4 (am_run (c_Desk_part s_Nodes_headOf s_Nodes_tailOf) k_Desk_part J K n) K 1 L S M := by rfl
theorem r_Desk_part_4 {s_Nodes_headOf : aS} {s_Nodes_tailOf : aS} {J : aJ} {K : aR} {n : Nat} {L : aL} {S : List Value} {M : aM} : am_run (c_Desk_part s_Nodes_headOf s_Nodes_tailOf) k_Desk_part J K (n + 1) 4 L S M = ai_aload 0 5 (am_run (c_Desk_part s_Nodes_headOf s_Nodes_tailOf) k_Desk_part J K n) K 4 L S M := by rfl
theorem r_Desk_part_5 {s_Nodes_headOf : aS} {s_Nodes_tailOf : aS} {J : aJ} {K : aR} {n : Nat} {L : aL} {S : List Value} {M : aM} : am_run (c_Desk_part s_Nodes_headOf s_Nodes_tailOf) k_Desk_part J K (n + 1) 5 L S M = ai_getf 6 1 8 (am_run (c_Desk_part s_Nodes_headOf s_Nodes_tailOf) k_Desk_part J K n) K 5 L S M := by rfl
theorem r_Desk_part_8 {s_Nodes_headOf : aS} {s_Nodes_tailOf : aS} {J : aJ} {K : aR} {n : Nat} {L : aL} {S : List Value} {M : aM} : am_run (c_Desk_part s_Nodes_headOf s_Nodes_tailOf) k_Desk_part J K (n + 1) 8 L S M = ai_iload 1 9 (am_run (c_Desk_part s_Nodes_headOf s_Nodes_tailOf) k_Desk_part J K n) K 8 L S M := by rfl
theorem r_Desk_part_9 {s_Nodes_headOf : aS} {s_Nodes_tailOf : aS} {J : aJ} {K : aR} {n : Nat} {L : aL} {S : List Value} {M : aM} : am_run (c_Desk_part s_Nodes_headOf s_Nodes_tailOf) k_Desk_part J K (n + 1) 9 L S M = ai_callv2 0 s_Nodes_headOf 12 (am_run (c_Desk_part s_Nodes_headOf s_Nodes_tailOf) k_Desk_part J K n) K 9 L S M := by rfl
theorem r_Desk_part_12 {s_Nodes_headOf : aS} {s_Nodes_tailOf : aS} {J : aJ} {K : aR} {n : Nat} {L : aL} {S : List Value} {M : aM} : am_run (c_Desk_part s_Nodes_headOf s_Nodes_tailOf) k_Desk_part J K (n + 1) 12 L S M = ai_iret (am_run (c_Desk_part s_Nodes_headOf s_Nodes_tailOf) k_Desk_part J K n) K 12 L S M := by rfl
theorem r_Desk_part_13 {s_Nodes_headOf : aS} {s_Nodes_tailOf : aS} {J : aJ} {K : aR} {n : Nat} {L : aL} {S : List Value} {M : aM} : am_run (c_Desk_part s_Nodes_headOf s_Nodes_tailOf) k_Desk_part J K (n + 1) 13 L S M = ai_iload 2 14 (am_run (c_Desk_part s_Nodes_headOf s_Nodes_tailOf) k_Desk_part J K n) K 13 L S M := by rfl
theorem r_Desk_part_14 {s_Nodes_headOf : aS} {s_Nodes_tailOf : aS} {J : aJ} {K : aR} {n : Nat} {L : aL} {S : List Value} {M : aM} : am_run (c_Desk_part s_Nodes_headOf s_Nodes_tailOf) k_Desk_part J K (n + 1) 14 L S M = ai_const 1 15 (am_run (c_Desk_part s_Nodes_headOf s_Nodes_tailOf) k_Desk_part J K n) K 14 L S M := by rfl
theorem r_Desk_part_15 {s_Nodes_headOf : aS} {s_Nodes_tailOf : aS} {J : aJ} {K : aR} {n : Nat} {L : aL} {S : List Value} {M : aM} : am_run (c_Desk_part s_Nodes_headOf s_Nodes_tailOf) k_Desk_part J K (n + 1) 15 L S M = ai_cmpne 29 18 (am_run (c_Desk_part s_Nodes_headOf s_Nodes_tailOf) k_Desk_part J K n) K 15 L S M := by rfl
theorem r_Desk_part_18 {s_Nodes_headOf : aS} {s_Nodes_tailOf : aS} {J : aJ} {K : aR} {n : Nat} {L : aL} {S : List Value} {M : aM} : am_run (c_Desk_part s_Nodes_headOf s_Nodes_tailOf) k_Desk_part J K (n + 1) 18 L S M = ai_aload 0 19 (am_run (c_Desk_part s_Nodes_headOf s_Nodes_tailOf) k_Desk_part J K n) K 18 L S M := by rfl
theorem r_Desk_part_19 {s_Nodes_headOf : aS} {s_Nodes_tailOf : aS} {J : aJ} {K : aR} {n : Nat} {L : aL} {S : List Value} {M : aM} : am_run (c_Desk_part s_Nodes_headOf s_Nodes_tailOf) k_Desk_part J K (n + 1) 19 L S M = ai_getf 6 1 22 (am_run (c_Desk_part s_Nodes_headOf s_Nodes_tailOf) k_Desk_part J K n) K 19 L S M := by rfl
theorem r_Desk_part_22 {s_Nodes_headOf : aS} {s_Nodes_tailOf : aS} {J : aJ} {K : aR} {n : Nat} {L : aL} {S : List Value} {M : aM} : am_run (c_Desk_part s_Nodes_headOf s_Nodes_tailOf) k_Desk_part J K (n + 1) 22 L S M = ai_iload 1 23 (am_run (c_Desk_part s_Nodes_headOf s_Nodes_tailOf) k_Desk_part J K n) K 22 L S M := by rfl
theorem r_Desk_part_23 {s_Nodes_headOf : aS} {s_Nodes_tailOf : aS} {J : aJ} {K : aR} {n : Nat} {L : aL} {S : List Value} {M : aM} : am_run (c_Desk_part s_Nodes_headOf s_Nodes_tailOf) k_Desk_part J K (n + 1) 23 L S M = ai_callv2 0 s_Nodes_tailOf 26 (am_run (c_Desk_part s_Nodes_headOf s_Nodes_tailOf) k_Desk_part J K n) K 23 L S M := by rfl
theorem r_Desk_part_26 {s_Nodes_headOf : aS} {s_Nodes_tailOf : aS} {J : aJ} {K : aR} {n : Nat} {L : aL} {S : List Value} {M : aM} : am_run (c_Desk_part s_Nodes_headOf s_Nodes_tailOf) k_Desk_part J K (n + 1) 26 L S M = ai_goto 30 (am_run (c_Desk_part s_Nodes_headOf s_Nodes_tailOf) k_Desk_part J K n) K 26 L S M := by rfl
theorem r_Desk_part_29 {s_Nodes_headOf : aS} {s_Nodes_tailOf : aS} {J : aJ} {K : aR} {n : Nat} {L : aL} {S : List Value} {M : aM} : am_run (c_Desk_part s_Nodes_headOf s_Nodes_tailOf) k_Desk_part J K (n + 1) 29 L S M = ai_const (-1) 30 (am_run (c_Desk_part s_Nodes_headOf s_Nodes_tailOf) k_Desk_part J K n) K 29 L S M := by rfl
theorem r_Desk_part_30 {s_Nodes_headOf : aS} {s_Nodes_tailOf : aS} {J : aJ} {K : aR} {n : Nat} {L : aL} {S : List Value} {M : aM} : am_run (c_Desk_part s_Nodes_headOf s_Nodes_tailOf) k_Desk_part J K (n + 1) 30 L S M = ai_iret (am_run (c_Desk_part s_Nodes_headOf s_Nodes_tailOf) k_Desk_part J K n) K 30 L S M := by rfl
def c_Desk_like (s_Nodes_has : aS) (s_Nodes_alike : aS) : List (Nat × aI) := [
  (0, ai_aload 0 1),
  (1, ai_getf 6 1 4),
  (4, ai_iload 1 5),
  (5, ai_callv2 0 s_Nodes_has 8),
  (8, ai_ifeq 39 11),
  (11, ai_aload 0 12),
  (12, ai_getf 6 1 15),
  (15, ai_iload 2 16),
  (16, ai_callv2 0 s_Nodes_has 19),
  (19, ai_ifeq 39 22),
  (22, ai_aload 0 23),
  (23, ai_getf 6 1 26),
  (26, ai_iload 1 27),
  (27, ai_iload 2 28),
  (28, ai_const 0 29),
  (29, ai_callv4 0 s_Nodes_alike 32),
  (32, ai_ifeq 39 35),
  (35, ai_const 1 36),
  (36, ai_goto 40),
  (39, ai_const 0 40),
  (40, ai_zret)]
set_option maxRecDepth 100000 in
set_option maxHeartbeats 4000000 in
theorem tb_Desk_like {G : aG} {d : Nat} {s_Nodes_has : aS} {d_Nodes_has : Nat} (h_Nodes_has : am_Sp G Y_Nodes_has d_Nodes_has s_Nodes_has) (l_Nodes_has : d_Nodes_has < d) {s_Nodes_alike : aS} {d_Nodes_alike : Nat} (h_Nodes_alike : am_Sp G Y_Nodes_alike d_Nodes_alike s_Nodes_alike) (l_Nodes_alike : d_Nodes_alike < d) : am_tab G Y_Desk_like d (c_Desk_like s_Nodes_has s_Nodes_alike) := by
  intro K p e s m args below meth c C
  exact ⟨as_aload_n C (pc := 0) (q := 0) (by decide +kernel) rfl rfl,
    as_getf C (pc := 1) (T := T_Desk) (N := 5) rfl in_Desk (by decide) rfl w_224 (by decide +kernel) rfl,
    as_iload_n C (pc := 4) (q := 1) (by decide +kernel) rfl rfl,
    as_callv2N C (pc := 5) h_Nodes_has (T := T_Nodes) (N := 10) rfl w_341 w_72 w_340 w_21 w_438 hy_Nodes_has (am_rm_of l_Nodes_has (by decide)) (by decide +kernel) rfl,
    as_ifeq C (pc := 8) (off := 31) (by decide +kernel) (by decide) rfl,
    as_aload_n C (pc := 11) (q := 0) (by decide +kernel) rfl rfl,
    as_getf C (pc := 12) (T := T_Desk) (N := 5) rfl in_Desk (by decide) rfl w_224 (by decide +kernel) rfl,
    as_iload_n C (pc := 15) (q := 2) (by decide +kernel) rfl rfl,
    as_callv2N C (pc := 16) h_Nodes_has (T := T_Nodes) (N := 10) rfl w_341 w_72 w_340 w_21 w_438 hy_Nodes_has (am_rm_of l_Nodes_has (by decide)) (by decide +kernel) rfl,
    as_ifeq C (pc := 19) (off := 20) (by decide +kernel) (by decide) rfl,
    as_aload_n C (pc := 22) (q := 0) (by decide +kernel) rfl rfl,
    as_getf C (pc := 23) (T := T_Desk) (N := 5) rfl in_Desk (by decide) rfl w_224 (by decide +kernel) rfl,
    as_iload_n C (pc := 26) (q := 1) (by decide +kernel) rfl rfl,
    as_iload_n C (pc := 27) (q := 2) (by decide +kernel) rfl rfl,
    as_iconst C (pc := 28) (n := 0) (by decide +kernel) (by decide +kernel) rfl,
    as_callv4N C (pc := 29) h_Nodes_alike (T := T_Nodes) (N := 10) rfl w_442 w_72 w_441 w_39 w_439 hy_Nodes_alike (am_rm_of l_Nodes_alike (by decide)) (by decide +kernel) rfl,
    as_ifeq C (pc := 32) (off := 7) (by decide +kernel) (by decide) rfl,
    as_iconst C (pc := 35) (n := 1) (by decide +kernel) (by decide +kernel) rfl,
    as_goto C (pc := 36) (off := 4) (by decide +kernel) (by decide),
    as_iconst C (pc := 39) (n := 0) (by decide +kernel) (by decide +kernel) rfl,
    as_zret C (pc := 40) rfl (by decide +kernel), trivial⟩
abbrev k_Desk_like : List Nat := []
theorem r_Desk_like_0 {s_Nodes_has : aS} {s_Nodes_alike : aS} {J : aJ} {K : aR} {n : Nat} {L : aL} {S : List Value} {M : aM} : am_run (c_Desk_like s_Nodes_has s_Nodes_alike) k_Desk_like J K (n + 1) 0 L S M = ai_aload 0 1 (am_run (c_Desk_like s_Nodes_has s_Nodes_alike) k_Desk_like J K n) K 0 L S M := by rfl
theorem r_Desk_like_1 {s_Nodes_has : aS} {s_Nodes_alike : aS} {J : aJ} {K : aR} {n : Nat} {L : aL} {S : List Value} {M : aM} : am_run (c_Desk_like s_Nodes_has s_Nodes_alike) k_Desk_like J K (n + 1) 1 L S M = ai_getf 6 1 4 (am_run (c_Desk_like s_Nodes_has s_Nodes_alike) k_Desk_like J K n) K 1 L S M := by rfl
theorem r_Desk_like_4 {s_Nodes_has : aS} {s_Nodes_alike : aS} {J : aJ} {K : aR} {n : Nat} {L : aL} {S : List Value} {M : aM} : am_run (c_Desk_like s_Nodes_has s_Nodes_alike) k_Desk_like J K (n + 1) 4 L S M = ai_iload 1 5 (am_run (c_Desk_like s_Nodes_has s_Nodes_alike) k_Desk_like J K n) K 4 L S M := by rfl
theorem r_Desk_like_5 {s_Nodes_has : aS} {s_Nodes_alike : aS} {J : aJ} {K : aR} {n : Nat} {L : aL} {S : List Value} {M : aM} : am_run (c_Desk_like s_Nodes_has s_Nodes_alike) k_Desk_like J K (n + 1) 5 L S M = ai_callv2 0 s_Nodes_has 8 (am_run (c_Desk_like s_Nodes_has s_Nodes_alike) k_Desk_like J K n) K 5 L S M := by rfl
theorem r_Desk_like_8 {s_Nodes_has : aS} {s_Nodes_alike : aS} {J : aJ} {K : aR} {n : Nat} {L : aL} {S : List Value} {M : aM} : am_run (c_Desk_like s_Nodes_has s_Nodes_alike) k_Desk_like J K (n + 1) 8 L S M = ai_ifeq 39 11 (am_run (c_Desk_like s_Nodes_has s_Nodes_alike) k_Desk_like J K n) K 8 L S M := by rfl
theorem r_Desk_like_11 {s_Nodes_has : aS} {s_Nodes_alike : aS} {J : aJ} {K : aR} {n : Nat} {L : aL} {S : List Value} {M : aM} : am_run (c_Desk_like s_Nodes_has s_Nodes_alike) k_Desk_like J K (n + 1) 11 L S M = ai_aload 0 12 (am_run (c_Desk_like s_Nodes_has s_Nodes_alike) k_Desk_like J K n) K 11 L S M := by rfl
theorem r_Desk_like_12 {s_Nodes_has : aS} {s_Nodes_alike : aS} {J : aJ} {K : aR} {n : Nat} {L : aL} {S : List Value} {M : aM} : am_run (c_Desk_like s_Nodes_has s_Nodes_alike) k_Desk_like J K (n + 1) 12 L S M = ai_getf 6 1 15 (am_run (c_Desk_like s_Nodes_has s_Nodes_alike) k_Desk_like J K n) K 12 L S M := by rfl
theorem r_Desk_like_15 {s_Nodes_has : aS} {s_Nodes_alike : aS} {J : aJ} {K : aR} {n : Nat} {L : aL} {S : List Value} {M : aM} : am_run (c_Desk_like s_Nodes_has s_Nodes_alike) k_Desk_like J K (n + 1) 15 L S M = ai_iload 2 16 (am_run (c_Desk_like s_Nodes_has s_Nodes_alike) k_Desk_like J K n) K 15 L S M := by rfl
theorem r_Desk_like_16 {s_Nodes_has : aS} {s_Nodes_alike : aS} {J : aJ} {K : aR} {n : Nat} {L : aL} {S : List Value} {M : aM} : am_run (c_Desk_like s_Nodes_has s_Nodes_alike) k_Desk_like J K (n + 1) 16 L S M = ai_callv2 0 s_Nodes_has 19 (am_run (c_Desk_like s_Nodes_has s_Nodes_alike) k_Desk_like J K n) K 16 L S M := by rfl
theorem r_Desk_like_19 {s_Nodes_has : aS} {s_Nodes_alike : aS} {J : aJ} {K : aR} {n : Nat} {L : aL} {S : List Value} {M : aM} : am_run (c_Desk_like s_Nodes_has s_Nodes_alike) k_Desk_like J K (n + 1) 19 L S M = ai_ifeq 39 22 (am_run (c_Desk_like s_Nodes_has s_Nodes_alike) k_Desk_like J K n) K 19 L S M := by rfl
theorem r_Desk_like_22 {s_Nodes_has : aS} {s_Nodes_alike : aS} {J : aJ} {K : aR} {n : Nat} {L : aL} {S : List Value} {M : aM} : am_run (c_Desk_like s_Nodes_has s_Nodes_alike) k_Desk_like J K (n + 1) 22 L S M = ai_aload 0 23 (am_run (c_Desk_like s_Nodes_has s_Nodes_alike) k_Desk_like J K n) K 22 L S M := by rfl
theorem r_Desk_like_23 {s_Nodes_has : aS} {s_Nodes_alike : aS} {J : aJ} {K : aR} {n : Nat} {L : aL} {S : List Value} {M : aM} : am_run (c_Desk_like s_Nodes_has s_Nodes_alike) k_Desk_like J K (n + 1) 23 L S M = ai_getf 6 1 26 (am_run (c_Desk_like s_Nodes_has s_Nodes_alike) k_Desk_like J K n) K 23 L S M := by rfl
theorem r_Desk_like_26 {s_Nodes_has : aS} {s_Nodes_alike : aS} {J : aJ} {K : aR} {n : Nat} {L : aL} {S : List Value} {M : aM} : am_run (c_Desk_like s_Nodes_has s_Nodes_alike) k_Desk_like J K (n + 1) 26 L S M = ai_iload 1 27 (am_run (c_Desk_like s_Nodes_has s_Nodes_alike) k_Desk_like J K n) K 26 L S M := by rfl
theorem r_Desk_like_27 {s_Nodes_has : aS} {s_Nodes_alike : aS} {J : aJ} {K : aR} {n : Nat} {L : aL} {S : List Value} {M : aM} : am_run (c_Desk_like s_Nodes_has s_Nodes_alike) k_Desk_like J K (n + 1) 27 L S M = ai_iload 2 28 (am_run (c_Desk_like s_Nodes_has s_Nodes_alike) k_Desk_like J K n) K 27 L S M := by rfl
theorem r_Desk_like_28 {s_Nodes_has : aS} {s_Nodes_alike : aS} {J : aJ} {K : aR} {n : Nat} {L : aL} {S : List Value} {M : aM} : am_run (c_Desk_like s_Nodes_has s_Nodes_alike) k_Desk_like J K (n + 1) 28 L S M = ai_const 0 29 (am_run (c_Desk_like s_Nodes_has s_Nodes_alike) k_Desk_like J K n) K 28 L S M := by rfl
theorem r_Desk_like_29 {s_Nodes_has : aS} {s_Nodes_alike : aS} {J : aJ} {K : aR} {n : Nat} {L : aL} {S : List Value} {M : aM} : am_run (c_Desk_like s_Nodes_has s_Nodes_alike) k_Desk_like J K (n + 1) 29 L S M = ai_callv4 0 s_Nodes_alike 32 (am_run (c_Desk_like s_Nodes_has s_Nodes_alike) k_Desk_like J K n) K 29 L S M := by rfl
theorem r_Desk_like_32 {s_Nodes_has : aS} {s_Nodes_alike : aS} {J : aJ} {K : aR} {n : Nat} {L : aL} {S : List Value} {M : aM} : am_run (c_Desk_like s_Nodes_has s_Nodes_alike) k_Desk_like J K (n + 1) 32 L S M = ai_ifeq 39 35 (am_run (c_Desk_like s_Nodes_has s_Nodes_alike) k_Desk_like J K n) K 32 L S M := by rfl
theorem r_Desk_like_35 {s_Nodes_has : aS} {s_Nodes_alike : aS} {J : aJ} {K : aR} {n : Nat} {L : aL} {S : List Value} {M : aM} : am_run (c_Desk_like s_Nodes_has s_Nodes_alike) k_Desk_like J K (n + 1) 35 L S M = ai_const 1 36 (am_run (c_Desk_like s_Nodes_has s_Nodes_alike) k_Desk_like J K n) K 35 L S M := by rfl
theorem r_Desk_like_36 {s_Nodes_has : aS} {s_Nodes_alike : aS} {J : aJ} {K : aR} {n : Nat} {L : aL} {S : List Value} {M : aM} : am_run (c_Desk_like s_Nodes_has s_Nodes_alike) k_Desk_like J K (n + 1) 36 L S M = ai_goto 40 (am_run (c_Desk_like s_Nodes_has s_Nodes_alike) k_Desk_like J K n) K 36 L S M := by rfl
theorem r_Desk_like_39 {s_Nodes_has : aS} {s_Nodes_alike : aS} {J : aJ} {K : aR} {n : Nat} {L : aL} {S : List Value} {M : aM} : am_run (c_Desk_like s_Nodes_has s_Nodes_alike) k_Desk_like J K (n + 1) 39 L S M = ai_const 0 40 (am_run (c_Desk_like s_Nodes_has s_Nodes_alike) k_Desk_like J K n) K 39 L S M := by rfl
theorem r_Desk_like_40 {s_Nodes_has : aS} {s_Nodes_alike : aS} {J : aJ} {K : aR} {n : Nat} {L : aL} {S : List Value} {M : aM} : am_run (c_Desk_like s_Nodes_has s_Nodes_alike) k_Desk_like J K (n + 1) 40 L S M = ai_zret (am_run (c_Desk_like s_Nodes_has s_Nodes_alike) k_Desk_like J K n) K 40 L S M := by rfl
def c_Desk_write (s_Nodes_has : aS) (s_Writer_writeNode : aS) : List (Nat × aI) := [
  (0, ai_aload 0 1),
  (1, ai_getf 6 1 4),
  (4, ai_iload 1 5),
  (5, ai_callv2 0 s_Nodes_has 8),
  (8, ai_ifne 13 11),
  (11, ai_const 0 12),
  (12, ai_zret),
  (13, ai_aload 0 14),
  (14, ai_getf 6 4 17),
  (17, ai_iload 1 18),
  (18, ai_const 0 19),
  (19, ai_callv3 5 s_Writer_writeNode 22),
  (22, ai_const 1 23),
  (23, ai_zret)]
set_option maxRecDepth 100000 in
set_option maxHeartbeats 4000000 in
theorem tb_Desk_write {G : aG} {d : Nat} {s_Nodes_has : aS} {d_Nodes_has : Nat} (h_Nodes_has : am_Sp G Y_Nodes_has d_Nodes_has s_Nodes_has) (l_Nodes_has : d_Nodes_has < d) {s_Writer_writeNode : aS} {d_Writer_writeNode : Nat} (h_Writer_writeNode : am_Sp G Y_Writer_writeNode d_Writer_writeNode s_Writer_writeNode) (l_Writer_writeNode : d_Writer_writeNode < d) : am_tab G Y_Desk_write d (c_Desk_write s_Nodes_has s_Writer_writeNode) := by
  intro K p e s m args below meth c C
  exact ⟨as_aload_n C (pc := 0) (q := 0) (by decide +kernel) rfl rfl,
    as_getf C (pc := 1) (T := T_Desk) (N := 5) rfl in_Desk (by decide) rfl w_224 (by decide +kernel) rfl,
    as_iload_n C (pc := 4) (q := 1) (by decide +kernel) rfl rfl,
    as_callv2N C (pc := 5) h_Nodes_has (T := T_Nodes) (N := 10) rfl w_341 w_72 w_340 w_21 w_438 hy_Nodes_has (am_rm_of l_Nodes_has (by decide)) (by decide +kernel) rfl,
    as_ifne C (pc := 8) (off := 5) (by decide +kernel) (by decide) rfl,
    as_iconst C (pc := 11) (n := 0) (by decide +kernel) (by decide +kernel) rfl,
    as_zret C (pc := 12) rfl (by decide +kernel),
    as_aload_n C (pc := 13) (q := 0) (by decide +kernel) rfl rfl,
    as_getf C (pc := 14) (T := T_Desk) (N := 5) rfl in_Desk (by decide) rfl w_227 (by decide +kernel) rfl,
    as_iload_n C (pc := 17) (q := 1) (by decide +kernel) rfl rfl,
    as_iconst C (pc := 18) (n := 0) (by decide +kernel) (by decide +kernel) rfl,
    as_callv3N C (pc := 19) h_Writer_writeNode (T := T_Writer) (N := 2) rfl w_458 w_77 w_457 w_41 w_455 hy_Writer_writeNode (am_rm_of l_Writer_writeNode (by decide)) (by decide +kernel) rfl,
    as_iconst C (pc := 22) (n := 1) (by decide +kernel) (by decide +kernel) rfl,
    as_zret C (pc := 23) rfl (by decide +kernel), trivial⟩
abbrev k_Desk_write : List Nat := []
theorem r_Desk_write_0 {s_Nodes_has : aS} {s_Writer_writeNode : aS} {J : aJ} {K : aR} {n : Nat} {L : aL} {S : List Value} {M : aM} : am_run (c_Desk_write s_Nodes_has s_Writer_writeNode) k_Desk_write J K (n + 1) 0 L S M = ai_aload 0 1 (am_run (c_Desk_write s_Nodes_has s_Writer_writeNode) k_Desk_write J K n) K 0 L S M := by rfl
theorem r_Desk_write_1 {s_Nodes_has : aS} {s_Writer_writeNode : aS} {J : aJ} {K : aR} {n : Nat} {L : aL} {S : List Value} {M : aM} : am_run (c_Desk_write s_Nodes_has s_Writer_writeNode) k_Desk_write J K (n + 1) 1 L S M = ai_getf 6 1 4 (am_run (c_Desk_write s_Nodes_has s_Writer_writeNode) k_Desk_write J K n) K 1 L S M := by rfl
theorem r_Desk_write_4 {s_Nodes_has : aS} {s_Writer_writeNode : aS} {J : aJ} {K : aR} {n : Nat} {L : aL} {S : List Value} {M : aM} : am_run (c_Desk_write s_Nodes_has s_Writer_writeNode) k_Desk_write J K (n + 1) 4 L S M = ai_iload 1 5 (am_run (c_Desk_write s_Nodes_has s_Writer_writeNode) k_Desk_write J K n) K 4 L S M := by rfl
theorem r_Desk_write_5 {s_Nodes_has : aS} {s_Writer_writeNode : aS} {J : aJ} {K : aR} {n : Nat} {L : aL} {S : List Value} {M : aM} : am_run (c_Desk_write s_Nodes_has s_Writer_writeNode) k_Desk_write J K (n + 1) 5 L S M = ai_callv2 0 s_Nodes_has 8 (am_run (c_Desk_write s_Nodes_has s_Writer_writeNode) k_Desk_write J K n) K 5 L S M := by rfl
theorem r_Desk_write_8 {s_Nodes_has : aS} {s_Writer_writeNode : aS} {J : aJ} {K : aR} {n : Nat} {L : aL} {S : List Value} {M : aM} : am_run (c_Desk_write s_Nodes_has s_Writer_writeNode) k_Desk_write J K (n + 1) 8 L S M = ai_ifne 13 11 (am_run (c_Desk_write s_Nodes_has s_Writer_writeNode) k_Desk_write J K n) K 8 L S M := by rfl
theorem r_Desk_write_11 {s_Nodes_has : aS} {s_Writer_writeNode : aS} {J : aJ} {K : aR} {n : Nat} {L : aL} {S : List Value} {M : aM} : am_run (c_Desk_write s_Nodes_has s_Writer_writeNode) k_Desk_write J K (n + 1) 11 L S M = ai_const 0 12 (am_run (c_Desk_write s_Nodes_has s_Writer_writeNode) k_Desk_write J K n) K 11 L S M := by rfl
theorem r_Desk_write_12 {s_Nodes_has : aS} {s_Writer_writeNode : aS} {J : aJ} {K : aR} {n : Nat} {L : aL} {S : List Value} {M : aM} : am_run (c_Desk_write s_Nodes_has s_Writer_writeNode) k_Desk_write J K (n + 1) 12 L S M = ai_zret (am_run (c_Desk_write s_Nodes_has s_Writer_writeNode) k_Desk_write J K n) K 12 L S M := by rfl
theorem r_Desk_write_13 {s_Nodes_has : aS} {s_Writer_writeNode : aS} {J : aJ} {K : aR} {n : Nat} {L : aL} {S : List Value} {M : aM} : am_run (c_Desk_write s_Nodes_has s_Writer_writeNode) k_Desk_write J K (n + 1) 13 L S M = ai_aload 0 14 (am_run (c_Desk_write s_Nodes_has s_Writer_writeNode) k_Desk_write J K n) K 13 L S M := by rfl
theorem r_Desk_write_14 {s_Nodes_has : aS} {s_Writer_writeNode : aS} {J : aJ} {K : aR} {n : Nat} {L : aL} {S : List Value} {M : aM} : am_run (c_Desk_write s_Nodes_has s_Writer_writeNode) k_Desk_write J K (n + 1) 14 L S M = ai_getf 6 4 17 (am_run (c_Desk_write s_Nodes_has s_Writer_writeNode) k_Desk_write J K n) K 14 L S M := by rfl
theorem r_Desk_write_17 {s_Nodes_has : aS} {s_Writer_writeNode : aS} {J : aJ} {K : aR} {n : Nat} {L : aL} {S : List Value} {M : aM} : am_run (c_Desk_write s_Nodes_has s_Writer_writeNode) k_Desk_write J K (n + 1) 17 L S M = ai_iload 1 18 (am_run (c_Desk_write s_Nodes_has s_Writer_writeNode) k_Desk_write J K n) K 17 L S M := by rfl
theorem r_Desk_write_18 {s_Nodes_has : aS} {s_Writer_writeNode : aS} {J : aJ} {K : aR} {n : Nat} {L : aL} {S : List Value} {M : aM} : am_run (c_Desk_write s_Nodes_has s_Writer_writeNode) k_Desk_write J K (n + 1) 18 L S M = ai_const 0 19 (am_run (c_Desk_write s_Nodes_has s_Writer_writeNode) k_Desk_write J K n) K 18 L S M := by rfl
theorem r_Desk_write_19 {s_Nodes_has : aS} {s_Writer_writeNode : aS} {J : aJ} {K : aR} {n : Nat} {L : aL} {S : List Value} {M : aM} : am_run (c_Desk_write s_Nodes_has s_Writer_writeNode) k_Desk_write J K (n + 1) 19 L S M = ai_callv3 5 s_Writer_writeNode 22 (am_run (c_Desk_write s_Nodes_has s_Writer_writeNode) k_Desk_write J K n) K 19 L S M := by rfl
theorem r_Desk_write_22 {s_Nodes_has : aS} {s_Writer_writeNode : aS} {J : aJ} {K : aR} {n : Nat} {L : aL} {S : List Value} {M : aM} : am_run (c_Desk_write s_Nodes_has s_Writer_writeNode) k_Desk_write J K (n + 1) 22 L S M = ai_const 1 23 (am_run (c_Desk_write s_Nodes_has s_Writer_writeNode) k_Desk_write J K n) K 22 L S M := by rfl
theorem r_Desk_write_23 {s_Nodes_has : aS} {s_Writer_writeNode : aS} {J : aJ} {K : aR} {n : Nat} {L : aL} {S : List Value} {M : aM} : am_run (c_Desk_write s_Nodes_has s_Writer_writeNode) k_Desk_write J K (n + 1) 23 L S M = ai_zret (am_run (c_Desk_write s_Nodes_has s_Writer_writeNode) k_Desk_write J K n) K 23 L S M := by rfl
def c_Desk_fetch (s_Waiting_take : aS) : List (Nat × aI) := [
  (0, ai_aload 0 1),
  (1, ai_getf 6 3 4),
  (4, ai_getf 4 2 7),
  (7, ai_const 7 9),
  (9, ai_min 12),
  (12, ai_istore 1 13),
  (13, ai_iload 1 14),
  (14, ai_i2l 15),
  (15, ai_lstore 2 16),
  (16, ai_const 0 17),
  (17, ai_istore 4 19),
  (19, ai_iload 4 21),
  (21, ai_const 7 23),
  (23, ai_cmpge 56 26),
  (26, ai_lload 2 27),
  (27, ai_const 8 29),
  (29, ai_lshl 30),
  (30, ai_iload 4 32),
  (32, ai_iload 1 33),
  (33, ai_cmpge 46 36),
  (36, ai_aload 0 37),
  (37, ai_getf 6 3 40),
  (40, ai_callv1 4 s_Waiting_take 43),
  (43, ai_goto 47),
  (46, ai_const 0 47),
  (47, ai_i2l 48),
  (48, ai_lor 49),
  (49, ai_lstore 2 50),
  (50, ai_iinc 4 1 53),
  (53, ai_goto 19),
  (56, ai_lload 2 57),
  (57, ai_lret)]
set_option maxRecDepth 100000 in
set_option maxHeartbeats 4000000 in
theorem tb_Desk_fetch {G : aG} {d : Nat} {s_Waiting_take : aS} {d_Waiting_take : Nat} (h_Waiting_take : am_Sp G Y_Waiting_take d_Waiting_take s_Waiting_take) (l_Waiting_take : d_Waiting_take < d) (lm : 1 ≤ d) : am_tab G Y_Desk_fetch d (c_Desk_fetch s_Waiting_take) := by
  intro K p e s m args below meth c C
  exact ⟨as_aload_n C (pc := 0) (q := 0) (by decide +kernel) rfl rfl,
    as_getf C (pc := 1) (T := T_Desk) (N := 5) rfl in_Desk (by decide) rfl w_226 (by decide +kernel) rfl,
    as_getfN C (pc := 4) (T := T_Waiting) (N := 3) rfl in_Waiting (by decide) rfl w_202 (by decide +kernel) rfl,
    as_bipush C (pc := 7) (n := 7) (by decide +kernel) (by decide +kernel) rfl,
    as_min C (pc := 9) (ix := 100) w_500 w_501 w_83 w_502 ⟨lm, by show 21 ≤ 40 * d; omega, Nat.le_refl 0, Nat.le_refl 0⟩ (by decide +kernel) rfl,
    as_istore_n C (pc := 12) (q := 1) (by decide +kernel) rfl (by decide) rfl,
    as_iload_n C (pc := 13) (q := 1) (by decide +kernel) rfl rfl,
    as_i2l C (pc := 14) (by decide +kernel) rfl,
    as_lstore_n C (pc := 15) (q := 2) (by decide +kernel) rfl (by decide) rfl,
    as_iconst C (pc := 16) (n := 0) (by decide +kernel) (by decide +kernel) rfl,
    as_istore C (pc := 17) (k := 4) (by decide +kernel) (by decide) rfl,
    as_iload C (pc := 19) (k := 4) (by decide +kernel) rfl,
    as_bipush C (pc := 21) (n := 7) (by decide +kernel) (by decide +kernel) rfl,
    as_cmpge C (pc := 23) (off := 33) (by decide +kernel) (by decide) rfl,
    as_lload_n C (pc := 26) (q := 2) (by decide +kernel) rfl rfl,
    as_bipush C (pc := 27) (n := 8) (by decide +kernel) (by decide +kernel) rfl,
    as_lshl C (pc := 29) (by decide +kernel) rfl,
    as_iload C (pc := 30) (k := 4) (by decide +kernel) rfl,
    as_iload_n C (pc := 32) (q := 1) (by decide +kernel) rfl rfl,
    as_cmpge C (pc := 33) (off := 13) (by decide +kernel) (by decide) rfl,
    as_aload_n C (pc := 36) (q := 0) (by decide +kernel) rfl rfl,
    as_getf C (pc := 37) (T := T_Desk) (N := 5) rfl in_Desk (by decide) rfl w_226 (by decide +kernel) rfl,
    as_callv1N C (pc := 40) h_Waiting_take (T := T_Waiting) (N := 3) rfl w_506 w_76 w_505 w_49 w_503 hy_Waiting_take (am_rm_of l_Waiting_take (by decide)) (by decide +kernel) rfl,
    as_goto C (pc := 43) (off := 4) (by decide +kernel) (by decide),
    as_iconst C (pc := 46) (n := 0) (by decide +kernel) (by decide +kernel) rfl,
    as_i2l C (pc := 47) (by decide +kernel) rfl,
    as_lor C (pc := 48) (by decide +kernel) rfl,
    as_lstore_n C (pc := 49) (q := 2) (by decide +kernel) rfl (by decide) rfl,
    as_iinc C (pc := 50) (k := 4) (n := 1) (by decide +kernel) (by decide +kernel) (by decide) rfl,
    as_goto C (pc := 53) (off := (-34)) (by decide +kernel) (by decide),
    as_lload_n C (pc := 56) (q := 2) (by decide +kernel) rfl rfl,
    as_lret C (pc := 57) rfl (by decide +kernel), trivial⟩
abbrev k_Desk_fetch : List Nat := [19]
theorem q_Desk_fetch_19 {s_Waiting_take : aS} : am_at (c_Desk_fetch s_Waiting_take) 19 = ai_iload 4 21 := by rfl
theorem r_Desk_fetch_0 {s_Waiting_take : aS} {J : aJ} {K : aR} {n : Nat} {L : aL} {S : List Value} {M : aM} : am_run (c_Desk_fetch s_Waiting_take) k_Desk_fetch J K (n + 1) 0 L S M = ai_aload 0 1 (am_run (c_Desk_fetch s_Waiting_take) k_Desk_fetch J K n) K 0 L S M := by rfl
theorem r_Desk_fetch_1 {s_Waiting_take : aS} {J : aJ} {K : aR} {n : Nat} {L : aL} {S : List Value} {M : aM} : am_run (c_Desk_fetch s_Waiting_take) k_Desk_fetch J K (n + 1) 1 L S M = ai_getf 6 3 4 (am_run (c_Desk_fetch s_Waiting_take) k_Desk_fetch J K n) K 1 L S M := by rfl
theorem r_Desk_fetch_4 {s_Waiting_take : aS} {J : aJ} {K : aR} {n : Nat} {L : aL} {S : List Value} {M : aM} : am_run (c_Desk_fetch s_Waiting_take) k_Desk_fetch J K (n + 1) 4 L S M = ai_getf 4 2 7 (am_run (c_Desk_fetch s_Waiting_take) k_Desk_fetch J K n) K 4 L S M := by rfl
theorem r_Desk_fetch_7 {s_Waiting_take : aS} {J : aJ} {K : aR} {n : Nat} {L : aL} {S : List Value} {M : aM} : am_run (c_Desk_fetch s_Waiting_take) k_Desk_fetch J K (n + 1) 7 L S M = ai_const 7 9 (am_run (c_Desk_fetch s_Waiting_take) k_Desk_fetch J K n) K 7 L S M := by rfl
theorem r_Desk_fetch_9 {s_Waiting_take : aS} {J : aJ} {K : aR} {n : Nat} {L : aL} {S : List Value} {M : aM} : am_run (c_Desk_fetch s_Waiting_take) k_Desk_fetch J K (n + 1) 9 L S M = ai_min 12 (am_run (c_Desk_fetch s_Waiting_take) k_Desk_fetch J K n) K 9 L S M := by rfl
theorem r_Desk_fetch_12 {s_Waiting_take : aS} {J : aJ} {K : aR} {n : Nat} {L : aL} {S : List Value} {M : aM} : am_run (c_Desk_fetch s_Waiting_take) k_Desk_fetch J K (n + 1) 12 L S M = ai_istore 1 13 (am_run (c_Desk_fetch s_Waiting_take) k_Desk_fetch J K n) K 12 L S M := by rfl
theorem r_Desk_fetch_13 {s_Waiting_take : aS} {J : aJ} {K : aR} {n : Nat} {L : aL} {S : List Value} {M : aM} : am_run (c_Desk_fetch s_Waiting_take) k_Desk_fetch J K (n + 1) 13 L S M = ai_iload 1 14 (am_run (c_Desk_fetch s_Waiting_take) k_Desk_fetch J K n) K 13 L S M := by rfl
theorem r_Desk_fetch_14 {s_Waiting_take : aS} {J : aJ} {K : aR} {n : Nat} {L : aL} {S : List Value} {M : aM} : am_run (c_Desk_fetch s_Waiting_take) k_Desk_fetch J K (n + 1) 14 L S M = ai_i2l 15 (am_run (c_Desk_fetch s_Waiting_take) k_Desk_fetch J K n) K 14 L S M := by rfl
theorem r_Desk_fetch_15 {s_Waiting_take : aS} {J : aJ} {K : aR} {n : Nat} {L : aL} {S : List Value} {M : aM} : am_run (c_Desk_fetch s_Waiting_take) k_Desk_fetch J K (n + 1) 15 L S M = ai_lstore 2 16 (am_run (c_Desk_fetch s_Waiting_take) k_Desk_fetch J K n) K 15 L S M := by rfl
theorem r_Desk_fetch_16 {s_Waiting_take : aS} {J : aJ} {K : aR} {n : Nat} {L : aL} {S : List Value} {M : aM} : am_run (c_Desk_fetch s_Waiting_take) k_Desk_fetch J K (n + 1) 16 L S M = ai_const 0 17 (am_run (c_Desk_fetch s_Waiting_take) k_Desk_fetch J K n) K 16 L S M := by rfl
theorem r_Desk_fetch_17 {s_Waiting_take : aS} {J : aJ} {K : aR} {n : Nat} {L : aL} {S : List Value} {M : aM} : am_run (c_Desk_fetch s_Waiting_take) k_Desk_fetch J K (n + 1) 17 L S M = ai_istore 4 19 (am_run (c_Desk_fetch s_Waiting_take) k_Desk_fetch J K n) K 17 L S M := by rfl
theorem r_Desk_fetch_19 {s_Waiting_take : aS} {J : aJ} {K : aR} {n : Nat} {L : aL} {S : List Value} {M : aM} : am_run (c_Desk_fetch s_Waiting_take) k_Desk_fetch J K (n + 1) 19 L S M = J 19 L S M := by rfl
theorem r_Desk_fetch_21 {s_Waiting_take : aS} {J : aJ} {K : aR} {n : Nat} {L : aL} {S : List Value} {M : aM} : am_run (c_Desk_fetch s_Waiting_take) k_Desk_fetch J K (n + 1) 21 L S M = ai_const 7 23 (am_run (c_Desk_fetch s_Waiting_take) k_Desk_fetch J K n) K 21 L S M := by rfl
theorem r_Desk_fetch_23 {s_Waiting_take : aS} {J : aJ} {K : aR} {n : Nat} {L : aL} {S : List Value} {M : aM} : am_run (c_Desk_fetch s_Waiting_take) k_Desk_fetch J K (n + 1) 23 L S M = ai_cmpge 56 26 (am_run (c_Desk_fetch s_Waiting_take) k_Desk_fetch J K n) K 23 L S M := by rfl
theorem r_Desk_fetch_26 {s_Waiting_take : aS} {J : aJ} {K : aR} {n : Nat} {L : aL} {S : List Value} {M : aM} : am_run (c_Desk_fetch s_Waiting_take) k_Desk_fetch J K (n + 1) 26 L S M = ai_lload 2 27 (am_run (c_Desk_fetch s_Waiting_take) k_Desk_fetch J K n) K 26 L S M := by rfl
theorem r_Desk_fetch_27 {s_Waiting_take : aS} {J : aJ} {K : aR} {n : Nat} {L : aL} {S : List Value} {M : aM} : am_run (c_Desk_fetch s_Waiting_take) k_Desk_fetch J K (n + 1) 27 L S M = ai_const 8 29 (am_run (c_Desk_fetch s_Waiting_take) k_Desk_fetch J K n) K 27 L S M := by rfl
theorem r_Desk_fetch_29 {s_Waiting_take : aS} {J : aJ} {K : aR} {n : Nat} {L : aL} {S : List Value} {M : aM} : am_run (c_Desk_fetch s_Waiting_take) k_Desk_fetch J K (n + 1) 29 L S M = ai_lshl 30 (am_run (c_Desk_fetch s_Waiting_take) k_Desk_fetch J K n) K 29 L S M := by rfl
theorem r_Desk_fetch_30 {s_Waiting_take : aS} {J : aJ} {K : aR} {n : Nat} {L : aL} {S : List Value} {M : aM} : am_run (c_Desk_fetch s_Waiting_take) k_Desk_fetch J K (n + 1) 30 L S M = ai_iload 4 32 (am_run (c_Desk_fetch s_Waiting_take) k_Desk_fetch J K n) K 30 L S M := by rfl
theorem r_Desk_fetch_32 {s_Waiting_take : aS} {J : aJ} {K : aR} {n : Nat} {L : aL} {S : List Value} {M : aM} : am_run (c_Desk_fetch s_Waiting_take) k_Desk_fetch J K (n + 1) 32 L S M = ai_iload 1 33 (am_run (c_Desk_fetch s_Waiting_take) k_Desk_fetch J K n) K 32 L S M := by rfl
theorem r_Desk_fetch_33 {s_Waiting_take : aS} {J : aJ} {K : aR} {n : Nat} {L : aL} {S : List Value} {M : aM} : am_run (c_Desk_fetch s_Waiting_take) k_Desk_fetch J K (n + 1) 33 L S M = ai_cmpge 46 36 (am_run (c_Desk_fetch s_Waiting_take) k_Desk_fetch J K n) K 33 L S M := by rfl
theorem r_Desk_fetch_36 {s_Waiting_take : aS} {J : aJ} {K : aR} {n : Nat} {L : aL} {S : List Value} {M : aM} : am_run (c_Desk_fetch s_Waiting_take) k_Desk_fetch J K (n + 1) 36 L S M = ai_aload 0 37 (am_run (c_Desk_fetch s_Waiting_take) k_Desk_fetch J K n) K 36 L S M := by rfl
theorem r_Desk_fetch_37 {s_Waiting_take : aS} {J : aJ} {K : aR} {n : Nat} {L : aL} {S : List Value} {M : aM} : am_run (c_Desk_fetch s_Waiting_take) k_Desk_fetch J K (n + 1) 37 L S M = ai_getf 6 3 40 (am_run (c_Desk_fetch s_Waiting_take) k_Desk_fetch J K n) K 37 L S M := by rfl
theorem r_Desk_fetch_40 {s_Waiting_take : aS} {J : aJ} {K : aR} {n : Nat} {L : aL} {S : List Value} {M : aM} : am_run (c_Desk_fetch s_Waiting_take) k_Desk_fetch J K (n + 1) 40 L S M = ai_callv1 4 s_Waiting_take 43 (am_run (c_Desk_fetch s_Waiting_take) k_Desk_fetch J K n) K 40 L S M := by rfl
theorem r_Desk_fetch_43 {s_Waiting_take : aS} {J : aJ} {K : aR} {n : Nat} {L : aL} {S : List Value} {M : aM} : am_run (c_Desk_fetch s_Waiting_take) k_Desk_fetch J K (n + 1) 43 L S M = ai_goto 47 (am_run (c_Desk_fetch s_Waiting_take) k_Desk_fetch J K n) K 43 L S M := by rfl
theorem r_Desk_fetch_46 {s_Waiting_take : aS} {J : aJ} {K : aR} {n : Nat} {L : aL} {S : List Value} {M : aM} : am_run (c_Desk_fetch s_Waiting_take) k_Desk_fetch J K (n + 1) 46 L S M = ai_const 0 47 (am_run (c_Desk_fetch s_Waiting_take) k_Desk_fetch J K n) K 46 L S M := by rfl
theorem r_Desk_fetch_47 {s_Waiting_take : aS} {J : aJ} {K : aR} {n : Nat} {L : aL} {S : List Value} {M : aM} : am_run (c_Desk_fetch s_Waiting_take) k_Desk_fetch J K (n + 1) 47 L S M = ai_i2l 48 (am_run (c_Desk_fetch s_Waiting_take) k_Desk_fetch J K n) K 47 L S M := by rfl
theorem r_Desk_fetch_48 {s_Waiting_take : aS} {J : aJ} {K : aR} {n : Nat} {L : aL} {S : List Value} {M : aM} : am_run (c_Desk_fetch s_Waiting_take) k_Desk_fetch J K (n + 1) 48 L S M = ai_lor 49 (am_run (c_Desk_fetch s_Waiting_take) k_Desk_fetch J K n) K 48 L S M := by rfl
theorem r_Desk_fetch_49 {s_Waiting_take : aS} {J : aJ} {K : aR} {n : Nat} {L : aL} {S : List Value} {M : aM} : am_run (c_Desk_fetch s_Waiting_take) k_Desk_fetch J K (n + 1) 49 L S M = ai_lstore 2 50 (am_run (c_Desk_fetch s_Waiting_take) k_Desk_fetch J K n) K 49 L S M := by rfl
theorem r_Desk_fetch_50 {s_Waiting_take : aS} {J : aJ} {K : aR} {n : Nat} {L : aL} {S : List Value} {M : aM} : am_run (c_Desk_fetch s_Waiting_take) k_Desk_fetch J K (n + 1) 50 L S M = ai_iinc 4 1 53 (am_run (c_Desk_fetch s_Waiting_take) k_Desk_fetch J K n) K 50 L S M := by rfl
theorem r_Desk_fetch_53 {s_Waiting_take : aS} {J : aJ} {K : aR} {n : Nat} {L : aL} {S : List Value} {M : aM} : am_run (c_Desk_fetch s_Waiting_take) k_Desk_fetch J K (n + 1) 53 L S M = ai_goto 19 (am_run (c_Desk_fetch s_Waiting_take) k_Desk_fetch J K n) K 53 L S M := by rfl
theorem r_Desk_fetch_56 {s_Waiting_take : aS} {J : aJ} {K : aR} {n : Nat} {L : aL} {S : List Value} {M : aM} : am_run (c_Desk_fetch s_Waiting_take) k_Desk_fetch J K (n + 1) 56 L S M = ai_lload 2 57 (am_run (c_Desk_fetch s_Waiting_take) k_Desk_fetch J K n) K 56 L S M := by rfl
theorem r_Desk_fetch_57 {s_Waiting_take : aS} {J : aJ} {K : aR} {n : Nat} {L : aL} {S : List Value} {M : aM} : am_run (c_Desk_fetch s_Waiting_take) k_Desk_fetch J K (n + 1) 57 L S M = ai_lret (am_run (c_Desk_fetch s_Waiting_take) k_Desk_fetch J K n) K 57 L S M := by rfl
def c_Desk_count : List (Nat × aI) := [
  (0, ai_iload 1 1),
  (1, ai_switch [(0, 32), (1, 40), (2, 48), (3, 56)] 64),
  (32, ai_aload 0 33),
  (33, ai_getf 6 0 36),
  (36, ai_getf 2 1 39),
  (39, ai_iret),
  (40, ai_aload 0 41),
  (41, ai_getf 6 1 44),
  (44, ai_getf 0 5 47),
  (47, ai_iret),
  (48, ai_aload 0 49),
  (49, ai_getf 6 1 52),
  (52, ai_getf 0 7 55),
  (55, ai_iret),
  (56, ai_aload 0 57),
  (57, ai_getf 6 3 60),
  (60, ai_getf 4 2 63),
  (63, ai_iret),
  (64, ai_const (-1) 65),
  (65, ai_iret)]
set_option maxRecDepth 100000 in
set_option maxHeartbeats 4000000 in
theorem tb_Desk_count {G : aG} {d : Nat} : am_tab G Y_Desk_count d (c_Desk_count) := by
  intro K p e s m args below meth c C
  exact ⟨as_iload_n C (pc := 0) (q := 1) (by decide +kernel) rfl rfl,
    as_table C (pc := 1) (dflt := 63) (lo := 0) (hi := 3) (offs := #[31, 39, 47, 55]) (len := 31) (by decide +kernel) (by decide +kernel) (by decide) (by decide),
    as_aload_n C (pc := 32) (q := 0) (by decide +kernel) rfl rfl,
    as_getf C (pc := 33) (T := T_Desk) (N := 5) rfl in_Desk (by decide) rfl w_223 (by decide +kernel) rfl,
    as_getfN C (pc := 36) (T := T_Text) (N := 2) rfl in_Text (by decide) rfl w_100 (by decide +kernel) rfl,
    as_iret C (pc := 39) rfl (by decide +kernel),
    as_aload_n C (pc := 40) (q := 0) (by decide +kernel) rfl rfl,
    as_getf C (pc := 41) (T := T_Desk) (N := 5) rfl in_Desk (by decide) rfl w_224 (by decide +kernel) rfl,
    as_getfN C (pc := 44) (T := T_Nodes) (N := 10) rfl in_Nodes (by decide) rfl w_124 (by decide +kernel) rfl,
    as_iret C (pc := 47) rfl (by decide +kernel),
    as_aload_n C (pc := 48) (q := 0) (by decide +kernel) rfl rfl,
    as_getf C (pc := 49) (T := T_Desk) (N := 5) rfl in_Desk (by decide) rfl w_224 (by decide +kernel) rfl,
    as_getfN C (pc := 52) (T := T_Nodes) (N := 10) rfl in_Nodes (by decide) rfl w_127 (by decide +kernel) rfl,
    as_iret C (pc := 55) rfl (by decide +kernel),
    as_aload_n C (pc := 56) (q := 0) (by decide +kernel) rfl rfl,
    as_getf C (pc := 57) (T := T_Desk) (N := 5) rfl in_Desk (by decide) rfl w_226 (by decide +kernel) rfl,
    as_getfN C (pc := 60) (T := T_Waiting) (N := 3) rfl in_Waiting (by decide) rfl w_202 (by decide +kernel) rfl,
    as_iret C (pc := 63) rfl (by decide +kernel),
    as_iconst C (pc := 64) (n := (-1)) (by decide +kernel) (by decide +kernel) rfl,
    as_iret C (pc := 65) rfl (by decide +kernel), trivial⟩
abbrev k_Desk_count : List Nat := []
theorem r_Desk_count_0 {J : aJ} {K : aR} {n : Nat} {L : aL} {S : List Value} {M : aM} : am_run (c_Desk_count) k_Desk_count J K (n + 1) 0 L S M = ai_iload 1 1 (am_run (c_Desk_count) k_Desk_count J K n) K 0 L S M := by rfl
theorem r_Desk_count_1 {J : aJ} {K : aR} {n : Nat} {L : aL} {S : List Value} {M : aM} : am_run (c_Desk_count) k_Desk_count J K (n + 1) 1 L S M = ai_switch [(0, 32), (1, 40), (2, 48), (3, 56)] 64 (am_run (c_Desk_count) k_Desk_count J K n) K 1 L S M := by rfl
theorem r_Desk_count_32 {J : aJ} {K : aR} {n : Nat} {L : aL} {S : List Value} {M : aM} : am_run (c_Desk_count) k_Desk_count J K (n + 1) 32 L S M = ai_aload 0 33 (am_run (c_Desk_count) k_Desk_count J K n) K 32 L S M := by rfl
theorem r_Desk_count_33 {J : aJ} {K : aR} {n : Nat} {L : aL} {S : List Value} {M : aM} : am_run (c_Desk_count) k_Desk_count J K (n + 1) 33 L S M = ai_getf 6 0 36 (am_run (c_Desk_count) k_Desk_count J K n) K 33 L S M := by rfl
theorem r_Desk_count_36 {J : aJ} {K : aR} {n : Nat} {L : aL} {S : List Value} {M : aM} : am_run (c_Desk_count) k_Desk_count J K (n + 1) 36 L S M = ai_getf 2 1 39 (am_run (c_Desk_count) k_Desk_count J K n) K 36 L S M := by rfl
theorem r_Desk_count_39 {J : aJ} {K : aR} {n : Nat} {L : aL} {S : List Value} {M : aM} : am_run (c_Desk_count) k_Desk_count J K (n + 1) 39 L S M = ai_iret (am_run (c_Desk_count) k_Desk_count J K n) K 39 L S M := by rfl
theorem r_Desk_count_40 {J : aJ} {K : aR} {n : Nat} {L : aL} {S : List Value} {M : aM} : am_run (c_Desk_count) k_Desk_count J K (n + 1) 40 L S M = ai_aload 0 41 (am_run (c_Desk_count) k_Desk_count J K n) K 40 L S M := by rfl
theorem r_Desk_count_41 {J : aJ} {K : aR} {n : Nat} {L : aL} {S : List Value} {M : aM} : am_run (c_Desk_count) k_Desk_count J K (n + 1) 41 L S M = ai_getf 6 1 44 (am_run (c_Desk_count) k_Desk_count J K n) K 41 L S M := by rfl
theorem r_Desk_count_44 {J : aJ} {K : aR} {n : Nat} {L : aL} {S : List Value} {M : aM} : am_run (c_Desk_count) k_Desk_count J K (n + 1) 44 L S M = ai_getf 0 5 47 (am_run (c_Desk_count) k_Desk_count J K n) K 44 L S M := by rfl
theorem r_Desk_count_47 {J : aJ} {K : aR} {n : Nat} {L : aL} {S : List Value} {M : aM} : am_run (c_Desk_count) k_Desk_count J K (n + 1) 47 L S M = ai_iret (am_run (c_Desk_count) k_Desk_count J K n) K 47 L S M := by rfl
theorem r_Desk_count_48 {J : aJ} {K : aR} {n : Nat} {L : aL} {S : List Value} {M : aM} : am_run (c_Desk_count) k_Desk_count J K (n + 1) 48 L S M = ai_aload 0 49 (am_run (c_Desk_count) k_Desk_count J K n) K 48 L S M := by rfl
theorem r_Desk_count_49 {J : aJ} {K : aR} {n : Nat} {L : aL} {S : List Value} {M : aM} : am_run (c_Desk_count) k_Desk_count J K (n + 1) 49 L S M = ai_getf 6 1 52 (am_run (c_Desk_count) k_Desk_count J K n) K 49 L S M := by rfl
theorem r_Desk_count_52 {J : aJ} {K : aR} {n : Nat} {L : aL} {S : List Value} {M : aM} : am_run (c_Desk_count) k_Desk_count J K (n + 1) 52 L S M = ai_getf 0 7 55 (am_run (c_Desk_count) k_Desk_count J K n) K 52 L S M := by rfl
theorem r_Desk_count_55 {J : aJ} {K : aR} {n : Nat} {L : aL} {S : List Value} {M : aM} : am_run (c_Desk_count) k_Desk_count J K (n + 1) 55 L S M = ai_iret (am_run (c_Desk_count) k_Desk_count J K n) K 55 L S M := by rfl
theorem r_Desk_count_56 {J : aJ} {K : aR} {n : Nat} {L : aL} {S : List Value} {M : aM} : am_run (c_Desk_count) k_Desk_count J K (n + 1) 56 L S M = ai_aload 0 57 (am_run (c_Desk_count) k_Desk_count J K n) K 56 L S M := by rfl
theorem r_Desk_count_57 {J : aJ} {K : aR} {n : Nat} {L : aL} {S : List Value} {M : aM} : am_run (c_Desk_count) k_Desk_count J K (n + 1) 57 L S M = ai_getf 6 3 60 (am_run (c_Desk_count) k_Desk_count J K n) K 57 L S M := by rfl
theorem r_Desk_count_60 {J : aJ} {K : aR} {n : Nat} {L : aL} {S : List Value} {M : aM} : am_run (c_Desk_count) k_Desk_count J K (n + 1) 60 L S M = ai_getf 4 2 63 (am_run (c_Desk_count) k_Desk_count J K n) K 60 L S M := by rfl
theorem r_Desk_count_63 {J : aJ} {K : aR} {n : Nat} {L : aL} {S : List Value} {M : aM} : am_run (c_Desk_count) k_Desk_count J K (n + 1) 63 L S M = ai_iret (am_run (c_Desk_count) k_Desk_count J K n) K 63 L S M := by rfl
theorem r_Desk_count_64 {J : aJ} {K : aR} {n : Nat} {L : aL} {S : List Value} {M : aM} : am_run (c_Desk_count) k_Desk_count J K (n + 1) 64 L S M = ai_const (-1) 65 (am_run (c_Desk_count) k_Desk_count J K n) K 64 L S M := by rfl
theorem r_Desk_count_65 {J : aJ} {K : aR} {n : Nat} {L : aL} {S : List Value} {M : aM} : am_run (c_Desk_count) k_Desk_count J K (n + 1) 65 L S M = ai_iret (am_run (c_Desk_count) k_Desk_count J K n) K 65 L S M := by rfl
