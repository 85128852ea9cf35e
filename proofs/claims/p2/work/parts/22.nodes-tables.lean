def c_Nodes_clear : List (Nat × aI) := [
  (0, ai_aload 0 1),
  (1, ai_const 0 2),
  (2, ai_putf 0 5 5),
  (5, ai_aload 0 6),
  (6, ai_const 0 7),
  (7, ai_putf 0 7 10),
  (10, ai_aload 0 11),
  (11, ai_gets (.ref 1000) 14),
  (14, ai_xlen 1000 5 15),
  (15, ai_putf 0 9 18),
  (18, ai_vret)]
set_option maxRecDepth 100000 in
set_option maxHeartbeats 4000000 in
theorem tb_Nodes_clear {G : aG} {d : Nat} : am_tab G Y_Nodes_clear d (c_Nodes_clear) := by
  intro K p e s m args below meth c C
  exact ⟨as_aload_n C (pc := 0) (q := 0) (by decide +kernel) rfl rfl,
    as_iconst C (pc := 1) (n := 0) (by decide +kernel) (by decide +kernel) rfl,
    as_putf C (pc := 2) t_Nodes (T := T_Nodes) (N := 10) rfl in_Nodes tok_Nodes nm_Nodes (by decide) rfl rfl (by decide +kernel) w_123 (by decide +kernel) rfl,
    as_aload_n C (pc := 5) (q := 0) (by decide +kernel) rfl rfl,
    as_iconst C (pc := 6) (n := 0) (by decide +kernel) (by decide +kernel) rfl,
    as_putf C (pc := 7) t_Nodes (T := T_Nodes) (N := 10) rfl in_Nodes tok_Nodes nm_Nodes (by decide) rfl rfl (by decide +kernel) w_126 (by decide +kernel) rfl,
    as_aload_n C (pc := 10) (q := 0) (by decide +kernel) rfl rfl,
    as_getsN C (pc := 11) (Cn := "DatumDesk") (f := "QUOTE") (d := "[I") List.mem_cons_self w_113 (by decide +kernel) rfl,
    as_xlen C (pc := 14) (hm_1000 G) (by decide +kernel) rfl,
    as_putf C (pc := 15) t_Nodes (T := T_Nodes) (N := 10) rfl in_Nodes tok_Nodes nm_Nodes (by decide) rfl rfl (by decide +kernel) w_129 (by decide +kernel) rfl,
    as_vret C (pc := 18) rfl (by decide +kernel), trivial⟩
abbrev k_Nodes_clear : List Nat := []
theorem r_Nodes_clear_0 {J : aJ} {K : aR} {n : Nat} {L : aL} {S : List Value} {M : aM} : am_run (c_Nodes_clear) k_Nodes_clear J K (n + 1) 0 L S M = ai_aload 0 1 (am_run (c_Nodes_clear) k_Nodes_clear J K n) K 0 L S M := by rfl
theorem r_Nodes_clear_1 {J : aJ} {K : aR} {n : Nat} {L : aL} {S : List Value} {M : aM} : am_run (c_Nodes_clear) k_Nodes_clear J K (n + 1) 1 L S M = ai_const 0 2 (am_run (c_Nodes_clear) k_Nodes_clear J K n) K 1 L S M := by rfl
theorem r_Nodes_clear_2 {J : aJ} {K : aR} {n : Nat} {L : aL} {S : List Value} {M : aM} : am_run (c_Nodes_clear) k_Nodes_clear J K (n + 1) 2 L S M = ai_putf 0 5 5 (am_run (c_Nodes_clear) k_Nodes_clear J K n) K 2 L S M := by rfl
theorem r_Nodes_clear_5 {J : aJ} {K : aR} {n : Nat} {L : aL} {S : List Value} {M : aM} : am_run (c_Nodes_clear) k_Nodes_clear J K (n + 1) 5 L S M = ai_aload 0 6 (am_run (c_Nodes_clear) k_Nodes_clear J K n) K 5 L S M := by rfl
theorem r_Nodes_clear_6 {J : aJ} {K : aR} {n : Nat} {L : aL} {S : List Value} {M : aM} : am_run (c_Nodes_clear) k_Nodes_clear J K (n + 1) 6 L S M = ai_const 0 7 (am_run (c_Nodes_clear) k_Nodes_clear J K n) K 6 L S M := by rfl
theorem r_Nodes_clear_7 {J : aJ} {K : aR} {n : Nat} {L : aL} {S : List Value} {M : aM} : am_run (c_Nodes_clear) k_Nodes_clear J K (n + 1) 7 L S M = ai_putf 0 7 10 (am_run (c_Nodes_clear) k_Nodes_clear J K n) K 7 L S M := by rfl
theorem r_Nodes_clear_10 {J : aJ} {K : aR} {n : Nat} {L : aL} {S : List Value} {M : aM} : am_run (c_Nodes_clear) k_Nodes_clear J K (n + 1) 10 L S M = ai_aload 0 11 (am_run (c_Nodes_clear) k_Nodes_clear J K n) K 10 L S M := by rfl
theorem r_Nodes_clear_11 {J : aJ} {K : aR} {n : Nat} {L : aL} {S : List Value} {M : aM} : am_run (c_Nodes_clear) k_Nodes_clear J K (n + 1) 11 L S M = ai_gets (.ref 1000) 14 (am_run (c_Nodes_clear) k_Nodes_clear J K n) K 11 L S M := by rfl
theorem r_Nodes_clear_14 {J : aJ} {K : aR} {n : Nat} {L : aL} {S : List Value} {M : aM} : am_run (c_Nodes_clear) k_Nodes_clear J K (n + 1) 14 L S M = ai_xlen 1000 5 15 (am_run (c_Nodes_clear) k_Nodes_clear J K n) K 14 L S M := by rfl
theorem r_Nodes_clear_15 {J : aJ} {K : aR} {n : Nat} {L : aL} {S : List Value} {M : aM} : am_run (c_Nodes_clear) k_Nodes_clear J K (n + 1) 15 L S M = ai_putf 0 9 18 (am_run (c_Nodes_clear) k_Nodes_clear J K n) K 15 L S M := by rfl
theorem r_Nodes_clear_18 {J : aJ} {K : aR} {n : Nat} {L : aL} {S : List Value} {M : aM} : am_run (c_Nodes_clear) k_Nodes_clear J K (n + 1) 18 L S M = ai_vret (am_run (c_Nodes_clear) k_Nodes_clear J K n) K 18 L S M := by rfl
def c_Nodes_has : List (Nat × aI) := [
  (0, ai_iload 1 1),
  (1, ai_iflt 23 4),
  (4, ai_iload 1 5),
  (5, ai_aload 0 6),
  (6, ai_getf 0 5 9),
  (9, ai_cmpge 23 12),
  (12, ai_iload 1 13),
  (13, ai_const 200 16),
  (16, ai_cmpge 23 19),
  (19, ai_const 1 20),
  (20, ai_goto 24),
  (23, ai_const 0 24),
  (24, ai_zret)]
set_option maxRecDepth 100000 in
set_option maxHeartbeats 4000000 in
theorem tb_Nodes_has {G : aG} {d : Nat} : am_tab G Y_Nodes_has d (c_Nodes_has) := by
  intro K p e s m args below meth c C
  exact ⟨as_iload_n C (pc := 0) (q := 1) (by decide +kernel) rfl rfl,
    as_iflt C (pc := 1) (off := 22) (by decide +kernel) (by decide) rfl,
    as_iload_n C (pc := 4) (q := 1) (by decide +kernel) rfl rfl,
    as_aload_n C (pc := 5) (q := 0) (by decide +kernel) rfl rfl,
    as_getf C (pc := 6) (T := T_Nodes) (N := 10) rfl in_Nodes (by decide) rfl w_123 (by decide +kernel) rfl,
    as_cmpge C (pc := 9) (off := 14) (by decide +kernel) (by decide) rfl,
    as_iload_n C (pc := 12) (q := 1) (by decide +kernel) rfl rfl,
    as_sipush C (pc := 13) (n := 200) (by decide +kernel) (by decide +kernel) rfl,
    as_cmpge C (pc := 16) (off := 7) (by decide +kernel) (by decide) rfl,
    as_iconst C (pc := 19) (n := 1) (by decide +kernel) (by decide +kernel) rfl,
    as_goto C (pc := 20) (off := 4) (by decide +kernel) (by decide),
    as_iconst C (pc := 23) (n := 0) (by decide +kernel) (by decide +kernel) rfl,
    as_zret C (pc := 24) rfl (by decide +kernel), trivial⟩
abbrev k_Nodes_has : List Nat := []
theorem r_Nodes_has_0 {J : aJ} {K : aR} {n : Nat} {L : aL} {S : List Value} {M : aM} : am_run (c_Nodes_has) k_Nodes_has J K (n + 1) 0 L S M = ai_iload 1 1 (am_run (c_Nodes_has) k_Nodes_has J K n) K 0 L S M := by rfl
theorem r_Nodes_has_1 {J : aJ} {K : aR} {n : Nat} {L : aL} {S : List Value} {M : aM} : am_run (c_Nodes_has) k_Nodes_has J K (n + 1) 1 L S M = ai_iflt 23 4 (am_run (c_Nodes_has) k_Nodes_has J K n) K 1 L S M := by rfl
theorem r_Nodes_has_4 {J : aJ} {K : aR} {n : Nat} {L : aL} {S : List Value} {M : aM} : am_run (c_Nodes_has) k_Nodes_has J K (n + 1) 4 L S M = ai_iload 1 5 (am_run (c_Nodes_has) k_Nodes_has J K n) K 4 L S M := by rfl
theorem r_Nodes_has_5 {J : aJ} {K : aR} {n : Nat} {L : aL} {S : List Value} {M : aM} : am_run (c_Nodes_has) k_Nodes_has J K (n + 1) 5 L S M = ai_aload 0 6 (am_run (c_Nodes_has) k_Nodes_has J K n) K 5 L S M := by rfl
theorem r_Nodes_has_6 {J : aJ} {K : aR} {n : Nat} {L : aL} {S : List Value} {M : aM} : am_run (c_Nodes_has) k_Nodes_has J K (n + 1) 6 L S M = ai_getf 0 5 9 (am_run (c_Nodes_has) k_Nodes_has J K n) K 6 L S M := by rfl
theorem r_Nodes_has_9 {J : aJ} {K : aR} {n : Nat} {L : aL} {S : List Value} {M : aM} : am_run (c_Nodes_has) k_Nodes_has J K (n + 1) 9 L S M = ai_cmpge 23 12 (am_run (c_Nodes_has) k_Nodes_has J K n) K 9 L S M := by rfl
theorem r_Nodes_has_12 {J : aJ} {K : aR} {n : Nat} {L : aL} {S : List Value} {M : aM} : am_run (c_Nodes_has) k_Nodes_has J K (n + 1) 12 L S M = ai_iload 1 13 (am_run (c_Nodes_has) k_Nodes_has J K n) K 12 L S M := by rfl
theorem r_Nodes_has_13 {J : aJ} {K : aR} {n : Nat} {L : aL} {S : List Value} {M : aM} : am_run (c_Nodes_has) k_Nodes_has J K (n + 1) 13 L S M = ai_const 200 16 (am_run (c_Nodes_has) k_Nodes_has J K n) K 13 L S M := by rfl
theorem r_Nodes_has_16 {J : aJ} {K : aR} {n : Nat} {L : aL} {S : List Value} {M : aM} : am_run (c_Nodes_has) k_Nodes_has J K (n + 1) 16 L S M = ai_cmpge 23 19 (am_run (c_Nodes_has) k_Nodes_has J K n) K 16 L S M := by rfl
theorem r_Nodes_has_19 {J : aJ} {K : aR} {n : Nat} {L : aL} {S : List Value} {M : aM} : am_run (c_Nodes_has) k_Nodes_has J K (n + 1) 19 L S M = ai_const 1 20 (am_run (c_Nodes_has) k_Nodes_has J K n) K 19 L S M := by rfl
theorem r_Nodes_has_20 {J : aJ} {K : aR} {n : Nat} {L : aL} {S : List Value} {M : aM} : am_run (c_Nodes_has) k_Nodes_has J K (n + 1) 20 L S M = ai_goto 24 (am_run (c_Nodes_has) k_Nodes_has J K n) K 20 L S M := by rfl
theorem r_Nodes_has_23 {J : aJ} {K : aR} {n : Nat} {L : aL} {S : List Value} {M : aM} : am_run (c_Nodes_has) k_Nodes_has J K (n + 1) 23 L S M = ai_const 0 24 (am_run (c_Nodes_has) k_Nodes_has J K n) K 23 L S M := by rfl
theorem r_Nodes_has_24 {J : aJ} {K : aR} {n : Nat} {L : aL} {S : List Value} {M : aM} : am_run (c_Nodes_has) k_Nodes_has J K (n + 1) 24 L S M = ai_zret (am_run (c_Nodes_has) k_Nodes_has J K n) K 24 L S M := by rfl
def c_Nodes_isOf : List (Nat × aI) := [
  (0, ai_iload 1 1),
  (1, ai_iflt 33 4),
  (4, ai_iload 1 5),
  (5, ai_aload 0 6),
  (6, ai_getf 0 5 9),
  (9, ai_cmpge 33 12),
  (12, ai_iload 1 13),
  (13, ai_const 200 16),
  (16, ai_cmpge 33 19),
  (19, ai_aload 0 20),
  (20, ai_getf 0 0 23),
  (23, ai_iload 1 24),
  (24, ai_iald 25),
  (25, ai_iload 2 26),
  (26, ai_cmpne 33 29),
  (29, ai_const 1 30),
  (30, ai_goto 34),
  (33, ai_const 0 34),
  (34, ai_zret)]
set_option maxRecDepth 100000 in
set_option maxHeartbeats 4000000 in
theorem tb_Nodes_isOf {G : aG} {d : Nat} : am_tab G Y_Nodes_isOf d (c_Nodes_isOf) := by
  intro K p e s m args below meth c C
  exact ⟨as_iload_n C (pc := 0) (q := 1) (by decide +kernel) rfl rfl,
    as_iflt C (pc := 1) (off := 32) (by decide +kernel) (by decide) rfl,
    as_iload_n C (pc := 4) (q := 1) (by decide +kernel) rfl rfl,
    as_aload_n C (pc := 5) (q := 0) (by decide +kernel) rfl rfl,
    as_getf C (pc := 6) (T := T_Nodes) (N := 10) rfl in_Nodes (by decide) rfl w_123 (by decide +kernel) rfl,
    as_cmpge C (pc := 9) (off := 24) (by decide +kernel) (by decide) rfl,
    as_iload_n C (pc := 12) (q := 1) (by decide +kernel) rfl rfl,
    as_sipush C (pc := 13) (n := 200) (by decide +kernel) (by decide +kernel) rfl,
    as_cmpge C (pc := 16) (off := 17) (by decide +kernel) (by decide) rfl,
    as_aload_n C (pc := 19) (q := 0) (by decide +kernel) rfl rfl,
    as_getf C (pc := 20) (T := T_Nodes) (N := 10) rfl in_Nodes (by decide) rfl w_118 (by decide +kernel) rfl,
    as_iload_n C (pc := 23) (q := 1) (by decide +kernel) rfl rfl,
    as_iald C (pc := 24) (by decide +kernel) rfl,
    as_iload_n C (pc := 25) (q := 2) (by decide +kernel) rfl rfl,
    as_cmpne C (pc := 26) (off := 7) (by decide +kernel) (by decide) rfl,
    as_iconst C (pc := 29) (n := 1) (by decide +kernel) (by decide +kernel) rfl,
    as_goto C (pc := 30) (off := 4) (by decide +kernel) (by decide),
    as_iconst C (pc := 33) (n := 0) (by decide +kernel) (by decide +kernel) rfl,
    as_zret C (pc := 34) rfl (by decide +kernel), trivial⟩
abbrev k_Nodes_isOf : List Nat := []
theorem r_Nodes_isOf_0 {J : aJ} {K : aR} {n : Nat} {L : aL} {S : List Value} {M : aM} : am_run (c_Nodes_isOf) k_Nodes_isOf J K (n + 1) 0 L S M = ai_iload 1 1 (am_run (c_Nodes_isOf) k_Nodes_isOf J K n) K 0 L S M := by rfl
theorem r_Nodes_isOf_1 {J : aJ} {K : aR} {n : Nat} {L : aL} {S : List Value} {M : aM} : am_run (c_Nodes_isOf) k_Nodes_isOf J K (n + 1) 1 L S M = ai_iflt 33 4 (am_run (c_Nodes_isOf) k_Nodes_isOf J K n) K 1 L S M := by rfl
theorem r_Nodes_isOf_4 {J : aJ} {K : aR} {n : Nat} {L : aL} {S : List Value} {M : aM} : am_run (c_Nodes_isOf) k_Nodes_isOf J K (n + 1) 4 L S M = ai_iload 1 5 (am_run (c_Nodes_isOf) k_Nodes_isOf J K n) K 4 L S M := by rfl
theorem r_Nodes_isOf_5 {J : aJ} {K : aR} {n : Nat} {L : aL} {S : List Value} {M : aM} : am_run (c_Nodes_isOf) k_Nodes_isOf J K (n + 1) 5 L S M = ai_aload 0 6 (am_run (c_Nodes_isOf) k_Nodes_isOf J K n) K 5 L S M := by rfl
theorem r_Nodes_isOf_6 {J : aJ} {K : aR} {n : Nat} {L : aL} {S : List Value} {M : aM} : am_run (c_Nodes_isOf) k_Nodes_isOf J K (n + 1) 6 L S M = ai_getf 0 5 9 (am_run (c_Nodes_isOf) k_Nodes_isOf J K n) K 6 L S M := by rfl
theorem r_Nodes_isOf_9 {J : aJ} {K : aR} {n : Nat} {L : aL} {S : List Value} {M : aM} : am_run (c_Nodes_isOf) k_Nodes_isOf J K (n + 1) 9 L S M = ai_cmpge 33 12 (am_run (c_Nodes_isOf) k_Nodes_isOf J K n) K 9 L S M := by rfl
theorem r_Nodes_isOf_12 {J : aJ} {K : aR} {n : Nat} {L : aL} {S : List Value} {M : aM} : am_run (c_Nodes_isOf) k_Nodes_isOf J K (n + 1) 12 L S M = ai_iload 1 13 (am_run (c_Nodes_isOf) k_Nodes_isOf J K n) K 12 L S M := by rfl
theorem r_Nodes_isOf_13 {J : aJ} {K : aR} {n : Nat} {L : aL} {S : List Value} {M : aM} : am_run (c_Nodes_isOf) k_Nodes_isOf J K (n + 1) 13 L S M = ai_const 200 16 (am_run (c_Nodes_isOf) k_Nodes_isOf J K n) K 13 L S M := by rfl
theorem r_Nodes_isOf_16 {J : aJ} {K : aR} {n : Nat} {L : aL} {S : List Value} {M : aM} : am_run (c_Nodes_isOf) k_Nodes_isOf J K (n + 1) 16 L S M = ai_cmpge 33 19 (am_run (c_Nodes_isOf) k_Nodes_isOf J K n) K 16 L S M := by rfl
theorem r_Nodes_isOf_19 {J : aJ} {K : aR} {n : Nat} {L : aL} {S : List Value} {M : aM} : am_run (c_Nodes_isOf) k_Nodes_isOf J K (n + 1) 19 L S M = ai_aload 0 20 (am_run (c_Nodes_isOf) k_Nodes_isOf J K n) K 19 L S M := by rfl
theorem r_Nodes_isOf_20 {J : aJ} {K : aR} {n : Nat} {L : aL} {S : List Value} {M : aM} : am_run (c_Nodes_isOf) k_Nodes_isOf J K (n + 1) 20 L S M = ai_getf 0 0 23 (am_run (c_Nodes_isOf) k_Nodes_isOf J K n) K 20 L S M := by rfl
theorem r_Nodes_isOf_23 {J : aJ} {K : aR} {n : Nat} {L : aL} {S : List Value} {M : aM} : am_run (c_Nodes_isOf) k_Nodes_isOf J K (n + 1) 23 L S M = ai_iload 1 24 (am_run (c_Nodes_isOf) k_Nodes_isOf J K n) K 23 L S M := by rfl
theorem r_Nodes_isOf_24 {J : aJ} {K : aR} {n : Nat} {L : aL} {S : List Value} {M : aM} : am_run (c_Nodes_isOf) k_Nodes_isOf J K (n + 1) 24 L S M = ai_iald 25 (am_run (c_Nodes_isOf) k_Nodes_isOf J K n) K 24 L S M := by rfl
theorem r_Nodes_isOf_25 {J : aJ} {K : aR} {n : Nat} {L : aL} {S : List Value} {M : aM} : am_run (c_Nodes_isOf) k_Nodes_isOf J K (n + 1) 25 L S M = ai_iload 2 26 (am_run (c_Nodes_isOf) k_Nodes_isOf J K n) K 25 L S M := by rfl
theorem r_Nodes_isOf_26 {J : aJ} {K : aR} {n : Nat} {L : aL} {S : List Value} {M : aM} : am_run (c_Nodes_isOf) k_Nodes_isOf J K (n + 1) 26 L S M = ai_cmpne 33 29 (am_run (c_Nodes_isOf) k_Nodes_isOf J K n) K 26 L S M := by rfl
theorem r_Nodes_isOf_29 {J : aJ} {K : aR} {n : Nat} {L : aL} {S : List Value} {M : aM} : am_run (c_Nodes_isOf) k_Nodes_isOf J K (n + 1) 29 L S M = ai_const 1 30 (am_run (c_Nodes_isOf) k_Nodes_isOf J K n) K 29 L S M := by rfl
theorem r_Nodes_isOf_30 {J : aJ} {K : aR} {n : Nat} {L : aL} {S : List Value} {M : aM} : am_run (c_Nodes_isOf) k_Nodes_isOf J K (n + 1) 30 L S M = ai_goto 34 (am_run (c_Nodes_isOf) k_Nodes_isOf J K n) K 30 L S M := by rfl
theorem r_Nodes_isOf_33 {J : aJ} {K : aR} {n : Nat} {L : aL} {S : List Value} {M : aM} : am_run (c_Nodes_isOf) k_Nodes_isOf J K (n + 1) 33 L S M = ai_const 0 34 (am_run (c_Nodes_isOf) k_Nodes_isOf J K n) K 33 L S M := by rfl
theorem r_Nodes_isOf_34 {J : aJ} {K : aR} {n : Nat} {L : aL} {S : List Value} {M : aM} : am_run (c_Nodes_isOf) k_Nodes_isOf J K (n + 1) 34 L S M = ai_zret (am_run (c_Nodes_isOf) k_Nodes_isOf J K n) K 34 L S M := by rfl
def c_Nodes_add : List (Nat × aI) := [
  (0, ai_aload 0 1),
  (1, ai_getf 0 5 4),
  (4, ai_iflt 17 7),
  (7, ai_aload 0 8),
  (8, ai_getf 0 5 11),
  (11, ai_const 200 14),
  (14, ai_cmplt 19 17),
  (17, ai_const (-1) 18),
  (18, ai_iret),
  (19, ai_aload 0 20),
  (20, ai_getf 0 5 23),
  (23, ai_istore 2 24),
  (24, ai_aload 0 25),
  (25, ai_getf 0 0 28),
  (28, ai_iload 2 29),
  (29, ai_iload 1 30),
  (30, ai_iast 31),
  (31, ai_aload 0 32),
  (32, ai_getf 0 1 35),
  (35, ai_iload 2 36),
  (36, ai_const 0 37),
  (37, ai_iast 38),
  (38, ai_aload 0 39),
  (39, ai_getf 0 2 42),
  (42, ai_iload 2 43),
  (43, ai_aload 0 44),
  (44, ai_getf 0 9 47),
  (47, ai_iast 48),
  (48, ai_aload 0 49),
  (49, ai_getf 0 3 52),
  (52, ai_iload 2 53),
  (53, ai_const (-1) 54),
  (54, ai_iast 55),
  (55, ai_aload 0 56),
  (56, ai_getf 0 4 59),
  (59, ai_iload 2 60),
  (60, ai_const (-1) 61),
  (61, ai_iast 62),
  (62, ai_aload 0 63),
  (63, ai_dup 64),
  (64, ai_getf 0 5 67),
  (67, ai_const 1 68),
  (68, ai_iadd 69),
  (69, ai_putf 0 5 72),
  (72, ai_iload 2 73),
  (73, ai_iret)]
set_option maxRecDepth 100000 in
set_option maxHeartbeats 4000000 in
theorem tb_Nodes_add {G : aG} {d : Nat} : am_tab G Y_Nodes_add d (c_Nodes_add) := by
  intro K p e s m args below meth c C
  exact ⟨as_aload_n C (pc := 0) (q := 0) (by decide +kernel) rfl rfl,
    as_getf C (pc := 1) (T := T_Nodes) (N := 10) rfl in_Nodes (by decide) rfl w_123 (by decide +kernel) rfl,
    as_iflt C (pc := 4) (off := 13) (by decide +kernel) (by decide) rfl,
    as_aload_n C (pc := 7) (q := 0) (by decide +kernel) rfl rfl,
    as_getf C (pc := 8) (T := T_Nodes) (N := 10) rfl in_Nodes (by decide) rfl w_123 (by decide +kernel) rfl,
    as_sipush C (pc := 11) (n := 200) (by decide +kernel) (by decide +kernel) rfl,
    as_cmplt C (pc := 14) (off := 5) (by decide +kernel) (by decide) rfl,
    as_iconst C (pc := 17) (n := (-1)) (by decide +kernel) (by decide +kernel) rfl,
    as_iret C (pc := 18) rfl (by decide +kernel),
    as_aload_n C (pc := 19) (q := 0) (by decide +kernel) rfl rfl,
    as_getf C (pc := 20) (T := T_Nodes) (N := 10) rfl in_Nodes (by decide) rfl w_123 (by decide +kernel) rfl,
    as_istore_n C (pc := 23) (q := 2) (by decide +kernel) rfl (by decide) rfl,
    as_aload_n C (pc := 24) (q := 0) (by decide +kernel) rfl rfl,
    as_getf C (pc := 25) (T := T_Nodes) (N := 10) rfl in_Nodes (by decide) rfl w_118 (by decide +kernel) rfl,
    as_iload_n C (pc := 28) (q := 2) (by decide +kernel) rfl rfl,
    as_iload_n C (pc := 29) (q := 1) (by decide +kernel) rfl rfl,
    as_iast C (pc := 30) (by decide +kernel) rfl,
    as_aload_n C (pc := 31) (q := 0) (by decide +kernel) rfl rfl,
    as_getf C (pc := 32) (T := T_Nodes) (N := 10) rfl in_Nodes (by decide) rfl w_119 (by decide +kernel) rfl,
    as_iload_n C (pc := 35) (q := 2) (by decide +kernel) rfl rfl,
    as_iconst C (pc := 36) (n := 0) (by decide +kernel) (by decide +kernel) rfl,
    as_iast C (pc := 37) (by decide +kernel) rfl,
    as_aload_n C (pc := 38) (q := 0) (by decide +kernel) rfl rfl,
    as_getf C (pc := 39) (T := T_Nodes) (N := 10) rfl in_Nodes (by decide) rfl w_120 (by decide +kernel) rfl,
    as_iload_n C (pc := 42) (q := 2) (by decide +kernel) rfl rfl,
    as_aload_n C (pc := 43) (q := 0) (by decide +kernel) rfl rfl,
    as_getf C (pc := 44) (T := T_Nodes) (N := 10) rfl in_Nodes (by decide) rfl w_129 (by decide +kernel) rfl,
    as_iast C (pc := 47) (by decide +kernel) rfl,
    as_aload_n C (pc := 48) (q := 0) (by decide +kernel) rfl rfl,
    as_getf C (pc := 49) (T := T_Nodes) (N := 10) rfl in_Nodes (by decide) rfl w_121 (by decide +kernel) rfl,
    as_iload_n C (pc := 52) (q := 2) (by decide +kernel) rfl rfl,
    as_iconst C (pc := 53) (n := (-1)) (by decide +kernel) (by decide +kernel) rfl,
    as_iast C (pc := 54) (by decide +kernel) rfl,
    as_aload_n C (pc := 55) (q := 0) (by decide +kernel) rfl rfl,
    as_getf C (pc := 56) (T := T_Nodes) (N := 10) rfl in_Nodes (by decide) rfl w_122 (by decide +kernel) rfl,
    as_iload_n C (pc := 59) (q := 2) (by decide +kernel) rfl rfl,
    as_iconst C (pc := 60) (n := (-1)) (by decide +kernel) (by decide +kernel) rfl,
    as_iast C (pc := 61) (by decide +kernel) rfl,
    as_aload_n C (pc := 62) (q := 0) (by decide +kernel) rfl rfl,
    as_dup C (pc := 63) (by decide +kernel) rfl,
    as_getf C (pc := 64) (T := T_Nodes) (N := 10) rfl in_Nodes (by decide) rfl w_123 (by decide +kernel) rfl,
    as_iconst C (pc := 67) (n := 1) (by decide +kernel) (by decide +kernel) rfl,
    as_iadd C (pc := 68) (by decide +kernel) rfl,
    as_putf C (pc := 69) t_Nodes (T := T_Nodes) (N := 10) rfl in_Nodes tok_Nodes nm_Nodes (by decide) rfl rfl (by decide +kernel) w_123 (by decide +kernel) rfl,
    as_iload_n C (pc := 72) (q := 2) (by decide +kernel) rfl rfl,
    as_iret C (pc := 73) rfl (by decide +kernel), trivial⟩
abbrev k_Nodes_add : List Nat := []
theorem r_Nodes_add_0 {J : aJ} {K : aR} {n : Nat} {L : aL} {S : List Value} {M : aM} : am_run (c_Nodes_add) k_Nodes_add J K (n + 1) 0 L S M = ai_aload 0 1 (am_run (c_Nodes_add) k_Nodes_add J K n) K 0 L S M := by rfl
theorem r_Nodes_add_1 {J : aJ} {K : aR} {n : Nat} {L : aL} {S : List Value} {M : aM} : am_run (c_Nodes_add) k_Nodes_add J K (n + 1) 1 L S M = ai_getf 0 5 4 (am_run (c_Nodes_add) k_Nodes_add J K n) K 1 L S M := by rfl
theorem r_Nodes_add_4 {J : aJ} {K : aR} {n : Nat} {L : aL} {S : List Value} {M : aM} : am_run (c_Nodes_add) k_Nodes_add J K (n + 1) 4 L S M = ai_iflt 17 7 (am_run (c_Nodes_add) k_Nodes_add J K n) K 4 L S M := by rfl
theorem r_Nodes_add_7 {J : aJ} {K : aR} {n : Nat} {L : aL} {S : List Value} {M : aM} : am_run (c_Nodes_add) k_Nodes_add J K (n + 1) 7 L S M = ai_aload 0 8 (am_run (c_Nodes_add) k_Nodes_add J K n) K 7 L S M := by rfl
theorem r_Nodes_add_8 {J : aJ} {K : aR} {n : Nat} {L : aL} {S : List Value} {M : aM} : am_run (c_Nodes_add) k_Nodes_add J K (n + 1) 8 L S M = ai_getf 0 5 11 (am_run (c_Nodes_add) k_Nodes_add J K n) K 8 L S M := by rfl
theorem r_Nodes_add_11 {J : aJ} {K : aR} {n : Nat} {L : aL} {S : List Value} {M : aM} : am_run (c_Nodes_add) k_Nodes_add J K (n + 1) 11 L S M = ai_const 200 14 (am_run (c_Nodes_add) k_Nodes_add J K n) K 11 L S M := by rfl
theorem r_Nodes_add_14 {J : aJ} {K : aR} {n : Nat} {L : aL} {S : List Value} {M : aM} : am_run (c_Nodes_add) k_Nodes_add J K (n + 1) 14 L S M = ai_cmplt 19 17 (am_run (c_Nodes_add) k_Nodes_add J K n) K 14 L S M := by rfl
theorem r_Nodes_add_17 {J : aJ} {K : aR} {n : Nat} {L : aL} {S : List Value} {M : aM} : am_run (c_Nodes_add) k_Nodes_add J K (n + 1) 17 L S M = ai_const (-1) 18 (am_run (c_Nodes_add) k_Nodes_add J K n) K 17 L S M := by rfl
theorem r_Nodes_add_18 {J : aJ} {K : aR} {n : Nat} {L : aL} {S : List Value} {M : aM} : am_run (c_Nodes_add) k_Nodes_add J K (n + 1) 18 L S M = ai_iret (am_run (c_Nodes_add) k_Nodes_add J K n) K 18 L S M := by rfl
theorem r_Nodes_add_19 {J : aJ} {K : aR} {n : Nat} {L : aL} {S : List Value} {M : aM} : am_run (c_Nodes_add) k_Nodes_add J K (n + 1) 19 L S M = ai_aload 0 20 (am_run (c_Nodes_add) k_Nodes_add J K n) K 19 L S M := by rfl
theorem r_Nodes_add_20 {J : aJ} {K : aR} {n : Nat} {L : aL} {S : List Value} {M : aM} : am_run (c_Nodes_add) k_Nodes_add J K (n + 1) 20 L S M = ai_getf 0 5 23 (am_run (c_Nodes_add) k_Nodes_add J K n) K 20 L S M := by rfl
theorem r_Nodes_add_23 {J : aJ} {K : aR} {n : Nat} {L : aL} {S : List Value} {M : aM} : am_run (c_Nodes_add) k_Nodes_add J K (n + 1) 23 L S M = ai_istore 2 24 (am_run (c_Nodes_add) k_Nodes_add J K n) K 23 L S M := by rfl
theorem r_Nodes_add_24 {J : aJ} {K : aR} {n : Nat} {L : aL} {S : List Value} {M : aM} : am_run (c_Nodes_add) k_Nodes_add J K (n + 1) 24 L S M = ai_aload 0 25 (am_run (c_Nodes_add) k_Nodes_add J K n) K 24 L S M := by rfl
theorem r_Nodes_add_25 {J : aJ} {K : aR} {n : Nat} {L : aL} {S : List Value} {M : aM} : am_run (c_Nodes_add) k_Nodes_add J K (n + 1) 25 L S M = ai_getf 0 0 28 (am_run (c_Nodes_add) k_Nodes_add J K n) K 25 L S M := by rfl
theorem r_Nodes_add_28 {J : aJ} {K : aR} {n : Nat} {L : aL} {S : List Value} {M : aM} : am_run (c_Nodes_add) k_Nodes_add J K (n + 1) 28 L S M = ai_iload 2 29 (am_run (c_Nodes_add) k_Nodes_add J K n) K 28 L S M := by rfl
theorem r_Nodes_add_29 {J : aJ} {K : aR} {n : Nat} {L : aL} {S : List Value} {M : aM} : am_run (c_Nodes_add) k_Nodes_add J K (n + 1) 29 L S M = ai_iload 1 30 (am_run (c_Nodes_add) k_Nodes_add J K n) K 29 L S M := by rfl
theorem r_Nodes_add_30 {J : aJ} {K : aR} {n : Nat} {L : aL} {S : List Value} {M : aM} : am_run (c_Nodes_add) k_Nodes_add J K (n + 1) 30 L S M = ai_iast 31 (am_run (c_Nodes_add) k_Nodes_add J K n) K 30 L S M := by rfl
theorem r_Nodes_add_31 {J : aJ} {K : aR} {n : Nat} {L : aL} {S : List Value} {M : aM} : am_run (c_Nodes_add) k_Nodes_add J K (n + 1) 31 L S M = ai_aload 0 32 (am_run (c_Nodes_add) k_Nodes_add J K n) K 31 L S M := by rfl
theorem r_Nodes_add_32 {J : aJ} {K : aR} {n : Nat} {L : aL} {S : List Value} {M : aM} : am_run (c_Nodes_add) k_Nodes_add J K (n + 1) 32 L S M = ai_getf 0 1 35 (am_run (c_Nodes_add) k_Nodes_add J K n) K 32 L S M := by rfl
theorem r_Nodes_add_35 {J : aJ} {K : aR} {n : Nat} {L : aL} {S : List Value} {M : aM} : am_run (c_Nodes_add) k_Nodes_add J K (n + 1) 35 L S M = ai_iload 2 36 (am_run (c_Nodes_add) k_Nodes_add J K n) K 35 L S M := by rfl
theorem r_Nodes_add_36 {J : aJ} {K : aR} {n : Nat} {L : aL} {S : List Value} {M : aM} : am_run (c_Nodes_add) k_Nodes_add J K (n + 1) 36 L S M = ai_const 0 37 (am_run (c_Nodes_add) k_Nodes_add J K n) K 36 L S M := by rfl
theorem r_Nodes_add_37 {J : aJ} {K : aR} {n : Nat} {L : aL} {S : List Value} {M : aM} : am_run (c_Nodes_add) k_Nodes_add J K (n + 1) 37 L S M = ai_iast 38 (am_run (c_Nodes_add) k_Nodes_add J K n) K 37 L S M := by rfl
theorem r_Nodes_add_38 {J : aJ} {K : aR} {n : Nat} {L : aL} {S : List Value} {M : aM} : am_run (c_Nodes_add) k_Nodes_add J K (n + 1) 38 L S M = ai_aload 0 39 (am_run (c_Nodes_add) k_Nodes_add J K n) K 38 L S M := by rfl
theorem r_Nodes_add_39 {J : aJ} {K : aR} {n : Nat} {L : aL} {S : List Value} {M : aM} : am_run (c_Nodes_add) k_Nodes_add J K (n + 1) 39 L S M = ai_getf 0 2 42 (am_run (c_Nodes_add) k_Nodes_add J K n) K 39 L S M := by rfl
theorem r_Nodes_add_42 {J : aJ} {K : aR} {n : Nat} {L : aL} {S : List Value} {M : aM} : am_run (c_Nodes_add) k_Nodes_add J K (n + 1) 42 L S M = ai_iload 2 43 (am_run (c_Nodes_add) k_Nodes_add J K n) K 42 L S M := by rfl
theorem r_Nodes_add_43 {J : aJ} {K : aR} {n : Nat} {L : aL} {S : List Value} {M : aM} : am_run (c_Nodes_add) k_Nodes_add J K (n + 1) 43 L S M = ai_aload 0 44 (am_run (c_Nodes_add) k_Nodes_add J K n) K 43 L S M := by rfl
theorem r_Nodes_add_44 {J : aJ} {K : aR} {n : Nat} {L : aL} {S : List Value} {M : aM} : am_run (c_Nodes_add) k_Nodes_add J K (n + 1) 44 L S M = ai_getf 0 9 47 (am_run (c_Nodes_add) k_Nodes_add J K n) K 44 L S M := by rfl
theorem r_Nodes_add_47 {J : aJ} {K : aR} {n : Nat} {L : aL} {S : List Value} {M : aM} : am_run (c_Nodes_add) k_Nodes_add J K (n + 1) 47 L S M = ai_iast 48 (am_run (c_Nodes_add) k_Nodes_add J K n) K 47 L S M := by rfl
theorem r_Nodes_add_48 {J : aJ} {K : aR} {n : Nat} {L : aL} {S : List Value} {M : aM} : am_run (c_Nodes_add) k_Nodes_add J K (n + 1) 48 L S M = ai_aload 0 49 (am_run (c_Nodes_add) k_Nodes_add J K n) K 48 L S M := by rfl
theorem r_Nodes_add_49 {J : aJ} {K : aR} {n : Nat} {L : aL} {S : List Value} {M : aM} : am_run (c_Nodes_add) k_Nodes_add J K (n + 1) 49 L S M = ai_getf 0 3 52 (am_run (c_Nodes_add) k_Nodes_add J K n) K 49 L S M := by rfl
theorem r_Nodes_add_52 {J : aJ} {K : aR} {n : Nat} {L : aL} {S : List Value} {M : aM} : am_run (c_Nodes_add) k_Nodes_add J K (n + 1) 52 L S M = ai_iload 2 53 (am_run (c_Nodes_add) k_Nodes_add J K n) K 52 L S M := by rfl
theorem r_Nodes_add_53 {J : aJ} {K : aR} {n : Nat} {L : aL} {S : List Value} {M : aM} : am_run (c_Nodes_add) k_Nodes_add J K (n + 1) 53 L S M = ai_const (-1) 54 (am_run (c_Nodes_add) k_Nodes_add J K n) K 53 L S M := by rfl
theorem r_Nodes_add_54 {J : aJ} {K : aR} {n : Nat} {L : aL} {S : List Value} {M : aM} : am_run (c_Nodes_add) k_Nodes_add J K (n + 1) 54 L S M = ai_iast 55 (am_run (c_Nodes_add) k_Nodes_add J K n) K 54 L S M := by rfl
theorem r_Nodes_add_55 {J : aJ} {K : aR} {n : Nat} {L : aL} {S : List Value} {M : aM} : am_run (c_Nodes_add) k_Nodes_add J K (n + 1) 55 L S M = ai_aload 0 56 (am_run (c_Nodes_add) k_Nodes_add J K n) K 55 L S M := by rfl
theorem r_Nodes_add_56 {J : aJ} {K : aR} {n : Nat} {L : aL} {S : List Value} {M : aM} : am_run (c_Nodes_add) k_Nodes_add J K (n + 1) 56 L S M = ai_getf 0 4 59 (am_run (c_Nodes_add) k_Nodes_add J K n) K 56 L S M := by rfl
theorem r_Nodes_add_59 {J : aJ} {K : aR} {n : Nat} {L : aL} {S : List Value} {M : aM} : am_run (c_Nodes_add) k_Nodes_add J K (n + 1) 59 L S M = ai_iload 2 60 (am_run (c_Nodes_add) k_Nodes_add J K n) K 59 L S M := by rfl
theorem r_Nodes_add_60 {J : aJ} {K : aR} {n : Nat} {L : aL} {S : List Value} {M : aM} : am_run (c_Nodes_add) k_Nodes_add J K (n + 1) 60 L S M = ai_const (-1) 61 (am_run (c_Nodes_add) k_Nodes_add J K n) K 60 L S M := by rfl
theorem r_Nodes_add_61 {J : aJ} {K : aR} {n : Nat} {L : aL} {S : List Value} {M : aM} : am_run (c_Nodes_add) k_Nodes_add J K (n + 1) 61 L S M = ai_iast 62 (am_run (c_Nodes_add) k_Nodes_add J K n) K 61 L S M := by rfl
theorem r_Nodes_add_62 {J : aJ} {K : aR} {n : Nat} {L : aL} {S : List Value} {M : aM} : am_run (c_Nodes_add) k_Nodes_add J K (n + 1) 62 L S M = ai_aload 0 63 (am_run (c_Nodes_add) k_Nodes_add J K n) K 62 L S M := by rfl
theorem r_Nodes_add_63 {J : aJ} {K : aR} {n : Nat} {L : aL} {S : List Value} {M : aM} : am_run (c_Nodes_add) k_Nodes_add J K (n + 1) 63 L S M = ai_dup 64 (am_run (c_Nodes_add) k_Nodes_add J K n) K 63 L S M := by rfl
theorem r_Nodes_add_64 {J : aJ} {K : aR} {n : Nat} {L : aL} {S : List Value} {M : aM} : am_run (c_Nodes_add) k_Nodes_add J K (n + 1) 64 L S M = ai_getf 0 5 67 (am_run (c_Nodes_add) k_Nodes_add J K n) K 64 L S M := by rfl
theorem r_Nodes_add_67 {J : aJ} {K : aR} {n : Nat} {L : aL} {S : List Value} {M : aM} : am_run (c_Nodes_add) k_Nodes_add J K (n + 1) 67 L S M = ai_const 1 68 (am_run (c_Nodes_add) k_Nodes_add J K n) K 67 L S M := by rfl
theorem r_Nodes_add_68 {J : aJ} {K : aR} {n : Nat} {L : aL} {S : List Value} {M : aM} : am_run (c_Nodes_add) k_Nodes_add J K (n + 1) 68 L S M = ai_iadd 69 (am_run (c_Nodes_add) k_Nodes_add J K n) K 68 L S M := by rfl
theorem r_Nodes_add_69 {J : aJ} {K : aR} {n : Nat} {L : aL} {S : List Value} {M : aM} : am_run (c_Nodes_add) k_Nodes_add J K (n + 1) 69 L S M = ai_putf 0 5 72 (am_run (c_Nodes_add) k_Nodes_add J K n) K 69 L S M := by rfl
theorem r_Nodes_add_72 {J : aJ} {K : aR} {n : Nat} {L : aL} {S : List Value} {M : aM} : am_run (c_Nodes_add) k_Nodes_add J K (n + 1) 72 L S M = ai_iload 2 73 (am_run (c_Nodes_add) k_Nodes_add J K n) K 72 L S M := by rfl
theorem r_Nodes_add_73 {J : aJ} {K : aR} {n : Nat} {L : aL} {S : List Value} {M : aM} : am_run (c_Nodes_add) k_Nodes_add J K (n + 1) 73 L S M = ai_iret (am_run (c_Nodes_add) k_Nodes_add J K n) K 73 L S M := by rfl
def c_Nodes_addDatum : List (Nat × aI) := [
  (0, ai_aload 0 1),
  (1, ai_getf 0 7 4),
  (4, ai_iflt 37 7),
  (7, ai_aload 0 8),
  (8, ai_getf 0 7 11),
  (11, ai_const 200 14),
  (14, ai_cmpge 37 17),
  (17, ai_aload 0 18),
  (18, ai_getf 0 6 21),
  (21, ai_aload 0 22),
  (22, ai_getf 0 7 25),
  (25, ai_iload 1 26),
  (26, ai_iast 27),
  (27, ai_aload 0 28),
  (28, ai_dup 29),
  (29, ai_getf 0 7 32),
  (32, ai_const 1 33),
  (33, ai_iadd 34),
  (34, ai_putf 0 7 37),
  (37, ai_vret)]
set_option maxRecDepth 100000 in
set_option maxHeartbeats 4000000 in
theorem tb_Nodes_addDatum {G : aG} {d : Nat} : am_tab G Y_Nodes_addDatum d (c_Nodes_addDatum) := by
  intro K p e s m args below meth c C
  exact ⟨as_aload_n C (pc := 0) (q := 0) (by decide +kernel) rfl rfl,
    as_getf C (pc := 1) (T := T_Nodes) (N := 10) rfl in_Nodes (by decide) rfl w_126 (by decide +kernel) rfl,
    as_iflt C (pc := 4) (off := 33) (by decide +kernel) (by decide) rfl,
    as_aload_n C (pc := 7) (q := 0) (by decide +kernel) rfl rfl,
    as_getf C (pc := 8) (T := T_Nodes) (N := 10) rfl in_Nodes (by decide) rfl w_126 (by decide +kernel) rfl,
    as_sipush C (pc := 11) (n := 200) (by decide +kernel) (by decide +kernel) rfl,
    as_cmpge C (pc := 14) (off := 23) (by decide +kernel) (by decide) rfl,
    as_aload_n C (pc := 17) (q := 0) (by decide +kernel) rfl rfl,
    as_getf C (pc := 18) (T := T_Nodes) (N := 10) rfl in_Nodes (by decide) rfl w_125 (by decide +kernel) rfl,
    as_aload_n C (pc := 21) (q := 0) (by decide +kernel) rfl rfl,
    as_getf C (pc := 22) (T := T_Nodes) (N := 10) rfl in_Nodes (by decide) rfl w_126 (by decide +kernel) rfl,
    as_iload_n C (pc := 25) (q := 1) (by decide +kernel) rfl rfl,
    as_iast C (pc := 26) (by decide +kernel) rfl,
    as_aload_n C (pc := 27) (q := 0) (by decide +kernel) rfl rfl,
    as_dup C (pc := 28) (by decide +kernel) rfl,
    as_getf C (pc := 29) (T := T_Nodes) (N := 10) rfl in_Nodes (by decide) rfl w_126 (by decide +kernel) rfl,
    as_iconst C (pc := 32) (n := 1) (by decide +kernel) (by decide +kernel) rfl,
    as_iadd C (pc := 33) (by decide +kernel) rfl,
    as_putf C (pc := 34) t_Nodes (T := T_Nodes) (N := 10) rfl in_Nodes tok_Nodes nm_Nodes (by decide) rfl rfl (by decide +kernel) w_126 (by decide +kernel) rfl,
    as_vret C (pc := 37) rfl (by decide +kernel), trivial⟩
abbrev k_Nodes_addDatum : List Nat := []
theorem r_Nodes_addDatum_0 {J : aJ} {K : aR} {n : Nat} {L : aL} {S : List Value} {M : aM} : am_run (c_Nodes_addDatum) k_Nodes_addDatum J K (n + 1) 0 L S M = ai_aload 0 1 (am_run (c_Nodes_addDatum) k_Nodes_addDatum J K n) K 0 L S M := by rfl
theorem r_Nodes_addDatum_1 {J : aJ} {K : aR} {n : Nat} {L : aL} {S : List Value} {M : aM} : am_run (c_Nodes_addDatum) k_Nodes_addDatum J K (n + 1) 1 L S M = ai_getf 0 7 4 (am_run (c_Nodes_addDatum) k_Nodes_addDatum J K n) K 1 L S M := by rfl
theorem r_Nodes_addDatum_4 {J : aJ} {K : aR} {n : Nat} {L : aL} {S : List Value} {M : aM} : am_run (c_Nodes_addDatum) k_Nodes_addDatum J K (n + 1) 4 L S M = ai_iflt 37 7 (am_run (c_Nodes_addDatum) k_Nodes_addDatum J K n) K 4 L S M := by rfl
theorem r_Nodes_addDatum_7 {J : aJ} {K : aR} {n : Nat} {L : aL} {S : List Value} {M : aM} : am_run (c_Nodes_addDatum) k_Nodes_addDatum J K (n + 1) 7 L S M = ai_aload 0 8 (am_run (c_Nodes_addDatum) k_Nodes_addDatum J K n) K 7 L S M := by rfl
theorem r_Nodes_addDatum_8 {J : aJ} {K : aR} {n : Nat} {L : aL} {S : List Value} {M : aM} : am_run (c_Nodes_addDatum) k_Nodes_addDatum J K (n + 1) 8 L S M = ai_getf 0 7 11 (am_run (c_Nodes_addDatum) k_Nodes_addDatum J K n) K 8 L S M := by rfl
theorem r_Nodes_addDatum_11 {J : aJ} {K : aR} {n : Nat} {L : aL} {S : List Value} {M : aM} : am_run (c_Nodes_addDatum) k_Nodes_addDatum J K (n + 1) 11 L S M = ai_const 200 14 (am_run (c_Nodes_addDatum) k_Nodes_addDatum J K n) K 11 L S M := by rfl
theorem r_Nodes_addDatum_14 {J : aJ} {K : aR} {n : Nat} {L : aL} {S : List Value} {M : aM} : am_run (c_Nodes_addDatum) k_Nodes_addDatum J K (n + 1) 14 L S M = ai_cmpge 37 17 (am_run (c_Nodes_addDatum) k_Nodes_addDatum J K n) K 14 L S M := by rfl
theorem r_Nodes_addDatum_17 {J : aJ} {K : aR} {n : Nat} {L : aL} {S : List Value} {M : aM} : am_run (c_Nodes_addDatum) k_Nodes_addDatum J K (n + 1) 17 L S M = ai_aload 0 18 (am_run (c_Nodes_addDatum) k_Nodes_addDatum J K n) K 17 L S M := by rfl
theorem r_Nodes_addDatum_18 {J : aJ} {K : aR} {n : Nat} {L : aL} {S : List Value} {M : aM} : am_run (c_Nodes_addDatum) k_Nodes_addDatum J K (n + 1) 18 L S M = ai_getf 0 6 21 (am_run (c_Nodes_addDatum) k_Nodes_addDatum J K n) K 18 L S M := by rfl
theorem r_Nodes_addDatum_21 {J : aJ} {K : aR} {n : Nat} {L : aL} {S : List Value} {M : aM} : am_run (c_Nodes_addDatum) k_Nodes_addDatum J K (n + 1) 21 L S M = ai_aload 0 22 (am_run (c_Nodes_addDatum) k_Nodes_addDatum J K n) K 21 L S M := by rfl
theorem r_Nodes_addDatum_22 {J : aJ} {K : aR} {n : Nat} {L : aL} {S : List Value} {M : aM} : am_run (c_Nodes_addDatum) k_Nodes_addDatum J K (n + 1) 22 L S M = ai_getf 0 7 25 (am_run (c_Nodes_addDatum) k_Nodes_addDatum J K n) K 22 L S M := by rfl
theorem r_Nodes_addDatum_25 {J : aJ} {K : aR} {n : Nat} {L : aL} {S : List Value} {M : aM} : am_run (c_Nodes_addDatum) k_Nodes_addDatum J K (n + 1) 25 L S M = ai_iload 1 26 (am_run (c_Nodes_addDatum) k_Nodes_addDatum J K n) K 25 L S M := by rfl
theorem r_Nodes_addDatum_26 {J : aJ} {K : aR} {n : Nat} {L : aL} {S : List Value} {M : aM} : am_run (c_Nodes_addDatum) k_Nodes_addDatum J K (n + 1) 26 L S M = ai_iast 27 (am_run (c_Nodes_addDatum) k_Nodes_addDatum J K n) K 26 L S M := by rfl
theorem r_Nodes_addDatum_27 {J : aJ} {K : aR} {n : Nat} {L : aL} {S : List Value} {M : aM} : am_run (c_Nodes_addDatum) k_Nodes_addDatum J K (n + 1) 27 L S M = ai_aload 0 28 (am_run (c_Nodes_addDatum) k_Nodes_addDatum J K n) K 27 L S M := by rfl
theorem r_Nodes_addDatum_28 {J : aJ} {K : aR} {n : Nat} {L : aL} {S : List Value} {M : aM} : am_run (c_Nodes_addDatum) k_Nodes_addDatum J K (n + 1) 28 L S M = ai_dup 29 (am_run (c_Nodes_addDatum) k_Nodes_addDatum J K n) K 28 L S M := by rfl
theorem r_Nodes_addDatum_29 {J : aJ} {K : aR} {n : Nat} {L : aL} {S : List Value} {M : aM} : am_run (c_Nodes_addDatum) k_Nodes_addDatum J K (n + 1) 29 L S M = ai_getf 0 7 32 (am_run (c_Nodes_addDatum) k_Nodes_addDatum J K n) K 29 L S M := by rfl
theorem r_Nodes_addDatum_32 {J : aJ} {K : aR} {n : Nat} {L : aL} {S : List Value} {M : aM} : am_run (c_Nodes_addDatum) k_Nodes_addDatum J K (n + 1) 32 L S M = ai_const 1 33 (am_run (c_Nodes_addDatum) k_Nodes_addDatum J K n) K 32 L S M := by rfl
theorem r_Nodes_addDatum_33 {J : aJ} {K : aR} {n : Nat} {L : aL} {S : List Value} {M : aM} : am_run (c_Nodes_addDatum) k_Nodes_addDatum J K (n + 1) 33 L S M = ai_iadd 34 (am_run (c_Nodes_addDatum) k_Nodes_addDatum J K n) K 33 L S M := by rfl
theorem r_Nodes_addDatum_34 {J : aJ} {K : aR} {n : Nat} {L : aL} {S : List Value} {M : aM} : am_run (c_Nodes_addDatum) k_Nodes_addDatum J K (n + 1) 34 L S M = ai_putf 0 7 37 (am_run (c_Nodes_addDatum) k_Nodes_addDatum J K n) K 34 L S M := by rfl
theorem r_Nodes_addDatum_37 {J : aJ} {K : aR} {n : Nat} {L : aL} {S : List Value} {M : aM} : am_run (c_Nodes_addDatum) k_Nodes_addDatum J K (n + 1) 37 L S M = ai_vret (am_run (c_Nodes_addDatum) k_Nodes_addDatum J K n) K 37 L S M := by rfl
def c_Nodes_addLetter (s_Nodes_has : aS) : List (Nat × aI) := [
  (0, ai_aload 0 1),
  (1, ai_iload 1 2),
  (2, ai_callv2 0 s_Nodes_has 5),
  (5, ai_ifeq 57 8),
  (8, ai_aload 0 9),
  (9, ai_getf 0 9 12),
  (12, ai_iflt 57 15),
  (15, ai_aload 0 16),
  (16, ai_getf 0 9 19),
  (19, ai_aload 0 20),
  (20, ai_getf 0 8 23),
  (23, ai_alen 24),
  (24, ai_cmpge 57 27),
  (27, ai_aload 0 28),
  (28, ai_getf 0 8 31),
  (31, ai_aload 0 32),
  (32, ai_getf 0 9 35),
  (35, ai_iload 2 36),
  (36, ai_iast 37),
  (37, ai_aload 0 38),
  (38, ai_dup 39),
  (39, ai_getf 0 9 42),
  (42, ai_const 1 43),
  (43, ai_iadd 44),
  (44, ai_putf 0 9 47),
  (47, ai_aload 0 48),
  (48, ai_getf 0 1 51),
  (51, ai_iload 1 52),
  (52, ai_dup2 53),
  (53, ai_iald 54),
  (54, ai_const 1 55),
  (55, ai_iadd 56),
  (56, ai_iast 57),
  (57, ai_vret)]
set_option maxRecDepth 100000 in
set_option maxHeartbeats 4000000 in
theorem tb_Nodes_addLetter {G : aG} {d : Nat} {s_Nodes_has : aS} {d_Nodes_has : Nat} (h_Nodes_has : am_Sp G Y_Nodes_has d_Nodes_has s_Nodes_has) (l_Nodes_has : d_Nodes_has < d) : am_tab G Y_Nodes_addLetter d (c_Nodes_addLetter s_Nodes_has) := by
  intro K p e s m args below meth c C
  exact ⟨as_aload_n C (pc := 0) (q := 0) (by decide +kernel) rfl rfl,
    as_iload_n C (pc := 1) (q := 1) (by decide +kernel) rfl rfl,
    as_callv2 C (pc := 2) h_Nodes_has (T := T_Nodes) (N := 10) rfl w_341 w_72 w_340 w_21 w_338 hy_Nodes_has (am_rm_of l_Nodes_has (by decide)) (by decide +kernel) rfl,
    as_ifeq C (pc := 5) (off := 52) (by decide +kernel) (by decide) rfl,
    as_aload_n C (pc := 8) (q := 0) (by decide +kernel) rfl rfl,
    as_getf C (pc := 9) (T := T_Nodes) (N := 10) rfl in_Nodes (by decide) rfl w_129 (by decide +kernel) rfl,
    as_iflt C (pc := 12) (off := 45) (by decide +kernel) (by decide) rfl,
    as_aload_n C (pc := 15) (q := 0) (by decide +kernel) rfl rfl,
    as_getf C (pc := 16) (T := T_Nodes) (N := 10) rfl in_Nodes (by decide) rfl w_129 (by decide +kernel) rfl,
    as_aload_n C (pc := 19) (q := 0) (by decide +kernel) rfl rfl,
    as_getf C (pc := 20) (T := T_Nodes) (N := 10) rfl in_Nodes (by decide) rfl w_128 (by decide +kernel) rfl,
    as_alen C (pc := 23) (by decide +kernel) rfl,
    as_cmpge C (pc := 24) (off := 33) (by decide +kernel) (by decide) rfl,
    as_aload_n C (pc := 27) (q := 0) (by decide +kernel) rfl rfl,
    as_getf C (pc := 28) (T := T_Nodes) (N := 10) rfl in_Nodes (by decide) rfl w_128 (by decide +kernel) rfl,
    as_aload_n C (pc := 31) (q := 0) (by decide +kernel) rfl rfl,
    as_getf C (pc := 32) (T := T_Nodes) (N := 10) rfl in_Nodes (by decide) rfl w_129 (by decide +kernel) rfl,
    as_iload_n C (pc := 35) (q := 2) (by decide +kernel) rfl rfl,
    as_iast C (pc := 36) (by decide +kernel) rfl,
    as_aload_n C (pc := 37) (q := 0) (by decide +kernel) rfl rfl,
    as_dup C (pc := 38) (by decide +kernel) rfl,
    as_getf C (pc := 39) (T := T_Nodes) (N := 10) rfl in_Nodes (by decide) rfl w_129 (by decide +kernel) rfl,
    as_iconst C (pc := 42) (n := 1) (by decide +kernel) (by decide +kernel) rfl,
    as_iadd C (pc := 43) (by decide +kernel) rfl,
    as_putf C (pc := 44) t_Nodes (T := T_Nodes) (N := 10) rfl in_Nodes tok_Nodes nm_Nodes (by decide) rfl rfl (by decide +kernel) w_129 (by decide +kernel) rfl,
    as_aload_n C (pc := 47) (q := 0) (by decide +kernel) rfl rfl,
    as_getf C (pc := 48) (T := T_Nodes) (N := 10) rfl in_Nodes (by decide) rfl w_119 (by decide +kernel) rfl,
    as_iload_n C (pc := 51) (q := 1) (by decide +kernel) rfl rfl,
    as_dup2 C (pc := 52) (by decide +kernel) rfl,
    as_iald C (pc := 53) (by decide +kernel) rfl,
    as_iconst C (pc := 54) (n := 1) (by decide +kernel) (by decide +kernel) rfl,
    as_iadd C (pc := 55) (by decide +kernel) rfl,
    as_iast C (pc := 56) (by decide +kernel) rfl,
    as_vret C (pc := 57) rfl (by decide +kernel), trivial⟩
abbrev k_Nodes_addLetter : List Nat := []
theorem r_Nodes_addLetter_0 {s_Nodes_has : aS} {J : aJ} {K : aR} {n : Nat} {L : aL} {S : List Value} {M : aM} : am_run (c_Nodes_addLetter s_Nodes_has) k_Nodes_addLetter J K (n + 1) 0 L S M = ai_aload 0 1 (am_run (c_Nodes_addLetter s_Nodes_has) k_Nodes_addLetter J K n) K 0 L S M := by rfl
theorem r_Nodes_addLetter_1 {s_Nodes_has : aS} {J : aJ} {K : aR} {n : Nat} {L : aL} {S : List Value} {M : aM} : am_run (c_Nodes_addLetter s_Nodes_has) k_Nodes_addLetter J K (n + 1) 1 L S M = ai_iload 1 2 (am_run (c_Nodes_addLetter s_Nodes_has) k_Nodes_addLetter J K n) K 1 L S M := by rfl
theorem r_Nodes_addLetter_2 {s_Nodes_has : aS} {J : aJ} {K : aR} {n : Nat} {L : aL} {S : List Value} {M : aM} : am_run (c_Nodes_addLetter s_Nodes_has) k_Nodes_addLetter J K (n + 1) 2 L S M = ai_callv2 0 s_Nodes_has 5 (am_run (c_Nodes_addLetter s_Nodes_has) k_Nodes_addLetter J K n) K 2 L S M := by rfl
theorem r_Nodes_addLetter_5 {s_Nodes_has : aS} {J : aJ} {K : aR} {n : Nat} {L : aL} {S : List Value} {M : aM} : am_run (c_Nodes_addLetter s_Nodes_has) k_Nodes_addLetter J K (n + 1) 5 L S M = ai_ifeq 57 8 (am_run (c_Nodes_addLetter s_Nodes_has) k_Nodes_addLetter J K n) K 5 L S M := by rfl
theorem r_Nodes_addLetter_8 {s_Nodes_has : aS} {J : aJ} {K : aR} {n : Nat} {L : aL} {S : List Value} {M : aM} : am_run (c_Nodes_addLetter s_Nodes_has) k_Nodes_addLetter J K (n + 1) 8 L S M = ai_aload 0 9 (am_run (c_Nodes_addLetter s_Nodes_has) k_Nodes_addLetter J K n) K 8 L S M := by rfl
theorem r_Nodes_addLetter_9 {s_Nodes_has : aS} {J : aJ} {K : aR} {n : Nat} {L : aL} {S : List Value} {M : aM} : am_run (c_Nodes_addLetter s_Nodes_has) k_Nodes_addLetter J K (n + 1) 9 L S M = ai_getf 0 9 12 (am_run (c_Nodes_addLetter s_Nodes_has) k_Nodes_addLetter J K n) K 9 L S M := by rfl
theorem r_Nodes_addLetter_12 {s_Nodes_has : aS} {J : aJ} {K : aR} {n : Nat} {L : aL} {S : List Value} {M : aM} : am_run (c_Nodes_addLetter s_Nodes_has) k_Nodes_addLetter J K (n + 1) 12 L S M = ai_iflt 57 15 (am_run (c_Nodes_addLetter s_Nodes_has) k_Nodes_addLetter J K n) K 12 L S M := by rfl
theorem r_Nodes_addLetter_15 {s_Nodes_has : aS} {J : aJ} {K : aR} {n : Nat} {L : aL} {S : List Value} {M : aM} : am_run (c_Nodes_addLetter s_Nodes_has) k_Nodes_addLetter J K (n + 1) 15 L S M = ai_aload 0 16 (am_run (c_Nodes_addLetter s_Nodes_has) k_Nodes_addLetter J K n) K 15 L S M := by rfl
theorem r_Nodes_addLetter_16 {s_Nodes_has : aS} {J : aJ} {K : aR} {n : Nat} {L : aL} {S : List Value} {M : aM} : am_run (c_Nodes_addLetter s_Nodes_has) k_Nodes_addLetter J K (n + 1) 16 L S M = ai_getf 0 9 19 (am_run (c_Nodes_addLetter s_Nodes_has) k_Nodes_addLetter J K n) K 16 L S M := by rfl
theorem r_Nodes_addLetter_19 {s_Nodes_has : aS} {J : aJ} {K : aR} {n : Nat} {L : aL} {S : List Value} {M : aM} : am_run (c_Nodes_addLetter s_Nodes_has) k_Nodes_addLetter J K (n + 1) 19 L S M = ai_aload 0 20 (am_run (c_Nodes_addLetter s_Nodes_has) k_Nodes_addLetter J K n) K 19 L S M := by rfl
theorem r_Nodes_addLetter_20 {s_Nodes_has : aS} {J : aJ} {K : aR} {n : Nat} {L : aL} {S : List Value} {M : aM} : am_run (c_Nodes_addLetter s_Nodes_has) k_Nodes_addLetter J K (n + 1) 20 L S M = ai_getf 0 8 23 (am_run (c_Nodes_addLetter s_Nodes_has) k_Nodes_addLetter J K n) K 20 L S M := by rfl
theorem r_Nodes_addLetter_23 {s_Nodes_has : aS} {J : aJ} {K : aR} {n : Nat} {L : aL} {S : List Value} {M : aM} : am_run (c_Nodes_addLetter s_Nodes_has) k_Nodes_addLetter J K (n + 1) 23 L S M = ai_alen 24 (am_run (c_Nodes_addLetter s_Nodes_has) k_Nodes_addLetter J K n) K 23 L S M := by rfl
theorem r_Nodes_addLetter_24 {s_Nodes_has : aS} {J : aJ} {K : aR} {n : Nat} {L : aL} {S : List Value} {M : aM} : am_run (c_Nodes_addLetter s_Nodes_has) k_Nodes_addLetter J K (n + 1) 24 L S M = ai_cmpge 57 27 (am_run (c_Nodes_addLetter s_Nodes_has) k_Nodes_addLetter J K n) K 24 L S M := by rfl
theorem r_Nodes_addLetter_27 {s_Nodes_has : aS} {J : aJ} {K : aR} {n : Nat} {L : aL} {S : List Value} {M : aM} : am_run (c_Nodes_addLetter s_Nodes_has) k_Nodes_addLetter J K (n + 1) 27 L S M = ai_aload 0 28 (am_run (c_Nodes_addLetter s_Nodes_has) k_Nodes_addLetter J K n) K 27 L S M := by rfl
theorem r_Nodes_addLetter_28 {s_Nodes_has : aS} {J : aJ} {K : aR} {n : Nat} {L : aL} {S : List Value} {M : aM} : am_run (c_Nodes_addLetter s_Nodes_has) k_Nodes_addLetter J K (n + 1) 28 L S M = ai_getf 0 8 31 (am_run (c_Nodes_addLetter s_Nodes_has) k_Nodes_addLetter J K n) K 28 L S M := by rfl
theorem r_Nodes_addLetter_31 {s_Nodes_has : aS} {J : aJ} {K : aR} {n : Nat} {L : aL} {S : List Value} {M : aM} : am_run (c_Nodes_addLetter s_Nodes_has) k_Nodes_addLetter J K (n + 1) 31 L S M = ai_aload 0 32 (am_run (c_Nodes_addLetter s_Nodes_has) k_Nodes_addLetter J K n) K 31 L S M := by rfl
theorem r_Nodes_addLetter_32 {s_Nodes_has : aS} {J : aJ} {K : aR} {n : Nat} {L : aL} {S : List Value} {M : aM} : am_run (c_Nodes_addLetter s_Nodes_has) k_Nodes_addLetter J K (n + 1) 32 L S M = ai_getf 0 9 35 (am_run (c_Nodes_addLetter s_Nodes_has) k_Nodes_addLetter J K n) K 32 L S M := by rfl
theorem r_Nodes_addLetter_35 {s_Nodes_has : aS} {J : aJ} {K : aR} {n : Nat} {L : aL} {S : List Value} {M : aM} : am_run (c_Nodes_addLetter s_Nodes_has) k_Nodes_addLetter J K (n + 1) 35 L S M = ai_iload 2 36 (am_run (c_Nodes_addLetter s_Nodes_has) k_Nodes_addLetter J K n) K 35 L S M := by rfl
theorem r_Nodes_addLetter_36 {s_Nodes_has : aS} {J : aJ} {K : aR} {n : Nat} {L : aL} {S : List Value} {M : aM} : am_run (c_Nodes_addLetter s_Nodes_has) k_Nodes_addLetter J K (n + 1) 36 L S M = ai_iast 37 (am_run (c_Nodes_addLetter s_Nodes_has) k_Nodes_addLetter J K n) K 36 L S M := by rfl
theorem r_Nodes_addLetter_37 {s_Nodes_has : aS} {J : aJ} {K : aR} {n : Nat} {L : aL} {S : List Value} {M : aM} : am_run (c_Nodes_addLetter s_Nodes_has) k_Nodes_addLetter J K (n + 1) 37 L S M = ai_aload 0 38 (am_run (c_Nodes_addLetter s_Nodes_has) k_Nodes_addLetter J K n) K 37 L S M := by rfl
theorem r_Nodes_addLetter_38 {s_Nodes_has : aS} {J : aJ} {K : aR} {n : Nat} {L : aL} {S : List Value} {M : aM} : am_run (c_Nodes_addLetter s_Nodes_has) k_Nodes_addLetter J K (n + 1) 38 L S M = ai_dup 39 (am_run (c_Nodes_addLetter s_Nodes_has) k_Nodes_addLetter J K n) K 38 L S M := by rfl
theorem r_Nodes_addLetter_39 {s_Nodes_has : aS} {J : aJ} {K : aR} {n : Nat} {L : aL} {S : List Value} {M : aM} : am_run (c_Nodes_addLetter s_Nodes_has) k_Nodes_addLetter J K (n + 1) 39 L S M = ai_getf 0 9 42 (am_run (c_Nodes_addLetter s_Nodes_has) k_Nodes_addLetter J K n) K 39 L S M := by rfl
theorem r_Nodes_addLetter_42 {s_Nodes_has : aS} {J : aJ} {K : aR} {n : Nat} {L : aL} {S : List Value} {M : aM} : am_run (c_Nodes_addLetter s_Nodes_has) k_Nodes_addLetter J K (n + 1) 42 L S M = ai_const 1 43 (am_run (c_Nodes_addLetter s_Nodes_has) k_Nodes_addLetter J K n) K 42 L S M := by rfl
theorem r_Nodes_addLetter_43 {s_Nodes_has : aS} {J : aJ} {K : aR} {n : Nat} {L : aL} {S : List Value} {M : aM} : am_run (c_Nodes_addLetter s_Nodes_has) k_Nodes_addLetter J K (n + 1) 43 L S M = ai_iadd 44 (am_run (c_Nodes_addLetter s_Nodes_has) k_Nodes_addLetter J K n) K 43 L S M := by rfl
theorem r_Nodes_addLetter_44 {s_Nodes_has : aS} {J : aJ} {K : aR} {n : Nat} {L : aL} {S : List Value} {M : aM} : am_run (c_Nodes_addLetter s_Nodes_has) k_Nodes_addLetter J K (n + 1) 44 L S M = ai_putf 0 9 47 (am_run (c_Nodes_addLetter s_Nodes_has) k_Nodes_addLetter J K n) K 44 L S M := by rfl
theorem r_Nodes_addLetter_47 {s_Nodes_has : aS} {J : aJ} {K : aR} {n : Nat} {L : aL} {S : List Value} {M : aM} : am_run (c_Nodes_addLetter s_Nodes_has) k_Nodes_addLetter J K (n + 1) 47 L S M = ai_aload 0 48 (am_run (c_Nodes_addLetter s_Nodes_has) k_Nodes_addLetter J K n) K 47 L S M := by rfl
theorem r_Nodes_addLetter_48 {s_Nodes_has : aS} {J : aJ} {K : aR} {n : Nat} {L : aL} {S : List Value} {M : aM} : am_run (c_Nodes_addLetter s_Nodes_has) k_Nodes_addLetter J K (n + 1) 48 L S M = ai_getf 0 1 51 (am_run (c_Nodes_addLetter s_Nodes_has) k_Nodes_addLetter J K n) K 48 L S M := by rfl
theorem r_Nodes_addLetter_51 {s_Nodes_has : aS} {J : aJ} {K : aR} {n : Nat} {L : aL} {S : List Value} {M : aM} : am_run (c_Nodes_addLetter s_Nodes_has) k_Nodes_addLetter J K (n + 1) 51 L S M = ai_iload 1 52 (am_run (c_Nodes_addLetter s_Nodes_has) k_Nodes_addLetter J K n) K 51 L S M := by rfl
theorem r_Nodes_addLetter_52 {s_Nodes_has : aS} {J : aJ} {K : aR} {n : Nat} {L : aL} {S : List Value} {M : aM} : am_run (c_Nodes_addLetter s_Nodes_has) k_Nodes_addLetter J K (n + 1) 52 L S M = ai_dup2 53 (am_run (c_Nodes_addLetter s_Nodes_has) k_Nodes_addLetter J K n) K 52 L S M := by rfl
theorem r_Nodes_addLetter_53 {s_Nodes_has : aS} {J : aJ} {K : aR} {n : Nat} {L : aL} {S : List Value} {M : aM} : am_run (c_Nodes_addLetter s_Nodes_has) k_Nodes_addLetter J K (n + 1) 53 L S M = ai_iald 54 (am_run (c_Nodes_addLetter s_Nodes_has) k_Nodes_addLetter J K n) K 53 L S M := by rfl
theorem r_Nodes_addLetter_54 {s_Nodes_has : aS} {J : aJ} {K : aR} {n : Nat} {L : aL} {S : List Value} {M : aM} : am_run (c_Nodes_addLetter s_Nodes_has) k_Nodes_addLetter J K (n + 1) 54 L S M = ai_const 1 55 (am_run (c_Nodes_addLetter s_Nodes_has) k_Nodes_addLetter J K n) K 54 L S M := by rfl
theorem r_Nodes_addLetter_55 {s_Nodes_has : aS} {J : aJ} {K : aR} {n : Nat} {L : aL} {S : List Value} {M : aM} : am_run (c_Nodes_addLetter s_Nodes_has) k_Nodes_addLetter J K (n + 1) 55 L S M = ai_iadd 56 (am_run (c_Nodes_addLetter s_Nodes_has) k_Nodes_addLetter J K n) K 55 L S M := by rfl
theorem r_Nodes_addLetter_56 {s_Nodes_has : aS} {J : aJ} {K : aR} {n : Nat} {L : aL} {S : List Value} {M : aM} : am_run (c_Nodes_addLetter s_Nodes_has) k_Nodes_addLetter J K (n + 1) 56 L S M = ai_iast 57 (am_run (c_Nodes_addLetter s_Nodes_has) k_Nodes_addLetter J K n) K 56 L S M := by rfl
theorem r_Nodes_addLetter_57 {s_Nodes_has : aS} {J : aJ} {K : aR} {n : Nat} {L : aL} {S : List Value} {M : aM} : am_run (c_Nodes_addLetter s_Nodes_has) k_Nodes_addLetter J K (n + 1) 57 L S M = ai_vret (am_run (c_Nodes_addLetter s_Nodes_has) k_Nodes_addLetter J K n) K 57 L S M := by rfl
def c_Nodes_nameQuote (s_Nodes_has : aS) : List (Nat × aI) := [
  (0, ai_aload 0 1),
  (1, ai_iload 1 2),
  (2, ai_callv2 0 s_Nodes_has 5),
  (5, ai_ifeq 25 8),
  (8, ai_aload 0 9),
  (9, ai_getf 0 2 12),
  (12, ai_iload 1 13),
  (13, ai_const 0 14),
  (14, ai_iast 15),
  (15, ai_aload 0 16),
  (16, ai_getf 0 1 19),
  (19, ai_iload 1 20),
  (20, ai_gets (.ref 1000) 23),
  (23, ai_xlen 1000 5 24),
  (24, ai_iast 25),
  (25, ai_vret)]
set_option maxRecDepth 100000 in
set_option maxHeartbeats 4000000 in
theorem tb_Nodes_nameQuote {G : aG} {d : Nat} {s_Nodes_has : aS} {d_Nodes_has : Nat} (h_Nodes_has : am_Sp G Y_Nodes_has d_Nodes_has s_Nodes_has) (l_Nodes_has : d_Nodes_has < d) : am_tab G Y_Nodes_nameQuote d (c_Nodes_nameQuote s_Nodes_has) := by
  intro K p e s m args below meth c C
  exact ⟨as_aload_n C (pc := 0) (q := 0) (by decide +kernel) rfl rfl,
    as_iload_n C (pc := 1) (q := 1) (by decide +kernel) rfl rfl,
    as_callv2 C (pc := 2) h_Nodes_has (T := T_Nodes) (N := 10) rfl w_341 w_72 w_340 w_21 w_338 hy_Nodes_has (am_rm_of l_Nodes_has (by decide)) (by decide +kernel) rfl,
    as_ifeq C (pc := 5) (off := 20) (by decide +kernel) (by decide) rfl,
    as_aload_n C (pc := 8) (q := 0) (by decide +kernel) rfl rfl,
    as_getf C (pc := 9) (T := T_Nodes) (N := 10) rfl in_Nodes (by decide) rfl w_120 (by decide +kernel) rfl,
    as_iload_n C (pc := 12) (q := 1) (by decide +kernel) rfl rfl,
    as_iconst C (pc := 13) (n := 0) (by decide +kernel) (by decide +kernel) rfl,
    as_iast C (pc := 14) (by decide +kernel) rfl,
    as_aload_n C (pc := 15) (q := 0) (by decide +kernel) rfl rfl,
    as_getf C (pc := 16) (T := T_Nodes) (N := 10) rfl in_Nodes (by decide) rfl w_119 (by decide +kernel) rfl,
    as_iload_n C (pc := 19) (q := 1) (by decide +kernel) rfl rfl,
    as_getsN C (pc := 20) (Cn := "DatumDesk") (f := "QUOTE") (d := "[I") List.mem_cons_self w_113 (by decide +kernel) rfl,
    as_xlen C (pc := 23) (hm_1000 G) (by decide +kernel) rfl,
    as_iast C (pc := 24) (by decide +kernel) rfl,
    as_vret C (pc := 25) rfl (by decide +kernel), trivial⟩
abbrev k_Nodes_nameQuote : List Nat := []
theorem r_Nodes_nameQuote_0 {s_Nodes_has : aS} {J : aJ} {K : aR} {n : Nat} {L : aL} {S : List Value} {M : aM} : am_run (c_Nodes_nameQuote s_Nodes_has) k_Nodes_nameQuote J K (n + 1) 0 L S M = ai_aload 0 1 (am_run (c_Nodes_nameQuote s_Nodes_has) k_Nodes_nameQuote J K n) K 0 L S M := by rfl
theorem r_Nodes_nameQuote_1 {s_Nodes_has : aS} {J : aJ} {K : aR} {n : Nat} {L : aL} {S : List Value} {M : aM} : am_run (c_Nodes_nameQuote s_Nodes_has) k_Nodes_nameQuote J K (n + 1) 1 L S M = ai_iload 1 2 (am_run (c_Nodes_nameQuote s_Nodes_has) k_Nodes_nameQuote J K n) K 1 L S M := by rfl
theorem r_Nodes_nameQuote_2 {s_Nodes_has : aS} {J : aJ} {K : aR} {n : Nat} {L : aL} {S : List Value} {M : aM} : am_run (c_Nodes_nameQuote s_Nodes_has) k_Nodes_nameQuote J K (n + 1) 2 L S M = ai_callv2 0 s_Nodes_has 5 (am_run (c_Nodes_nameQuote s_Nodes_has) k_Nodes_nameQuote J K n) K 2 L S M := by rfl
theorem r_Nodes_nameQuote_5 {s_Nodes_has : aS} {J : aJ} {K : aR} {n : Nat} {L : aL} {S : List Value} {M : aM} : am_run (c_Nodes_nameQuote s_Nodes_has) k_Nodes_nameQuote J K (n + 1) 5 L S M = ai_ifeq 25 8 (am_run (c_Nodes_nameQuote s_Nodes_has) k_Nodes_nameQuote J K n) K 5 L S M := by rfl
theorem r_Nodes_nameQuote_8 {s_Nodes_has : aS} {J : aJ} {K : aR} {n : Nat} {L : aL} {S : List Value} {M : aM} : am_run (c_Nodes_nameQuote s_Nodes_has) k_Nodes_nameQuote J K (n + 1) 8 L S M = ai_aload 0 9 (am_run (c_Nodes_nameQuote s_Nodes_has) k_Nodes_nameQuote J K n) K 8 L S M := by rfl
theorem r_Nodes_nameQuote_9 {s_Nodes_has : aS} {J : aJ} {K : aR} {n : Nat} {L : aL} {S : List Value} {M : aM} : am_run (c_Nodes_nameQuote s_Nodes_has) k_Nodes_nameQuote J K (n + 1) 9 L S M = ai_getf 0 2 12 (am_run (c_Nodes_nameQuote s_Nodes_has) k_Nodes_nameQuote J K n) K 9 L S M := by rfl
theorem r_Nodes_nameQuote_12 {s_Nodes_has : aS} {J : aJ} {K : aR} {n : Nat} {L : aL} {S : List Value} {M : aM} : am_run (c_Nodes_nameQuote s_Nodes_has) k_Nodes_nameQuote J K (n + 1) 12 L S M = ai_iload 1 13 (am_run (c_Nodes_nameQuote s_Nodes_has) k_Nodes_nameQuote J K n) K 12 L S M := by rfl
theorem r_Nodes_nameQuote_13 {s_Nodes_has : aS} {J : aJ} {K : aR} {n : Nat} {L : aL} {S : List Value} {M : aM} : am_run (c_Nodes_nameQuote s_Nodes_has) k_Nodes_nameQuote J K (n + 1) 13 L S M = ai_const 0 14 (am_run (c_Nodes_nameQuote s_Nodes_has) k_Nodes_nameQuote J K n) K 13 L S M := by rfl
theorem r_Nodes_nameQuote_14 {s_Nodes_has : aS} {J : aJ} {K : aR} {n : Nat} {L : aL} {S : List Value} {M : aM} : am_run (c_Nodes_nameQuote s_Nodes_has) k_Nodes_nameQuote J K (n + 1) 14 L S M = ai_iast 15 (am_run (c_Nodes_nameQuote s_Nodes_has) k_Nodes_nameQuote J K n) K 14 L S M := by rfl
theorem r_Nodes_nameQuote_15 {s_Nodes_has : aS} {J : aJ} {K : aR} {n : Nat} {L : aL} {S : List Value} {M : aM} : am_run (c_Nodes_nameQuote s_Nodes_has) k_Nodes_nameQuote J K (n + 1) 15 L S M = ai_aload 0 16 (am_run (c_Nodes_nameQuote s_Nodes_has) k_Nodes_nameQuote J K n) K 15 L S M := by rfl
theorem r_Nodes_nameQuote_16 {s_Nodes_has : aS} {J : aJ} {K : aR} {n : Nat} {L : aL} {S : List Value} {M : aM} : am_run (c_Nodes_nameQuote s_Nodes_has) k_Nodes_nameQuote J K (n + 1) 16 L S M = ai_getf 0 1 19 (am_run (c_Nodes_nameQuote s_Nodes_has) k_Nodes_nameQuote J K n) K 16 L S M := by rfl
theorem r_Nodes_nameQuote_19 {s_Nodes_has : aS} {J : aJ} {K : aR} {n : Nat} {L : aL} {S : List Value} {M : aM} : am_run (c_Nodes_nameQuote s_Nodes_has) k_Nodes_nameQuote J K (n + 1) 19 L S M = ai_iload 1 20 (am_run (c_Nodes_nameQuote s_Nodes_has) k_Nodes_nameQuote J K n) K 19 L S M := by rfl
theorem r_Nodes_nameQuote_20 {s_Nodes_has : aS} {J : aJ} {K : aR} {n : Nat} {L : aL} {S : List Value} {M : aM} : am_run (c_Nodes_nameQuote s_Nodes_has) k_Nodes_nameQuote J K (n + 1) 20 L S M = ai_gets (.ref 1000) 23 (am_run (c_Nodes_nameQuote s_Nodes_has) k_Nodes_nameQuote J K n) K 20 L S M := by rfl
theorem r_Nodes_nameQuote_23 {s_Nodes_has : aS} {J : aJ} {K : aR} {n : Nat} {L : aL} {S : List Value} {M : aM} : am_run (c_Nodes_nameQuote s_Nodes_has) k_Nodes_nameQuote J K (n + 1) 23 L S M = ai_xlen 1000 5 24 (am_run (c_Nodes_nameQuote s_Nodes_has) k_Nodes_nameQuote J K n) K 23 L S M := by rfl
theorem r_Nodes_nameQuote_24 {s_Nodes_has : aS} {J : aJ} {K : aR} {n : Nat} {L : aL} {S : List Value} {M : aM} : am_run (c_Nodes_nameQuote s_Nodes_has) k_Nodes_nameQuote J K (n + 1) 24 L S M = ai_iast 25 (am_run (c_Nodes_nameQuote s_Nodes_has) k_Nodes_nameQuote J K n) K 24 L S M := by rfl
theorem r_Nodes_nameQuote_25 {s_Nodes_has : aS} {J : aJ} {K : aR} {n : Nat} {L : aL} {S : List Value} {M : aM} : am_run (c_Nodes_nameQuote s_Nodes_has) k_Nodes_nameQuote J K (n + 1) 25 L S M = ai_vret (am_run (c_Nodes_nameQuote s_Nodes_has) k_Nodes_nameQuote J K n) K 25 L S M := by rfl
def c_Nodes_setAmount (s_Nodes_has : aS) : List (Nat × aI) := [
  (0, ai_aload 0 1),
  (1, ai_iload 1 2),
  (2, ai_callv2 0 s_Nodes_has 5),
  (5, ai_ifeq 15 8),
  (8, ai_aload 0 9),
  (9, ai_getf 0 1 12),
  (12, ai_iload 1 13),
  (13, ai_iload 2 14),
  (14, ai_iast 15),
  (15, ai_vret)]
set_option maxRecDepth 100000 in
set_option maxHeartbeats 4000000 in
theorem tb_Nodes_setAmount {G : aG} {d : Nat} {s_Nodes_has : aS} {d_Nodes_has : Nat} (h_Nodes_has : am_Sp G Y_Nodes_has d_Nodes_has s_Nodes_has) (l_Nodes_has : d_Nodes_has < d) : am_tab G Y_Nodes_setAmount d (c_Nodes_setAmount s_Nodes_has) := by
  intro K p e s m args below meth c C
  exact ⟨as_aload_n C (pc := 0) (q := 0) (by decide +kernel) rfl rfl,
    as_iload_n C (pc := 1) (q := 1) (by decide +kernel) rfl rfl,
    as_callv2 C (pc := 2) h_Nodes_has (T := T_Nodes) (N := 10) rfl w_341 w_72 w_340 w_21 w_338 hy_Nodes_has (am_rm_of l_Nodes_has (by decide)) (by decide +kernel) rfl,
    as_ifeq C (pc := 5) (off := 10) (by decide +kernel) (by decide) rfl,
    as_aload_n C (pc := 8) (q := 0) (by decide +kernel) rfl rfl,
    as_getf C (pc := 9) (T := T_Nodes) (N := 10) rfl in_Nodes (by decide) rfl w_119 (by decide +kernel) rfl,
    as_iload_n C (pc := 12) (q := 1) (by decide +kernel) rfl rfl,
    as_iload_n C (pc := 13) (q := 2) (by decide +kernel) rfl rfl,
    as_iast C (pc := 14) (by decide +kernel) rfl,
    as_vret C (pc := 15) rfl (by decide +kernel), trivial⟩
abbrev k_Nodes_setAmount : List Nat := []
theorem r_Nodes_setAmount_0 {s_Nodes_has : aS} {J : aJ} {K : aR} {n : Nat} {L : aL} {S : List Value} {M : aM} : am_run (c_Nodes_setAmount s_Nodes_has) k_Nodes_setAmount J K (n + 1) 0 L S M = ai_aload 0 1 (am_run (c_Nodes_setAmount s_Nodes_has) k_Nodes_setAmount J K n) K 0 L S M := by rfl
theorem r_Nodes_setAmount_1 {s_Nodes_has : aS} {J : aJ} {K : aR} {n : Nat} {L : aL} {S : List Value} {M : aM} : am_run (c_Nodes_setAmount s_Nodes_has) k_Nodes_setAmount J K (n + 1) 1 L S M = ai_iload 1 2 (am_run (c_Nodes_setAmount s_Nodes_has) k_Nodes_setAmount J K n) K 1 L S M := by rfl
theorem r_Nodes_setAmount_2 {s_Nodes_has : aS} {J : aJ} {K : aR} {n : Nat} {L : aL} {S : List Value} {M : aM} : am_run (c_Nodes_setAmount s_Nodes_has) k_Nodes_setAmount J K (n + 1) 2 L S M = ai_callv2 0 s_Nodes_has 5 (am_run (c_Nodes_setAmount s_Nodes_has) k_Nodes_setAmount J K n) K 2 L S M := by rfl
theorem r_Nodes_setAmount_5 {s_Nodes_has : aS} {J : aJ} {K : aR} {n : Nat} {L : aL} {S : List Value} {M : aM} : am_run (c_Nodes_setAmount s_Nodes_has) k_Nodes_setAmount J K (n + 1) 5 L S M = ai_ifeq 15 8 (am_run (c_Nodes_setAmount s_Nodes_has) k_Nodes_setAmount J K n) K 5 L S M := by rfl
theorem r_Nodes_setAmount_8 {s_Nodes_has : aS} {J : aJ} {K : aR} {n : Nat} {L : aL} {S : List Value} {M : aM} : am_run (c_Nodes_setAmount s_Nodes_has) k_Nodes_setAmount J K (n + 1) 8 L S M = ai_aload 0 9 (am_run (c_Nodes_setAmount s_Nodes_has) k_Nodes_setAmount J K n) K 8 L S M := by rfl
theorem r_Nodes_setAmount_9 {s_Nodes_has : aS} {J : aJ} {K : aR} {n : Nat} {L : aL} {S : List Value} {M : aM} : am_run (c_Nodes_setAmount s_Nodes_has) k_Nodes_setAmount J K (n + 1) 9 L S M = ai_getf 0 1 12 (am_run (c_Nodes_setAmount s_Nodes_has) k_Nodes_setAmount J K n) K 9 L S M := by rfl
theorem r_Nodes_setAmount_12 {s_Nodes_has : aS} {J : aJ} {K : aR} {n : Nat} {L : aL} {S : List Value} {M : aM} : am_run (c_Nodes_setAmount s_Nodes_has) k_Nodes_setAmount J K (n + 1) 12 L S M = ai_iload 1 13 (am_run (c_Nodes_setAmount s_Nodes_has) k_Nodes_setAmount J K n) K 12 L S M := by rfl
theorem r_Nodes_setAmount_13 {s_Nodes_has : aS} {J : aJ} {K : aR} {n : Nat} {L : aL} {S : List Value} {M : aM} : am_run (c_Nodes_setAmount s_Nodes_has) k_Nodes_setAmount J K (n + 1) 13 L S M = ai_iload 2 14 (am_run (c_Nodes_setAmount s_Nodes_has) k_Nodes_setAmount J K n) K 13 L S M := by rfl
theorem r_Nodes_setAmount_14 {s_Nodes_has : aS} {J : aJ} {K : aR} {n : Nat} {L : aL} {S : List Value} {M : aM} : am_run (c_Nodes_setAmount s_Nodes_has) k_Nodes_setAmount J K (n + 1) 14 L S M = ai_iast 15 (am_run (c_Nodes_setAmount s_Nodes_has) k_Nodes_setAmount J K n) K 14 L S M := by rfl
theorem r_Nodes_setAmount_15 {s_Nodes_has : aS} {J : aJ} {K : aR} {n : Nat} {L : aL} {S : List Value} {M : aM} : am_run (c_Nodes_setAmount s_Nodes_has) k_Nodes_setAmount J K (n + 1) 15 L S M = ai_vret (am_run (c_Nodes_setAmount s_Nodes_has) k_Nodes_setAmount J K n) K 15 L S M := by rfl
def c_Nodes_setHead (s_Nodes_has : aS) : List (Nat × aI) := [
  (0, ai_aload 0 1),
  (1, ai_iload 1 2),
  (2, ai_callv2 0 s_Nodes_has 5),
  (5, ai_ifeq 15 8),
  (8, ai_aload 0 9),
  (9, ai_getf 0 3 12),
  (12, ai_iload 1 13),
  (13, ai_iload 2 14),
  (14, ai_iast 15),
  (15, ai_vret)]
set_option maxRecDepth 100000 in
set_option maxHeartbeats 4000000 in
theorem tb_Nodes_setHead {G : aG} {d : Nat} {s_Nodes_has : aS} {d_Nodes_has : Nat} (h_Nodes_has : am_Sp G Y_Nodes_has d_Nodes_has s_Nodes_has) (l_Nodes_has : d_Nodes_has < d) : am_tab G Y_Nodes_setHead d (c_Nodes_setHead s_Nodes_has) := by
  intro K p e s m args below meth c C
  exact ⟨as_aload_n C (pc := 0) (q := 0) (by decide +kernel) rfl rfl,
    as_iload_n C (pc := 1) (q := 1) (by decide +kernel) rfl rfl,
    as_callv2 C (pc := 2) h_Nodes_has (T := T_Nodes) (N := 10) rfl w_341 w_72 w_340 w_21 w_338 hy_Nodes_has (am_rm_of l_Nodes_has (by decide)) (by decide +kernel) rfl,
    as_ifeq C (pc := 5) (off := 10) (by decide +kernel) (by decide) rfl,
    as_aload_n C (pc := 8) (q := 0) (by decide +kernel) rfl rfl,
    as_getf C (pc := 9) (T := T_Nodes) (N := 10) rfl in_Nodes (by decide) rfl w_121 (by decide +kernel) rfl,
    as_iload_n C (pc := 12) (q := 1) (by decide +kernel) rfl rfl,
    as_iload_n C (pc := 13) (q := 2) (by decide +kernel) rfl rfl,
    as_iast C (pc := 14) (by decide +kernel) rfl,
    as_vret C (pc := 15) rfl (by decide +kernel), trivial⟩
abbrev k_Nodes_setHead : List Nat := []
theorem r_Nodes_setHead_0 {s_Nodes_has : aS} {J : aJ} {K : aR} {n : Nat} {L : aL} {S : List Value} {M : aM} : am_run (c_Nodes_setHead s_Nodes_has) k_Nodes_setHead J K (n + 1) 0 L S M = ai_aload 0 1 (am_run (c_Nodes_setHead s_Nodes_has) k_Nodes_setHead J K n) K 0 L S M := by rfl
theorem r_Nodes_setHead_1 {s_Nodes_has : aS} {J : aJ} {K : aR} {n : Nat} {L : aL} {S : List Value} {M : aM} : am_run (c_Nodes_setHead s_Nodes_has) k_Nodes_setHead J K (n + 1) 1 L S M = ai_iload 1 2 (am_run (c_Nodes_setHead s_Nodes_has) k_Nodes_setHead J K n) K 1 L S M := by rfl
theorem r_Nodes_setHead_2 {s_Nodes_has : aS} {J : aJ} {K : aR} {n : Nat} {L : aL} {S : List Value} {M : aM} : am_run (c_Nodes_setHead s_Nodes_has) k_Nodes_setHead J K (n + 1) 2 L S M = ai_callv2 0 s_Nodes_has 5 (am_run (c_Nodes_setHead s_Nodes_has) k_Nodes_setHead J K n) K 2 L S M := by rfl
theorem r_Nodes_setHead_5 {s_Nodes_has : aS} {J : aJ} {K : aR} {n : Nat} {L : aL} {S : List Value} {M : aM} : am_run (c_Nodes_setHead s_Nodes_has) k_Nodes_setHead J K (n + 1) 5 L S M = ai_ifeq 15 8 (am_run (c_Nodes_setHead s_Nodes_has) k_Nodes_setHead J K n) K 5 L S M := by rfl
theorem r_Nodes_setHead_8 {s_Nodes_has : aS} {J : aJ} {K : aR} {n : Nat} {L : aL} {S : List Value} {M : aM} : am_run (c_Nodes_setHead s_Nodes_has) k_Nodes_setHead J K (n + 1) 8 L S M = ai_aload 0 9 (am_run (c_Nodes_setHead s_Nodes_has) k_Nodes_setHead J K n) K 8 L S M := by rfl
theorem r_Nodes_setHead_9 {s_Nodes_has : aS} {J : aJ} {K : aR} {n : Nat} {L : aL} {S : List Value} {M : aM} : am_run (c_Nodes_setHead s_Nodes_has) k_Nodes_setHead J K (n + 1) 9 L S M = ai_getf 0 3 12 (am_run (c_Nodes_setHead s_Nodes_has) k_Nodes_setHead J K n) K 9 L S M := by rfl
theorem r_Nodes_setHead_12 {s_Nodes_has : aS} {J : aJ} {K : aR} {n : Nat} {L : aL} {S : List Value} {M : aM} : am_run (c_Nodes_setHead s_Nodes_has) k_Nodes_setHead J K (n + 1) 12 L S M = ai_iload 1 13 (am_run (c_Nodes_setHead s_Nodes_has) k_Nodes_setHead J K n) K 12 L S M := by rfl
theorem r_Nodes_setHead_13 {s_Nodes_has : aS} {J : aJ} {K : aR} {n : Nat} {L : aL} {S : List Value} {M : aM} : am_run (c_Nodes_setHead s_Nodes_has) k_Nodes_setHead J K (n + 1) 13 L S M = ai_iload 2 14 (am_run (c_Nodes_setHead s_Nodes_has) k_Nodes_setHead J K n) K 13 L S M := by rfl
theorem r_Nodes_setHead_14 {s_Nodes_has : aS} {J : aJ} {K : aR} {n : Nat} {L : aL} {S : List Value} {M : aM} : am_run (c_Nodes_setHead s_Nodes_has) k_Nodes_setHead J K (n + 1) 14 L S M = ai_iast 15 (am_run (c_Nodes_setHead s_Nodes_has) k_Nodes_setHead J K n) K 14 L S M := by rfl
theorem r_Nodes_setHead_15 {s_Nodes_has : aS} {J : aJ} {K : aR} {n : Nat} {L : aL} {S : List Value} {M : aM} : am_run (c_Nodes_setHead s_Nodes_has) k_Nodes_setHead J K (n + 1) 15 L S M = ai_vret (am_run (c_Nodes_setHead s_Nodes_has) k_Nodes_setHead J K n) K 15 L S M := by rfl
def c_Nodes_setTail (s_Nodes_has : aS) : List (Nat × aI) := [
  (0, ai_aload 0 1),
  (1, ai_iload 1 2),
  (2, ai_callv2 0 s_Nodes_has 5),
  (5, ai_ifeq 15 8),
  (8, ai_aload 0 9),
  (9, ai_getf 0 4 12),
  (12, ai_iload 1 13),
  (13, ai_iload 2 14),
  (14, ai_iast 15),
  (15, ai_vret)]
set_option maxRecDepth 100000 in
set_option maxHeartbeats 4000000 in
theorem tb_Nodes_setTail {G : aG} {d : Nat} {s_Nodes_has : aS} {d_Nodes_has : Nat} (h_Nodes_has : am_Sp G Y_Nodes_has d_Nodes_has s_Nodes_has) (l_Nodes_has : d_Nodes_has < d) : am_tab G Y_Nodes_setTail d (c_Nodes_setTail s_Nodes_has) := by
  intro K p e s m args below meth c C
  exact ⟨as_aload_n C (pc := 0) (q := 0) (by decide +kernel) rfl rfl,
    as_iload_n C (pc := 1) (q := 1) (by decide +kernel) rfl rfl,
    as_callv2 C (pc := 2) h_Nodes_has (T := T_Nodes) (N := 10) rfl w_341 w_72 w_340 w_21 w_338 hy_Nodes_has (am_rm_of l_Nodes_has (by decide)) (by decide +kernel) rfl,
    as_ifeq C (pc := 5) (off := 10) (by decide +kernel) (by decide) rfl,
    as_aload_n C (pc := 8) (q := 0) (by decide +kernel) rfl rfl,
    as_getf C (pc := 9) (T := T_Nodes) (N := 10) rfl in_Nodes (by decide) rfl w_122 (by decide +kernel) rfl,
    as_iload_n C (pc := 12) (q := 1) (by decide +kernel) rfl rfl,
    as_iload_n C (pc := 13) (q := 2) (by decide +kernel) rfl rfl,
    as_iast C (pc := 14) (by decide +kernel) rfl,
    as_vret C (pc := 15) rfl (by decide +kernel), trivial⟩
abbrev k_Nodes_setTail : List Nat := []
theorem r_Nodes_setTail_0 {s_Nodes_has : aS} {J : aJ} {K : aR} {n : Nat} {L : aL} {S : List Value} {M : aM} : am_run (c_Nodes_setTail s_Nodes_has) k_Nodes_setTail J K (n + 1) 0 L S M = ai_aload 0 1 (am_run (c_Nodes_setTail s_Nodes_has) k_Nodes_setTail J K n) K 0 L S M := by rfl
theorem r_Nodes_setTail_1 {s_Nodes_has : aS} {J : aJ} {K : aR} {n : Nat} {L : aL} {S : List Value} {M : aM} : am_run (c_Nodes_setTail s_Nodes_has) k_Nodes_setTail J K (n + 1) 1 L S M = ai_iload 1 2 (am_run (c_Nodes_setTail s_Nodes_has) k_Nodes_setTail J K n) K 1 L S M := by rfl
theorem r_Nodes_setTail_2 {s_Nodes_has : aS} {J : aJ} {K : aR} {n : Nat} {L : aL} {S : List Value} {M : aM} : am_run (c_Nodes_setTail s_Nodes_has) k_Nodes_setTail J K (n + 1) 2 L S M = ai_callv2 0 s_Nodes_has 5 (am_run (c_Nodes_setTail s_Nodes_has) k_Nodes_setTail J K n) K 2 L S M := by rfl
theorem r_Nodes_setTail_5 {s_Nodes_has : aS} {J : aJ} {K : aR} {n : Nat} {L : aL} {S : List Value} {M : aM} : am_run (c_Nodes_setTail s_Nodes_has) k_Nodes_setTail J K (n + 1) 5 L S M = ai_ifeq 15 8 (am_run (c_Nodes_setTail s_Nodes_has) k_Nodes_setTail J K n) K 5 L S M := by rfl
theorem r_Nodes_setTail_8 {s_Nodes_has : aS} {J : aJ} {K : aR} {n : Nat} {L : aL} {S : List Value} {M : aM} : am_run (c_Nodes_setTail s_Nodes_has) k_Nodes_setTail J K (n + 1) 8 L S M = ai_aload 0 9 (am_run (c_Nodes_setTail s_Nodes_has) k_Nodes_setTail J K n) K 8 L S M := by rfl
theorem r_Nodes_setTail_9 {s_Nodes_has : aS} {J : aJ} {K : aR} {n : Nat} {L : aL} {S : List Value} {M : aM} : am_run (c_Nodes_setTail s_Nodes_has) k_Nodes_setTail J K (n + 1) 9 L S M = ai_getf 0 4 12 (am_run (c_Nodes_setTail s_Nodes_has) k_Nodes_setTail J K n) K 9 L S M := by rfl
theorem r_Nodes_setTail_12 {s_Nodes_has : aS} {J : aJ} {K : aR} {n : Nat} {L : aL} {S : List Value} {M : aM} : am_run (c_Nodes_setTail s_Nodes_has) k_Nodes_setTail J K (n + 1) 12 L S M = ai_iload 1 13 (am_run (c_Nodes_setTail s_Nodes_has) k_Nodes_setTail J K n) K 12 L S M := by rfl
theorem r_Nodes_setTail_13 {s_Nodes_has : aS} {J : aJ} {K : aR} {n : Nat} {L : aL} {S : List Value} {M : aM} : am_run (c_Nodes_setTail s_Nodes_has) k_Nodes_setTail J K (n + 1) 13 L S M = ai_iload 2 14 (am_run (c_Nodes_setTail s_Nodes_has) k_Nodes_setTail J K n) K 13 L S M := by rfl
theorem r_Nodes_setTail_14 {s_Nodes_has : aS} {J : aJ} {K : aR} {n : Nat} {L : aL} {S : List Value} {M : aM} : am_run (c_Nodes_setTail s_Nodes_has) k_Nodes_setTail J K (n + 1) 14 L S M = ai_iast 15 (am_run (c_Nodes_setTail s_Nodes_has) k_Nodes_setTail J K n) K 14 L S M := by rfl
theorem r_Nodes_setTail_15 {s_Nodes_has : aS} {J : aJ} {K : aR} {n : Nat} {L : aL} {S : List Value} {M : aM} : am_run (c_Nodes_setTail s_Nodes_has) k_Nodes_setTail J K (n + 1) 15 L S M = ai_vret (am_run (c_Nodes_setTail s_Nodes_has) k_Nodes_setTail J K n) K 15 L S M := by rfl
def c_Nodes_datumNode : List (Nat × aI) := [
  (0, ai_iload 1 1),
  (1, ai_iflt 28 4),
  (4, ai_iload 1 5),
  (5, ai_aload 0 6),
  (6, ai_getf 0 7 9),
  (9, ai_cmpge 28 12),
  (12, ai_iload 1 13),
  (13, ai_const 200 16),
  (16, ai_cmpge 28 19),
  (19, ai_aload 0 20),
  (20, ai_getf 0 6 23),
  (23, ai_iload 1 24),
  (24, ai_iald 25),
  (25, ai_goto 29),
  (28, ai_const (-1) 29),
  (29, ai_iret)]
set_option maxRecDepth 100000 in
set_option maxHeartbeats 4000000 in
theorem tb_Nodes_datumNode {G : aG} {d : Nat} : am_tab G Y_Nodes_datumNode d (c_Nodes_datumNode) := by
  intro K p e s m args below meth c C
  exact ⟨as_iload_n C (pc := 0) (q := 1) (by decide +kernel) rfl rfl,
    as_iflt C (pc := 1) (off := 27) (by decide +kernel) (by decide) rfl,
    as_iload_n C (pc := 4) (q := 1) (by decide +kernel) rfl rfl,
    as_aload_n C (pc := 5) (q := 0) (by decide +kernel) rfl rfl,
    as_getf C (pc := 6) (T := T_Nodes) (N := 10) rfl in_Nodes (by decide) rfl w_126 (by decide +kernel) rfl,
    as_cmpge C (pc := 9) (off := 19) (by decide +kernel) (by decide) rfl,
    as_iload_n C (pc := 12) (q := 1) (by decide +kernel) rfl rfl,
    as_sipush C (pc := 13) (n := 200) (by decide +kernel) (by decide +kernel) rfl,
    as_cmpge C (pc := 16) (off := 12) (by decide +kernel) (by decide) rfl,
    as_aload_n C (pc := 19) (q := 0) (by decide +kernel) rfl rfl,
    as_getf C (pc := 20) (T := T_Nodes) (N := 10) rfl in_Nodes (by decide) rfl w_125 (by decide +kernel) rfl,
    as_iload_n C (pc := 23) (q := 1) (by decide +kernel) rfl rfl,
    as_iald C (pc := 24) (by decide +kernel) rfl,
    as_goto C (pc := 25) (off := 4) (by decide +kernel) (by decide),
    as_iconst C (pc := 28) (n := (-1)) (by decide +kernel) (by decide +kernel) rfl,
    as_iret C (pc := 29) rfl (by decide +kernel), trivial⟩
abbrev k_Nodes_datumNode : List Nat := []
theorem r_Nodes_datumNode_0 {J : aJ} {K : aR} {n : Nat} {L : aL} {S : List Value} {M : aM} : am_run (c_Nodes_datumNode) k_Nodes_datumNode J K (n + 1) 0 L S M = ai_iload 1 1 (am_run (c_Nodes_datumNode) k_Nodes_datumNode J K n) K 0 L S M := by rfl
theorem r_Nodes_datumNode_1 {J : aJ} {K : aR} {n : Nat} {L : aL} {S : List Value} {M : aM} : am_run (c_Nodes_datumNode) k_Nodes_datumNode J K (n + 1) 1 L S M = ai_iflt 28 4 (am_run (c_Nodes_datumNode) k_Nodes_datumNode J K n) K 1 L S M := by rfl
theorem r_Nodes_datumNode_4 {J : aJ} {K : aR} {n : Nat} {L : aL} {S : List Value} {M : aM} : am_run (c_Nodes_datumNode) k_Nodes_datumNode J K (n + 1) 4 L S M = ai_iload 1 5 (am_run (c_Nodes_datumNode) k_Nodes_datumNode J K n) K 4 L S M := by rfl
theorem r_Nodes_datumNode_5 {J : aJ} {K : aR} {n : Nat} {L : aL} {S : List Value} {M : aM} : am_run (c_Nodes_datumNode) k_Nodes_datumNode J K (n + 1) 5 L S M = ai_aload 0 6 (am_run (c_Nodes_datumNode) k_Nodes_datumNode J K n) K 5 L S M := by rfl
theorem r_Nodes_datumNode_6 {J : aJ} {K : aR} {n : Nat} {L : aL} {S : List Value} {M : aM} : am_run (c_Nodes_datumNode) k_Nodes_datumNode J K (n + 1) 6 L S M = ai_getf 0 7 9 (am_run (c_Nodes_datumNode) k_Nodes_datumNode J K n) K 6 L S M := by rfl
theorem r_Nodes_datumNode_9 {J : aJ} {K : aR} {n : Nat} {L : aL} {S : List Value} {M : aM} : am_run (c_Nodes_datumNode) k_Nodes_datumNode J K (n + 1) 9 L S M = ai_cmpge 28 12 (am_run (c_Nodes_datumNode) k_Nodes_datumNode J K n) K 9 L S M := by rfl
theorem r_Nodes_datumNode_12 {J : aJ} {K : aR} {n : Nat} {L : aL} {S : List Value} {M : aM} : am_run (c_Nodes_datumNode) k_Nodes_datumNode J K (n + 1) 12 L S M = ai_iload 1 13 (am_run (c_Nodes_datumNode) k_Nodes_datumNode J K n) K 12 L S M := by rfl
theorem r_Nodes_datumNode_13 {J : aJ} {K : aR} {n : Nat} {L : aL} {S : List Value} {M : aM} : am_run (c_Nodes_datumNode) k_Nodes_datumNode J K (n + 1) 13 L S M = ai_const 200 16 (am_run (c_Nodes_datumNode) k_Nodes_datumNode J K n) K 13 L S M := by rfl
theorem r_Nodes_datumNode_16 {J : aJ} {K : aR} {n : Nat} {L : aL} {S : List Value} {M : aM} : am_run (c_Nodes_datumNode) k_Nodes_datumNode J K (n + 1) 16 L S M = ai_cmpge 28 19 (am_run (c_Nodes_datumNode) k_Nodes_datumNode J K n) K 16 L S M := by rfl
theorem r_Nodes_datumNode_19 {J : aJ} {K : aR} {n : Nat} {L : aL} {S : List Value} {M : aM} : am_run (c_Nodes_datumNode) k_Nodes_datumNode J K (n + 1) 19 L S M = ai_aload 0 20 (am_run (c_Nodes_datumNode) k_Nodes_datumNode J K n) K 19 L S M := by rfl
theorem r_Nodes_datumNode_20 {J : aJ} {K : aR} {n : Nat} {L : aL} {S : List Value} {M : aM} : am_run (c_Nodes_datumNode) k_Nodes_datumNode J K (n + 1) 20 L S M = ai_getf 0 6 23 (am_run (c_Nodes_datumNode) k_Nodes_datumNode J K n) K 20 L S M := by rfl
theorem r_Nodes_datumNode_23 {J : aJ} {K : aR} {n : Nat} {L : aL} {S : List Value} {M : aM} : am_run (c_Nodes_datumNode) k_Nodes_datumNode J K (n + 1) 23 L S M = ai_iload 1 24 (am_run (c_Nodes_datumNode) k_Nodes_datumNode J K n) K 23 L S M := by rfl
theorem r_Nodes_datumNode_24 {J : aJ} {K : aR} {n : Nat} {L : aL} {S : List Value} {M : aM} : am_run (c_Nodes_datumNode) k_Nodes_datumNode J K (n + 1) 24 L S M = ai_iald 25 (am_run (c_Nodes_datumNode) k_Nodes_datumNode J K n) K 24 L S M := by rfl
theorem r_Nodes_datumNode_25 {J : aJ} {K : aR} {n : Nat} {L : aL} {S : List Value} {M : aM} : am_run (c_Nodes_datumNode) k_Nodes_datumNode J K (n + 1) 25 L S M = ai_goto 29 (am_run (c_Nodes_datumNode) k_Nodes_datumNode J K n) K 25 L S M := by rfl
theorem r_Nodes_datumNode_28 {J : aJ} {K : aR} {n : Nat} {L : aL} {S : List Value} {M : aM} : am_run (c_Nodes_datumNode) k_Nodes_datumNode J K (n + 1) 28 L S M = ai_const (-1) 29 (am_run (c_Nodes_datumNode) k_Nodes_datumNode J K n) K 28 L S M := by rfl
theorem r_Nodes_datumNode_29 {J : aJ} {K : aR} {n : Nat} {L : aL} {S : List Value} {M : aM} : am_run (c_Nodes_datumNode) k_Nodes_datumNode J K (n + 1) 29 L S M = ai_iret (am_run (c_Nodes_datumNode) k_Nodes_datumNode J K n) K 29 L S M := by rfl
def c_Nodes_kindOf (s_Nodes_has : aS) : List (Nat × aI) := [
  (0, ai_aload 0 1),
  (1, ai_iload 1 2),
  (2, ai_callv2 0 s_Nodes_has 5),
  (5, ai_ifeq 17 8),
  (8, ai_aload 0 9),
  (9, ai_getf 0 0 12),
  (12, ai_iload 1 13),
  (13, ai_iald 14),
  (14, ai_goto 18),
  (17, ai_const 0 18),
  (18, ai_iret)]
set_option maxRecDepth 100000 in
set_option maxHeartbeats 4000000 in
theorem tb_Nodes_kindOf {G : aG} {d : Nat} {s_Nodes_has : aS} {d_Nodes_has : Nat} (h_Nodes_has : am_Sp G Y_Nodes_has d_Nodes_has s_Nodes_has) (l_Nodes_has : d_Nodes_has < d) : am_tab G Y_Nodes_kindOf d (c_Nodes_kindOf s_Nodes_has) := by
  intro K p e s m args below meth c C
  exact ⟨as_aload_n C (pc := 0) (q := 0) (by decide +kernel) rfl rfl,
    as_iload_n C (pc := 1) (q := 1) (by decide +kernel) rfl rfl,
    as_callv2 C (pc := 2) h_Nodes_has (T := T_Nodes) (N := 10) rfl w_341 w_72 w_340 w_21 w_338 hy_Nodes_has (am_rm_of l_Nodes_has (by decide)) (by decide +kernel) rfl,
    as_ifeq C (pc := 5) (off := 12) (by decide +kernel) (by decide) rfl,
    as_aload_n C (pc := 8) (q := 0) (by decide +kernel) rfl rfl,
    as_getf C (pc := 9) (T := T_Nodes) (N := 10) rfl in_Nodes (by decide) rfl w_118 (by decide +kernel) rfl,
    as_iload_n C (pc := 12) (q := 1) (by decide +kernel) rfl rfl,
    as_iald C (pc := 13) (by decide +kernel) rfl,
    as_goto C (pc := 14) (off := 4) (by decide +kernel) (by decide),
    as_iconst C (pc := 17) (n := 0) (by decide +kernel) (by decide +kernel) rfl,
    as_iret C (pc := 18) rfl (by decide +kernel), trivial⟩
abbrev k_Nodes_kindOf : List Nat := []
theorem r_Nodes_kindOf_0 {s_Nodes_has : aS} {J : aJ} {K : aR} {n : Nat} {L : aL} {S : List Value} {M : aM} : am_run (c_Nodes_kindOf s_Nodes_has) k_Nodes_kindOf J K (n + 1) 0 L S M = ai_aload 0 1 (am_run (c_Nodes_kindOf s_Nodes_has) k_Nodes_kindOf J K n) K 0 L S M := by rfl
theorem r_Nodes_kindOf_1 {s_Nodes_has : aS} {J : aJ} {K : aR} {n : Nat} {L : aL} {S : List Value} {M : aM} : am_run (c_Nodes_kindOf s_Nodes_has) k_Nodes_kindOf J K (n + 1) 1 L S M = ai_iload 1 2 (am_run (c_Nodes_kindOf s_Nodes_has) k_Nodes_kindOf J K n) K 1 L S M := by rfl
theorem r_Nodes_kindOf_2 {s_Nodes_has : aS} {J : aJ} {K : aR} {n : Nat} {L : aL} {S : List Value} {M : aM} : am_run (c_Nodes_kindOf s_Nodes_has) k_Nodes_kindOf J K (n + 1) 2 L S M = ai_callv2 0 s_Nodes_has 5 (am_run (c_Nodes_kindOf s_Nodes_has) k_Nodes_kindOf J K n) K 2 L S M := by rfl
theorem r_Nodes_kindOf_5 {s_Nodes_has : aS} {J : aJ} {K : aR} {n : Nat} {L : aL} {S : List Value} {M : aM} : am_run (c_Nodes_kindOf s_Nodes_has) k_Nodes_kindOf J K (n + 1) 5 L S M = ai_ifeq 17 8 (am_run (c_Nodes_kindOf s_Nodes_has) k_Nodes_kindOf J K n) K 5 L S M := by rfl
theorem r_Nodes_kindOf_8 {s_Nodes_has : aS} {J : aJ} {K : aR} {n : Nat} {L : aL} {S : List Value} {M : aM} : am_run (c_Nodes_kindOf s_Nodes_has) k_Nodes_kindOf J K (n + 1) 8 L S M = ai_aload 0 9 (am_run (c_Nodes_kindOf s_Nodes_has) k_Nodes_kindOf J K n) K 8 L S M := by rfl
theorem r_Nodes_kindOf_9 {s_Nodes_has : aS} {J : aJ} {K : aR} {n : Nat} {L : aL} {S : List Value} {M : aM} : am_run (c_Nodes_kindOf s_Nodes_has) k_Nodes_kindOf J K (n + 1) 9 L S M = ai_getf 0 0 12 (am_run (c_Nodes_kindOf s_Nodes_has) k_Nodes_kindOf J K n) K 9 L S M := by rfl
theorem r_Nodes_kindOf_12 {s_Nodes_has : aS} {J : aJ} {K : aR} {n : Nat} {L : aL} {S : List Value} {M : aM} : am_run (c_Nodes_kindOf s_Nodes_has) k_Nodes_kindOf J K (n + 1) 12 L S M = ai_iload 1 13 (am_run (c_Nodes_kindOf s_Nodes_has) k_Nodes_kindOf J K n) K 12 L S M := by rfl
theorem r_Nodes_kindOf_13 {s_Nodes_has : aS} {J : aJ} {K : aR} {n : Nat} {L : aL} {S : List Value} {M : aM} : am_run (c_Nodes_kindOf s_Nodes_has) k_Nodes_kindOf J K (n + 1) 13 L S M = ai_iald 14 (am_run (c_Nodes_kindOf s_Nodes_has) k_Nodes_kindOf J K n) K 13 L S M := by rfl
theorem r_Nodes_kindOf_14 {s_Nodes_has : aS} {J : aJ} {K : aR} {n : Nat} {L : aL} {S : List Value} {M : aM} : am_run (c_Nodes_kindOf s_Nodes_has) k_Nodes_kindOf J K (n + 1) 14 L S M = ai_goto 18 (am_run (c_Nodes_kindOf s_Nodes_has) k_Nodes_kindOf J K n) K 14 L S M := by rfl
theorem r_Nodes_kindOf_17 {s_Nodes_has : aS} {J : aJ} {K : aR} {n : Nat} {L : aL} {S : List Value} {M : aM} : am_run (c_Nodes_kindOf s_Nodes_has) k_Nodes_kindOf J K (n + 1) 17 L S M = ai_const 0 18 (am_run (c_Nodes_kindOf s_Nodes_has) k_Nodes_kindOf J K n) K 17 L S M := by rfl
theorem r_Nodes_kindOf_18 {s_Nodes_has : aS} {J : aJ} {K : aR} {n : Nat} {L : aL} {S : List Value} {M : aM} : am_run (c_Nodes_kindOf s_Nodes_has) k_Nodes_kindOf J K (n + 1) 18 L S M = ai_iret (am_run (c_Nodes_kindOf s_Nodes_has) k_Nodes_kindOf J K n) K 18 L S M := by rfl
def c_Nodes_amountOf (s_Nodes_has : aS) : List (Nat × aI) := [
  (0, ai_aload 0 1),
  (1, ai_iload 1 2),
  (2, ai_callv2 0 s_Nodes_has 5),
  (5, ai_ifeq 17 8),
  (8, ai_aload 0 9),
  (9, ai_getf 0 1 12),
  (12, ai_iload 1 13),
  (13, ai_iald 14),
  (14, ai_goto 18),
  (17, ai_const 0 18),
  (18, ai_iret)]
set_option maxRecDepth 100000 in
set_option maxHeartbeats 4000000 in
theorem tb_Nodes_amountOf {G : aG} {d : Nat} {s_Nodes_has : aS} {d_Nodes_has : Nat} (h_Nodes_has : am_Sp G Y_Nodes_has d_Nodes_has s_Nodes_has) (l_Nodes_has : d_Nodes_has < d) : am_tab G Y_Nodes_amountOf d (c_Nodes_amountOf s_Nodes_has) := by
  intro K p e s m args below meth c C
  exact ⟨as_aload_n C (pc := 0) (q := 0) (by decide +kernel) rfl rfl,
    as_iload_n C (pc := 1) (q := 1) (by decide +kernel) rfl rfl,
    as_callv2 C (pc := 2) h_Nodes_has (T := T_Nodes) (N := 10) rfl w_341 w_72 w_340 w_21 w_338 hy_Nodes_has (am_rm_of l_Nodes_has (by decide)) (by decide +kernel) rfl,
    as_ifeq C (pc := 5) (off := 12) (by decide +kernel) (by decide) rfl,
    as_aload_n C (pc := 8) (q := 0) (by decide +kernel) rfl rfl,
    as_getf C (pc := 9) (T := T_Nodes) (N := 10) rfl in_Nodes (by decide) rfl w_119 (by decide +kernel) rfl,
    as_iload_n C (pc := 12) (q := 1) (by decide +kernel) rfl rfl,
    as_iald C (pc := 13) (by decide +kernel) rfl,
    as_goto C (pc := 14) (off := 4) (by decide +kernel) (by decide),
    as_iconst C (pc := 17) (n := 0) (by decide +kernel) (by decide +kernel) rfl,
    as_iret C (pc := 18) rfl (by decide +kernel), trivial⟩
abbrev k_Nodes_amountOf : List Nat := []
theorem r_Nodes_amountOf_0 {s_Nodes_has : aS} {J : aJ} {K : aR} {n : Nat} {L : aL} {S : List Value} {M : aM} : am_run (c_Nodes_amountOf s_Nodes_has) k_Nodes_amountOf J K (n + 1) 0 L S M = ai_aload 0 1 (am_run (c_Nodes_amountOf s_Nodes_has) k_Nodes_amountOf J K n) K 0 L S M := by rfl
theorem r_Nodes_amountOf_1 {s_Nodes_has : aS} {J : aJ} {K : aR} {n : Nat} {L : aL} {S : List Value} {M : aM} : am_run (c_Nodes_amountOf s_Nodes_has) k_Nodes_amountOf J K (n + 1) 1 L S M = ai_iload 1 2 (am_run (c_Nodes_amountOf s_Nodes_has) k_Nodes_amountOf J K n) K 1 L S M := by rfl
theorem r_Nodes_amountOf_2 {s_Nodes_has : aS} {J : aJ} {K : aR} {n : Nat} {L : aL} {S : List Value} {M : aM} : am_run (c_Nodes_amountOf s_Nodes_has) k_Nodes_amountOf J K (n + 1) 2 L S M = ai_callv2 0 s_Nodes_has 5 (am_run (c_Nodes_amountOf s_Nodes_has) k_Nodes_amountOf J K n) K 2 L S M := by rfl
theorem r_Nodes_amountOf_5 {s_Nodes_has : aS} {J : aJ} {K : aR} {n : Nat} {L : aL} {S : List Value} {M : aM} : am_run (c_Nodes_amountOf s_Nodes_has) k_Nodes_amountOf J K (n + 1) 5 L S M = ai_ifeq 17 8 (am_run (c_Nodes_amountOf s_Nodes_has) k_Nodes_amountOf J K n) K 5 L S M := by rfl
theorem r_Nodes_amountOf_8 {s_Nodes_has : aS} {J : aJ} {K : aR} {n : Nat} {L : aL} {S : List Value} {M : aM} : am_run (c_Nodes_amountOf s_Nodes_has) k_Nodes_amountOf J K (n + 1) 8 L S M = ai_aload 0 9 (am_run (c_Nodes_amountOf s_Nodes_has) k_Nodes_amountOf J K n) K 8 L S M := by rfl
theorem r_Nodes_amountOf_9 {s_Nodes_has : aS} {J : aJ} {K : aR} {n : Nat} {L : aL} {S : List Value} {M : aM} : am_run (c_Nodes_amountOf s_Nodes_has) k_Nodes_amountOf J K (n + 1) 9 L S M = ai_getf 0 1 12 (am_run (c_Nodes_amountOf s_Nodes_has) k_Nodes_amountOf J K n) K 9 L S M := by rfl
theorem r_Nodes_amountOf_12 {s_Nodes_has : aS} {J : aJ} {K : aR} {n : Nat} {L : aL} {S : List Value} {M : aM} : am_run (c_Nodes_amountOf s_Nodes_has) k_Nodes_amountOf J K (n + 1) 12 L S M = ai_iload 1 13 (am_run (c_Nodes_amountOf s_Nodes_has) k_Nodes_amountOf J K n) K 12 L S M := by rfl
theorem r_Nodes_amountOf_13 {s_Nodes_has : aS} {J : aJ} {K : aR} {n : Nat} {L : aL} {S : List Value} {M : aM} : am_run (c_Nodes_amountOf s_Nodes_has) k_Nodes_amountOf J K (n + 1) 13 L S M = ai_iald 14 (am_run (c_Nodes_amountOf s_Nodes_has) k_Nodes_amountOf J K n) K 13 L S M := by rfl
theorem r_Nodes_amountOf_14 {s_Nodes_has : aS} {J : aJ} {K : aR} {n : Nat} {L : aL} {S : List Value} {M : aM} : am_run (c_Nodes_amountOf s_Nodes_has) k_Nodes_amountOf J K (n + 1) 14 L S M = ai_goto 18 (am_run (c_Nodes_amountOf s_Nodes_has) k_Nodes_amountOf J K n) K 14 L S M := by rfl
theorem r_Nodes_amountOf_17 {s_Nodes_has : aS} {J : aJ} {K : aR} {n : Nat} {L : aL} {S : List Value} {M : aM} : am_run (c_Nodes_amountOf s_Nodes_has) k_Nodes_amountOf J K (n + 1) 17 L S M = ai_const 0 18 (am_run (c_Nodes_amountOf s_Nodes_has) k_Nodes_amountOf J K n) K 17 L S M := by rfl
theorem r_Nodes_amountOf_18 {s_Nodes_has : aS} {J : aJ} {K : aR} {n : Nat} {L : aL} {S : List Value} {M : aM} : am_run (c_Nodes_amountOf s_Nodes_has) k_Nodes_amountOf J K (n + 1) 18 L S M = ai_iret (am_run (c_Nodes_amountOf s_Nodes_has) k_Nodes_amountOf J K n) K 18 L S M := by rfl
def c_Nodes_byteOf (s_Nodes_isOf : aS) : List (Nat × aI) := [
  (0, ai_aload 0 1),
  (1, ai_iload 1 2),
  (2, ai_const 2 3),
  (3, ai_callv3 0 s_Nodes_isOf 6),
  (6, ai_ifne 18 9),
  (9, ai_aload 0 10),
  (10, ai_iload 1 11),
  (11, ai_const 3 12),
  (12, ai_callv3 0 s_Nodes_isOf 15),
  (15, ai_ifeq 32 18),
  (18, ai_iload 2 19),
  (19, ai_iflt 32 22),
  (22, ai_iload 2 23),
  (23, ai_aload 0 24),
  (24, ai_getf 0 1 27),
  (27, ai_iload 1 28),
  (28, ai_iald 29),
  (29, ai_cmplt 34 32),
  (32, ai_const (-1) 33),
  (33, ai_iret),
  (34, ai_aload 0 35),
  (35, ai_getf 0 2 38),
  (38, ai_iload 1 39),
  (39, ai_iald 40),
  (40, ai_iload 2 41),
  (41, ai_iadd 42),
  (42, ai_istore 3 43),
  (43, ai_iload 3 44),
  (44, ai_iflt 65 47),
  (47, ai_iload 3 48),
  (48, ai_aload 0 49),
  (49, ai_getf 0 8 52),
  (52, ai_alen 53),
  (53, ai_cmpge 65 56),
  (56, ai_aload 0 57),
  (57, ai_getf 0 8 60),
  (60, ai_iload 3 61),
  (61, ai_iald 62),
  (62, ai_goto 66),
  (65, ai_const (-1) 66),
  (66, ai_iret)]
set_option maxRecDepth 100000 in
set_option maxHeartbeats 4000000 in
theorem tb_Nodes_byteOf {G : aG} {d : Nat} {s_Nodes_isOf : aS} {d_Nodes_isOf : Nat} (h_Nodes_isOf : am_Sp G Y_Nodes_isOf d_Nodes_isOf s_Nodes_isOf) (l_Nodes_isOf : d_Nodes_isOf < d) : am_tab G Y_Nodes_byteOf d (c_Nodes_byteOf s_Nodes_isOf) := by
  intro K p e s m args below meth c C
  exact ⟨as_aload_n C (pc := 0) (q := 0) (by decide +kernel) rfl rfl,
    as_iload_n C (pc := 1) (q := 1) (by decide +kernel) rfl rfl,
    as_iconst C (pc := 2) (n := 2) (by decide +kernel) (by decide +kernel) rfl,
    as_callv3 C (pc := 3) h_Nodes_isOf (T := T_Nodes) (N := 10) rfl w_421 w_72 w_420 w_36 w_418 hy_Nodes_isOf (am_rm_of l_Nodes_isOf (by decide)) (by decide +kernel) rfl,
    as_ifne C (pc := 6) (off := 12) (by decide +kernel) (by decide) rfl,
    as_aload_n C (pc := 9) (q := 0) (by decide +kernel) rfl rfl,
    as_iload_n C (pc := 10) (q := 1) (by decide +kernel) rfl rfl,
    as_iconst C (pc := 11) (n := 3) (by decide +kernel) (by decide +kernel) rfl,
    as_callv3 C (pc := 12) h_Nodes_isOf (T := T_Nodes) (N := 10) rfl w_421 w_72 w_420 w_36 w_418 hy_Nodes_isOf (am_rm_of l_Nodes_isOf (by decide)) (by decide +kernel) rfl,
    as_ifeq C (pc := 15) (off := 17) (by decide +kernel) (by decide) rfl,
    as_iload_n C (pc := 18) (q := 2) (by decide +kernel) rfl rfl,
    as_iflt C (pc := 19) (off := 13) (by decide +kernel) (by decide) rfl,
    as_iload_n C (pc := 22) (q := 2) (by decide +kernel) rfl rfl,
    as_aload_n C (pc := 23) (q := 0) (by decide +kernel) rfl rfl,
    as_getf C (pc := 24) (T := T_Nodes) (N := 10) rfl in_Nodes (by decide) rfl w_119 (by decide +kernel) rfl,
    as_iload_n C (pc := 27) (q := 1) (by decide +kernel) rfl rfl,
    as_iald C (pc := 28) (by decide +kernel) rfl,
    as_cmplt C (pc := 29) (off := 5) (by decide +kernel) (by decide) rfl,
    as_iconst C (pc := 32) (n := (-1)) (by decide +kernel) (by decide +kernel) rfl,
    as_iret C (pc := 33) rfl (by decide +kernel),
    as_aload_n C (pc := 34) (q := 0) (by decide +kernel) rfl rfl,
    as_getf C (pc := 35) (T := T_Nodes) (N := 10) rfl in_Nodes (by decide) rfl w_120 (by decide +kernel) rfl,
    as_iload_n C (pc := 38) (q := 1) (by decide +kernel) rfl rfl,
    as_iald C (pc := 39) (by decide +kernel) rfl,
    as_iload_n C (pc := 40) (q := 2) (by decide +kernel) rfl rfl,
    as_iadd C (pc := 41) (by decide +kernel) rfl,
    as_istore_n C (pc := 42) (q := 3) (by decide +kernel) rfl (by decide) rfl,
    as_iload_n C (pc := 43) (q := 3) (by decide +kernel) rfl rfl,
    as_iflt C (pc := 44) (off := 21) (by decide +kernel) (by decide) rfl,
    as_iload_n C (pc := 47) (q := 3) (by decide +kernel) rfl rfl,
    as_aload_n C (pc := 48) (q := 0) (by decide +kernel) rfl rfl,
    as_getf C (pc := 49) (T := T_Nodes) (N := 10) rfl in_Nodes (by decide) rfl w_128 (by decide +kernel) rfl,
    as_alen C (pc := 52) (by decide +kernel) rfl,
    as_cmpge C (pc := 53) (off := 12) (by decide +kernel) (by decide) rfl,
    as_aload_n C (pc := 56) (q := 0) (by decide +kernel) rfl rfl,
    as_getf C (pc := 57) (T := T_Nodes) (N := 10) rfl in_Nodes (by decide) rfl w_128 (by decide +kernel) rfl,
    as_iload_n C (pc := 60) (q := 3) (by decide +kernel) rfl rfl,
    as_iald C (pc := 61) (by decide +kernel) rfl,
    as_goto C (pc := 62) (off := 4) (by decide +kernel) (by decide),
    as_iconst C (pc := 65) (n := (-1)) (by decide +kernel) (by decide +kernel) rfl,
    as_iret C (pc := 66) rfl (by decide +kernel), trivial⟩
abbrev k_Nodes_byteOf : List Nat := []
theorem r_Nodes_byteOf_0 {s_Nodes_isOf : aS} {J : aJ} {K : aR} {n : Nat} {L : aL} {S : List Value} {M : aM} : am_run (c_Nodes_byteOf s_Nodes_isOf) k_Nodes_byteOf J K (n + 1) 0 L S M = ai_aload 0 1 (am_run (c_Nodes_byteOf s_Nodes_isOf) k_Nodes_byteOf J K n) K 0 L S M := by rfl
theorem r_Nodes_byteOf_1 {s_Nodes_isOf : aS} {J : aJ} {K : aR} {n : Nat} {L : aL} {S : List Value} {M : aM} : am_run (c_Nodes_byteOf s_Nodes_isOf) k_Nodes_byteOf J K (n + 1) 1 L S M = ai_iload 1 2 (am_run (c_Nodes_byteOf s_Nodes_isOf) k_Nodes_byteOf J K n) K 1 L S M := by rfl
theorem r_Nodes_byteOf_2 {s_Nodes_isOf : aS} {J : aJ} {K : aR} {n : Nat} {L : aL} {S : List Value} {M : aM} : am_run (c_Nodes_byteOf s_Nodes_isOf) k_Nodes_byteOf J K (n + 1) 2 L S M = ai_const 2 3 (am_run (c_Nodes_byteOf s_Nodes_isOf) k_Nodes_byteOf J K n) K 2 L S M := by rfl
theorem r_Nodes_byteOf_3 {s_Nodes_isOf : aS} {J : aJ} {K : aR} {n : Nat} {L : aL} {S : List Value} {M : aM} : am_run (c_Nodes_byteOf s_Nodes_isOf) k_Nodes_byteOf J K (n + 1) 3 L S M = ai_callv3 0 s_Nodes_isOf 6 (am_run (c_Nodes_byteOf s_Nodes_isOf) k_Nodes_byteOf J K n) K 3 L S M := by rfl
theorem r_Nodes_byteOf_6 {s_Nodes_isOf : aS} {J : aJ} {K : aR} {n : Nat} {L : aL} {S : List Value} {M : aM} : am_run (c_Nodes_byteOf s_Nodes_isOf) k_Nodes_byteOf J K (n + 1) 6 L S M = ai_ifne 18 9 (am_run (c_Nodes_byteOf s_Nodes_isOf) k_Nodes_byteOf J K n) K 6 L S M := by rfl
theorem r_Nodes_byteOf_9 {s_Nodes_isOf : aS} {J : aJ} {K : aR} {n : Nat} {L : aL} {S : List Value} {M : aM} : am_run (c_Nodes_byteOf s_Nodes_isOf) k_Nodes_byteOf J K (n + 1) 9 L S M = ai_aload 0 10 (am_run (c_Nodes_byteOf s_Nodes_isOf) k_Nodes_byteOf J K n) K 9 L S M := by rfl
theorem r_Nodes_byteOf_10 {s_Nodes_isOf : aS} {J : aJ} {K : aR} {n : Nat} {L : aL} {S : List Value} {M : aM} : am_run (c_Nodes_byteOf s_Nodes_isOf) k_Nodes_byteOf J K (n + 1) 10 L S M = ai_iload 1 11 (am_run (c_Nodes_byteOf s_Nodes_isOf) k_Nodes_byteOf J K n) K 10 L S M := by rfl
theorem r_Nodes_byteOf_11 {s_Nodes_isOf : aS} {J : aJ} {K : aR} {n : Nat} {L : aL} {S : List Value} {M : aM} : am_run (c_Nodes_byteOf s_Nodes_isOf) k_Nodes_byteOf J K (n + 1) 11 L S M = ai_const 3 12 (am_run (c_Nodes_byteOf s_Nodes_isOf) k_Nodes_byteOf J K n) K 11 L S M := by rfl
theorem r_Nodes_byteOf_12 {s_Nodes_isOf : aS} {J : aJ} {K : aR} {n : Nat} {L : aL} {S : List Value} {M : aM} : am_run (c_Nodes_byteOf s_Nodes_isOf) k_Nodes_byteOf J K (n + 1) 12 L S M = ai_callv3 0 s_Nodes_isOf 15 (am_run (c_Nodes_byteOf s_Nodes_isOf) k_Nodes_byteOf J K n) K 12 L S M := by rfl
theorem r_Nodes_byteOf_15 {s_Nodes_isOf : aS} {J : aJ} {K : aR} {n : Nat} {L : aL} {S : List Value} {M : aM} : am_run (c_Nodes_byteOf s_Nodes_isOf) k_Nodes_byteOf J K (n + 1) 15 L S M = ai_ifeq 32 18 (am_run (c_Nodes_byteOf s_Nodes_isOf) k_Nodes_byteOf J K n) K 15 L S M := by rfl
theorem r_Nodes_byteOf_18 {s_Nodes_isOf : aS} {J : aJ} {K : aR} {n : Nat} {L : aL} {S : List Value} {M : aM} : am_run (c_Nodes_byteOf s_Nodes_isOf) k_Nodes_byteOf J K (n + 1) 18 L S M = ai_iload 2 19 (am_run (c_Nodes_byteOf s_Nodes_isOf) k_Nodes_byteOf J K n) K 18 L S M := by rfl
theorem r_Nodes_byteOf_19 {s_Nodes_isOf : aS} {J : aJ} {K : aR} {n : Nat} {L : aL} {S : List Value} {M : aM} : am_run (c_Nodes_byteOf s_Nodes_isOf) k_Nodes_byteOf J K (n + 1) 19 L S M = ai_iflt 32 22 (am_run (c_Nodes_byteOf s_Nodes_isOf) k_Nodes_byteOf J K n) K 19 L S M := by rfl
theorem r_Nodes_byteOf_22 {s_Nodes_isOf : aS} {J : aJ} {K : aR} {n : Nat} {L : aL} {S : List Value} {M : aM} : am_run (c_Nodes_byteOf s_Nodes_isOf) k_Nodes_byteOf J K (n + 1) 22 L S M = ai_iload 2 23 (am_run (c_Nodes_byteOf s_Nodes_isOf) k_Nodes_byteOf J K n) K 22 L S M := by rfl
theorem r_Nodes_byteOf_23 {s_Nodes_isOf : aS} {J : aJ} {K : aR} {n : Nat} {L : aL} {S : List Value} {M : aM} : am_run (c_Nodes_byteOf s_Nodes_isOf) k_Nodes_byteOf J K (n + 1) 23 L S M = ai_aload 0 24 (am_run (c_Nodes_byteOf s_Nodes_isOf) k_Nodes_byteOf J K n) K 23 L S M := by rfl
theorem r_Nodes_byteOf_24 {s_Nodes_isOf : aS} {J : aJ} {K : aR} {n : Nat} {L : aL} {S : List Value} {M : aM} : am_run (c_Nodes_byteOf s_Nodes_isOf) k_Nodes_byteOf J K (n + 1) 24 L S M = ai_getf 0 1 27 (am_run (c_Nodes_byteOf s_Nodes_isOf) k_Nodes_byteOf J K n) K 24 L S M := by rfl
theorem r_Nodes_byteOf_27 {s_Nodes_isOf : aS} {J : aJ} {K : aR} {n : Nat} {L : aL} {S : List Value} {M : aM} : am_run (c_Nodes_byteOf s_Nodes_isOf) k_Nodes_byteOf J K (n + 1) 27 L S M = ai_iload 1 28 (am_run (c_Nodes_byteOf s_Nodes_isOf) k_Nodes_byteOf J K n) K 27 L S M := by rfl
theorem r_Nodes_byteOf_28 {s_Nodes_isOf : aS} {J : aJ} {K : aR} {n : Nat} {L : aL} {S : List Value} {M : aM} : am_run (c_Nodes_byteOf s_Nodes_isOf) k_Nodes_byteOf J K (n + 1) 28 L S M = ai_iald 29 (am_run (c_Nodes_byteOf s_Nodes_isOf) k_Nodes_byteOf J K n) K 28 L S M := by rfl
theorem r_Nodes_byteOf_29 {s_Nodes_isOf : aS} {J : aJ} {K : aR} {n : Nat} {L : aL} {S : List Value} {M : aM} : am_run (c_Nodes_byteOf s_Nodes_isOf) k_Nodes_byteOf J K (n + 1) 29 L S M = ai_cmplt 34 32 (am_run (c_Nodes_byteOf s_Nodes_isOf) k_Nodes_byteOf J K n) K 29 L S M := by rfl
theorem r_Nodes_byteOf_32 {s_Nodes_isOf : aS} {J : aJ} {K : aR} {n : Nat} {L : aL} {S : List Value} {M : aM} : am_run (c_Nodes_byteOf s_Nodes_isOf) k_Nodes_byteOf J K (n + 1) 32 L S M = ai_const (-1) 33 (am_run (c_Nodes_byteOf s_Nodes_isOf) k_Nodes_byteOf J K n) K 32 L S M := by rfl
theorem r_Nodes_byteOf_33 {s_Nodes_isOf : aS} {J : aJ} {K : aR} {n : Nat} {L : aL} {S : List Value} {M : aM} : am_run (c_Nodes_byteOf s_Nodes_isOf) k_Nodes_byteOf J K (n + 1) 33 L S M = ai_iret (am_run (c_Nodes_byteOf s_Nodes_isOf) k_Nodes_byteOf J K n) K 33 L S M := by rfl
theorem r_Nodes_byteOf_34 {s_Nodes_isOf : aS} {J : aJ} {K : aR} {n : Nat} {L : aL} {S : List Value} {M : aM} : am_run (c_Nodes_byteOf s_Nodes_isOf) k_Nodes_byteOf J K (n + 1) 34 L S M = ai_aload 0 35 (am_run (c_Nodes_byteOf s_Nodes_isOf) k_Nodes_byteOf J K n) K 34 L S M := by rfl
theorem r_Nodes_byteOf_35 {s_Nodes_isOf : aS} {J : aJ} {K : aR} {n : Nat} {L : aL} {S : List Value} {M : aM} : am_run (c_Nodes_byteOf s_Nodes_isOf) k_Nodes_byteOf J K (n + 1) 35 L S M = ai_getf 0 2 38 (am_run (c_Nodes_byteOf s_Nodes_isOf) k_Nodes_byteOf J K n) K 35 L S M := by rfl
theorem r_Nodes_byteOf_38 {s_Nodes_isOf : aS} {J : aJ} {K : aR} {n : Nat} {L : aL} {S : List Value} {M : aM} : am_run (c_Nodes_byteOf s_Nodes_isOf) k_Nodes_byteOf J K (n + 1) 38 L S M = ai_iload 1 39 (am_run (c_Nodes_byteOf s_Nodes_isOf) k_Nodes_byteOf J K n) K 38 L S M := by rfl
theorem r_Nodes_byteOf_39 {s_Nodes_isOf : aS} {J : aJ} {K : aR} {n : Nat} {L : aL} {S : List Value} {M : aM} : am_run (c_Nodes_byteOf s_Nodes_isOf) k_Nodes_byteOf J K (n + 1) 39 L S M = ai_iald 40 (am_run (c_Nodes_byteOf s_Nodes_isOf) k_Nodes_byteOf J K n) K 39 L S M := by rfl
theorem r_Nodes_byteOf_40 {s_Nodes_isOf : aS} {J : aJ} {K : aR} {n : Nat} {L : aL} {S : List Value} {M : aM} : am_run (c_Nodes_byteOf s_Nodes_isOf) k_Nodes_byteOf J K (n + 1) 40 L S M = ai_iload 2 41 (am_run (c_Nodes_byteOf s_Nodes_isOf) k_Nodes_byteOf J K n) K 40 L S M := by rfl
theorem r_Nodes_byteOf_41 {s_Nodes_isOf : aS} {J : aJ} {K : aR} {n : Nat} {L : aL} {S : List Value} {M : aM} : am_run (c_Nodes_byteOf s_Nodes_isOf) k_Nodes_byteOf J K (n + 1) 41 L S M = ai_iadd 42 (am_run (c_Nodes_byteOf s_Nodes_isOf) k_Nodes_byteOf J K n) K 41 L S M := by rfl
theorem r_Nodes_byteOf_42 {s_Nodes_isOf : aS} {J : aJ} {K : aR} {n : Nat} {L : aL} {S : List Value} {M : aM} : am_run (c_Nodes_byteOf s_Nodes_isOf) k_Nodes_byteOf J K (n + 1) 42 L S M = ai_istore 3 43 (am_run (c_Nodes_byteOf s_Nodes_isOf) k_Nodes_byteOf J K n) K 42 L S M := by rfl
theorem r_Nodes_byteOf_43 {s_Nodes_isOf : aS} {J : aJ} {K : aR} {n : Nat} {L : aL} {S : List Value} {M : aM} : am_run (c_Nodes_byteOf s_Nodes_isOf) k_Nodes_byteOf J K (n + 1) 43 L S M = ai_iload 3 44 (am_run (c_Nodes_byteOf s_Nodes_isOf) k_Nodes_byteOf J K n) K 43 L S M := by rfl
theorem r_Nodes_byteOf_44 {s_Nodes_isOf : aS} {J : aJ} {K : aR} {n : Nat} {L : aL} {S : List Value} {M : aM} : am_run (c_Nodes_byteOf s_Nodes_isOf) k_Nodes_byteOf J K (n + 1) 44 L S M = ai_iflt 65 47 (am_run (c_Nodes_byteOf s_Nodes_isOf) k_Nodes_byteOf J K n) K 44 L S M := by rfl
theorem r_Nodes_byteOf_47 {s_Nodes_isOf : aS} {J : aJ} {K : aR} {n : Nat} {L : aL} {S : List Value} {M : aM} : am_run (c_Nodes_byteOf s_Nodes_isOf) k_Nodes_byteOf J K (n + 1) 47 L S M = ai_iload 3 48 (am_run (c_Nodes_byteOf s_Nodes_isOf) k_Nodes_byteOf J K n) K 47 L S M := by rfl
theorem r_Nodes_byteOf_48 {s_Nodes_isOf : aS} {J : aJ} {K : aR} {n : Nat} {L : aL} {S : List Value} {M : aM} : am_run (c_Nodes_byteOf s_Nodes_isOf) k_Nodes_byteOf J K (n + 1) 48 L S M = ai_aload 0 49 (am_run (c_Nodes_byteOf s_Nodes_isOf) k_Nodes_byteOf J K n) K 48 L S M := by rfl
theorem r_Nodes_byteOf_49 {s_Nodes_isOf : aS} {J : aJ} {K : aR} {n : Nat} {L : aL} {S : List Value} {M : aM} : am_run (c_Nodes_byteOf s_Nodes_isOf) k_Nodes_byteOf J K (n + 1) 49 L S M = ai_getf 0 8 52 (am_run (c_Nodes_byteOf s_Nodes_isOf) k_Nodes_byteOf J K n) K 49 L S M := by rfl
theorem r_Nodes_byteOf_52 {s_Nodes_isOf : aS} {J : aJ} {K : aR} {n : Nat} {L : aL} {S : List Value} {M : aM} : am_run (c_Nodes_byteOf s_Nodes_isOf) k_Nodes_byteOf J K (n + 1) 52 L S M = ai_alen 53 (am_run (c_Nodes_byteOf s_Nodes_isOf) k_Nodes_byteOf J K n) K 52 L S M := by rfl
theorem r_Nodes_byteOf_53 {s_Nodes_isOf : aS} {J : aJ} {K : aR} {n : Nat} {L : aL} {S : List Value} {M : aM} : am_run (c_Nodes_byteOf s_Nodes_isOf) k_Nodes_byteOf J K (n + 1) 53 L S M = ai_cmpge 65 56 (am_run (c_Nodes_byteOf s_Nodes_isOf) k_Nodes_byteOf J K n) K 53 L S M := by rfl
theorem r_Nodes_byteOf_56 {s_Nodes_isOf : aS} {J : aJ} {K : aR} {n : Nat} {L : aL} {S : List Value} {M : aM} : am_run (c_Nodes_byteOf s_Nodes_isOf) k_Nodes_byteOf J K (n + 1) 56 L S M = ai_aload 0 57 (am_run (c_Nodes_byteOf s_Nodes_isOf) k_Nodes_byteOf J K n) K 56 L S M := by rfl
theorem r_Nodes_byteOf_57 {s_Nodes_isOf : aS} {J : aJ} {K : aR} {n : Nat} {L : aL} {S : List Value} {M : aM} : am_run (c_Nodes_byteOf s_Nodes_isOf) k_Nodes_byteOf J K (n + 1) 57 L S M = ai_getf 0 8 60 (am_run (c_Nodes_byteOf s_Nodes_isOf) k_Nodes_byteOf J K n) K 57 L S M := by rfl
theorem r_Nodes_byteOf_60 {s_Nodes_isOf : aS} {J : aJ} {K : aR} {n : Nat} {L : aL} {S : List Value} {M : aM} : am_run (c_Nodes_byteOf s_Nodes_isOf) k_Nodes_byteOf J K (n + 1) 60 L S M = ai_iload 3 61 (am_run (c_Nodes_byteOf s_Nodes_isOf) k_Nodes_byteOf J K n) K 60 L S M := by rfl
theorem r_Nodes_byteOf_61 {s_Nodes_isOf : aS} {J : aJ} {K : aR} {n : Nat} {L : aL} {S : List Value} {M : aM} : am_run (c_Nodes_byteOf s_Nodes_isOf) k_Nodes_byteOf J K (n + 1) 61 L S M = ai_iald 62 (am_run (c_Nodes_byteOf s_Nodes_isOf) k_Nodes_byteOf J K n) K 61 L S M := by rfl
theorem r_Nodes_byteOf_62 {s_Nodes_isOf : aS} {J : aJ} {K : aR} {n : Nat} {L : aL} {S : List Value} {M : aM} : am_run (c_Nodes_byteOf s_Nodes_isOf) k_Nodes_byteOf J K (n + 1) 62 L S M = ai_goto 66 (am_run (c_Nodes_byteOf s_Nodes_isOf) k_Nodes_byteOf J K n) K 62 L S M := by rfl
theorem r_Nodes_byteOf_65 {s_Nodes_isOf : aS} {J : aJ} {K : aR} {n : Nat} {L : aL} {S : List Value} {M : aM} : am_run (c_Nodes_byteOf s_Nodes_isOf) k_Nodes_byteOf J K (n + 1) 65 L S M = ai_const (-1) 66 (am_run (c_Nodes_byteOf s_Nodes_isOf) k_Nodes_byteOf J K n) K 65 L S M := by rfl
theorem r_Nodes_byteOf_66 {s_Nodes_isOf : aS} {J : aJ} {K : aR} {n : Nat} {L : aL} {S : List Value} {M : aM} : am_run (c_Nodes_byteOf s_Nodes_isOf) k_Nodes_byteOf J K (n + 1) 66 L S M = ai_iret (am_run (c_Nodes_byteOf s_Nodes_isOf) k_Nodes_byteOf J K n) K 66 L S M := by rfl
def c_Nodes_headOf (s_Nodes_isOf : aS) : List (Nat × aI) := [
  (0, ai_aload 0 1),
  (1, ai_iload 1 2),
  (2, ai_const 4 3),
  (3, ai_callv3 0 s_Nodes_isOf 6),
  (6, ai_ifeq 18 9),
  (9, ai_aload 0 10),
  (10, ai_getf 0 3 13),
  (13, ai_iload 1 14),
  (14, ai_iald 15),
  (15, ai_goto 19),
  (18, ai_const (-1) 19),
  (19, ai_iret)]
set_option maxRecDepth 100000 in
set_option maxHeartbeats 4000000 in
theorem tb_Nodes_headOf {G : aG} {d : Nat} {s_Nodes_isOf : aS} {d_Nodes_isOf : Nat} (h_Nodes_isOf : am_Sp G Y_Nodes_isOf d_Nodes_isOf s_Nodes_isOf) (l_Nodes_isOf : d_Nodes_isOf < d) : am_tab G Y_Nodes_headOf d (c_Nodes_headOf s_Nodes_isOf) := by
  intro K p e s m args below meth c C
  exact ⟨as_aload_n C (pc := 0) (q := 0) (by decide +kernel) rfl rfl,
    as_iload_n C (pc := 1) (q := 1) (by decide +kernel) rfl rfl,
    as_iconst C (pc := 2) (n := 4) (by decide +kernel) (by decide +kernel) rfl,
    as_callv3 C (pc := 3) h_Nodes_isOf (T := T_Nodes) (N := 10) rfl w_421 w_72 w_420 w_36 w_418 hy_Nodes_isOf (am_rm_of l_Nodes_isOf (by decide)) (by decide +kernel) rfl,
    as_ifeq C (pc := 6) (off := 12) (by decide +kernel) (by decide) rfl,
    as_aload_n C (pc := 9) (q := 0) (by decide +kernel) rfl rfl,
    as_getf C (pc := 10) (T := T_Nodes) (N := 10) rfl in_Nodes (by decide) rfl w_121 (by decide +kernel) rfl,
    as_iload_n C (pc := 13) (q := 1) (by decide +kernel) rfl rfl,
    as_iald C (pc := 14) (by decide +kernel) rfl,
    as_goto C (pc := 15) (off := 4) (by decide +kernel) (by decide),
    as_iconst C (pc := 18) (n := (-1)) (by decide +kernel) (by decide +kernel) rfl,
    as_iret C (pc := 19) rfl (by decide +kernel), trivial⟩
abbrev k_Nodes_headOf : List Nat := []
theorem r_Nodes_headOf_0 {s_Nodes_isOf : aS} {J : aJ} {K : aR} {n : Nat} {L : aL} {S : List Value} {M : aM} : am_run (c_Nodes_headOf s_Nodes_isOf) k_Nodes_headOf J K (n + 1) 0 L S M = ai_aload 0 1 (am_run (c_Nodes_headOf s_Nodes_isOf) k_Nodes_headOf J K n) K 0 L S M := by rfl
theorem r_Nodes_headOf_1 {s_Nodes_isOf : aS} {J : aJ} {K : aR} {n : Nat} {L : aL} {S : List Value} {M : aM} : am_run (c_Nodes_headOf s_Nodes_isOf) k_Nodes_headOf J K (n + 1) 1 L S M = ai_iload 1 2 (am_run (c_Nodes_headOf s_Nodes_isOf) k_Nodes_headOf J K n) K 1 L S M := by rfl
theorem r_Nodes_headOf_2 {s_Nodes_isOf : aS} {J : aJ} {K : aR} {n : Nat} {L : aL} {S : List Value} {M : aM} : am_run (c_Nodes_headOf s_Nodes_isOf) k_Nodes_headOf J K (n + 1) 2 L S M = ai_const 4 3 (am_run (c_Nodes_headOf s_Nodes_isOf) k_Nodes_headOf J K n) K 2 L S M := by rfl
theorem r_Nodes_headOf_3 {s_Nodes_isOf : aS} {J : aJ} {K : aR} {n : Nat} {L : aL} {S : List Value} {M : aM} : am_run (c_Nodes_headOf s_Nodes_isOf) k_Nodes_headOf J K (n + 1) 3 L S M = ai_callv3 0 s_Nodes_isOf 6 (am_run (c_Nodes_headOf s_Nodes_isOf) k_Nodes_headOf J K n) K 3 L S M := by rfl
theorem r_Nodes_headOf_6 {s_Nodes_isOf : aS} {J : aJ} {K : aR} {n : Nat} {L : aL} {S : List Value} {M : aM} : am_run (c_Nodes_headOf s_Nodes_isOf) k_Nodes_headOf J K (n + 1) 6 L S M = ai_ifeq 18 9 (am_run (c_Nodes_headOf s_Nodes_isOf) k_Nodes_headOf J K n) K 6 L S M := by rfl
theorem r_Nodes_headOf_9 {s_Nodes_isOf : aS} {J : aJ} {K : aR} {n : Nat} {L : aL} {S : List Value} {M : aM} : am_run (c_Nodes_headOf s_Nodes_isOf) k_Nodes_headOf J K (n + 1) 9 L S M = ai_aload 0 10 (am_run (c_Nodes_headOf s_Nodes_isOf) k_Nodes_headOf J K n) K 9 L S M := by rfl
theorem r_Nodes_headOf_10 {s_Nodes_isOf : aS} {J : aJ} {K : aR} {n : Nat} {L : aL} {S : List Value} {M : aM} : am_run (c_Nodes_headOf s_Nodes_isOf) k_Nodes_headOf J K (n + 1) 10 L S M = ai_getf 0 3 13 (am_run (c_Nodes_headOf s_Nodes_isOf) k_Nodes_headOf J K n) K 10 L S M := by rfl
theorem r_Nodes_headOf_13 {s_Nodes_isOf : aS} {J : aJ} {K : aR} {n : Nat} {L : aL} {S : List Value} {M : aM} : am_run (c_Nodes_headOf s_Nodes_isOf) k_Nodes_headOf J K (n + 1) 13 L S M = ai_iload 1 14 (am_run (c_Nodes_headOf s_Nodes_isOf) k_Nodes_headOf J K n) K 13 L S M := by rfl
theorem r_Nodes_headOf_14 {s_Nodes_isOf : aS} {J : aJ} {K : aR} {n : Nat} {L : aL} {S : List Value} {M : aM} : am_run (c_Nodes_headOf s_Nodes_isOf) k_Nodes_headOf J K (n + 1) 14 L S M = ai_iald 15 (am_run (c_Nodes_headOf s_Nodes_isOf) k_Nodes_headOf J K n) K 14 L S M := by rfl
theorem r_Nodes_headOf_15 {s_Nodes_isOf : aS} {J : aJ} {K : aR} {n : Nat} {L : aL} {S : List Value} {M : aM} : am_run (c_Nodes_headOf s_Nodes_isOf) k_Nodes_headOf J K (n + 1) 15 L S M = ai_goto 19 (am_run (c_Nodes_headOf s_Nodes_isOf) k_Nodes_headOf J K n) K 15 L S M := by rfl
theorem r_Nodes_headOf_18 {s_Nodes_isOf : aS} {J : aJ} {K : aR} {n : Nat} {L : aL} {S : List Value} {M : aM} : am_run (c_Nodes_headOf s_Nodes_isOf) k_Nodes_headOf J K (n + 1) 18 L S M = ai_const (-1) 19 (am_run (c_Nodes_headOf s_Nodes_isOf) k_Nodes_headOf J K n) K 18 L S M := by rfl
theorem r_Nodes_headOf_19 {s_Nodes_isOf : aS} {J : aJ} {K : aR} {n : Nat} {L : aL} {S : List Value} {M : aM} : am_run (c_Nodes_headOf s_Nodes_isOf) k_Nodes_headOf J K (n + 1) 19 L S M = ai_iret (am_run (c_Nodes_headOf s_Nodes_isOf) k_Nodes_headOf J K n) K 19 L S M := by rfl
def c_Nodes_tailOf (s_Nodes_isOf : aS) : List (Nat × aI) := [
  (0, ai_aload 0 1),
  (1, ai_iload 1 2),
  (2, ai_const 4 3),
  (3, ai_callv3 0 s_Nodes_isOf 6),
  (6, ai_ifeq 18 9),
  (9, ai_aload 0 10),
  (10, ai_getf 0 4 13),
  (13, ai_iload 1 14),
  (14, ai_iald 15),
  (15, ai_goto 19),
  (18, ai_const (-1) 19),
  (19, ai_iret)]
set_option maxRecDepth 100000 in
set_option maxHeartbeats 4000000 in
theorem tb_Nodes_tailOf {G : aG} {d : Nat} {s_Nodes_isOf : aS} {d_Nodes_isOf : Nat} (h_Nodes_isOf : am_Sp G Y_Nodes_isOf d_Nodes_isOf s_Nodes_isOf) (l_Nodes_isOf : d_Nodes_isOf < d) : am_tab G Y_Nodes_tailOf d (c_Nodes_tailOf s_Nodes_isOf) := by
  intro K p e s m args below meth c C
  exact ⟨as_aload_n C (pc := 0) (q := 0) (by decide +kernel) rfl rfl,
    as_iload_n C (pc := 1) (q := 1) (by decide +kernel) rfl rfl,
    as_iconst C (pc := 2) (n := 4) (by decide +kernel) (by decide +kernel) rfl,
    as_callv3 C (pc := 3) h_Nodes_isOf (T := T_Nodes) (N := 10) rfl w_421 w_72 w_420 w_36 w_418 hy_Nodes_isOf (am_rm_of l_Nodes_isOf (by decide)) (by decide +kernel) rfl,
    as_ifeq C (pc := 6) (off := 12) (by decide +kernel) (by decide) rfl,
    as_aload_n C (pc := 9) (q := 0) (by decide +kernel) rfl rfl,
    as_getf C (pc := 10) (T := T_Nodes) (N := 10) rfl in_Nodes (by decide) rfl w_122 (by decide +kernel) rfl,
    as_iload_n C (pc := 13) (q := 1) (by decide +kernel) rfl rfl,
    as_iald C (pc := 14) (by decide +kernel) rfl,
    as_goto C (pc := 15) (off := 4) (by decide +kernel) (by decide),
    as_iconst C (pc := 18) (n := (-1)) (by decide +kernel) (by decide +kernel) rfl,
    as_iret C (pc := 19) rfl (by decide +kernel), trivial⟩
abbrev k_Nodes_tailOf : List Nat := []
theorem r_Nodes_tailOf_0 {s_Nodes_isOf : aS} {J : aJ} {K : aR} {n : Nat} {L : aL} {S : List Value} {M : aM} : am_run (c_Nodes_tailOf s_Nodes_isOf) k_Nodes_tailOf J K (n + 1) 0 L S M = ai_aload 0 1 (am_run (c_Nodes_tailOf s_Nodes_isOf) k_Nodes_tailOf J K n) K 0 L S M := by rfl
theorem r_Nodes_tailOf_1 {s_Nodes_isOf : aS} {J : aJ} {K : aR} {n : Nat} {L : aL} {S : List Value} {M : aM} : am_run (c_Nodes_tailOf s_Nodes_isOf) k_Nodes_tailOf J K (n + 1) 1 L S M = ai_iload 1 2 (am_run (c_Nodes_tailOf s_Nodes_isOf) k_Nodes_tailOf J K n) K 1 L S M := by rfl
theorem r_Nodes_tailOf_2 {s_Nodes_isOf : aS} {J : aJ} {K : aR} {n : Nat} {L : aL} {S : List Value} {M : aM} : am_run (c_Nodes_tailOf s_Nodes_isOf) k_Nodes_tailOf J K (n + 1) 2 L S M = ai_const 4 3 (am_run (c_Nodes_tailOf s_Nodes_isOf) k_Nodes_tailOf J K n) K 2 L S M := by rfl
theorem r_Nodes_tailOf_3 {s_Nodes_isOf : aS} {J : aJ} {K : aR} {n : Nat} {L : aL} {S : List Value} {M : aM} : am_run (c_Nodes_tailOf s_Nodes_isOf) k_Nodes_tailOf J K (n + 1) 3 L S M = ai_callv3 0 s_Nodes_isOf 6 (am_run (c_Nodes_tailOf s_Nodes_isOf) k_Nodes_tailOf J K n) K 3 L S M := by rfl
theorem r_Nodes_tailOf_6 {s_Nodes_isOf : aS} {J : aJ} {K : aR} {n : Nat} {L : aL} {S : List Value} {M : aM} : am_run (c_Nodes_tailOf s_Nodes_isOf) k_Nodes_tailOf J K (n + 1) 6 L S M = ai_ifeq 18 9 (am_run (c_Nodes_tailOf s_Nodes_isOf) k_Nodes_tailOf J K n) K 6 L S M := by rfl
theorem r_Nodes_tailOf_9 {s_Nodes_isOf : aS} {J : aJ} {K : aR} {n : Nat} {L : aL} {S : List Value} {M : aM} : am_run (c_Nodes_tailOf s_Nodes_isOf) k_Nodes_tailOf J K (n + 1) 9 L S M = ai_aload 0 10 (am_run (c_Nodes_tailOf s_Nodes_isOf) k_Nodes_tailOf J K n) K 9 L S M := by rfl
theorem r_Nodes_tailOf_10 {s_Nodes_isOf : aS} {J : aJ} {K : aR} {n : Nat} {L : aL} {S : List Value} {M : aM} : am_run (c_Nodes_tailOf s_Nodes_isOf) k_Nodes_tailOf J K (n + 1) 10 L S M = ai_getf 0 4 13 (am_run (c_Nodes_tailOf s_Nodes_isOf) k_Nodes_tailOf J K n) K 10 L S M := by rfl
theorem r_Nodes_tailOf_13 {s_Nodes_isOf : aS} {J : aJ} {K : aR} {n : Nat} {L : aL} {S : List Value} {M : aM} : am_run (c_Nodes_tailOf s_Nodes_isOf) k_Nodes_tailOf J K (n + 1) 13 L S M = ai_iload 1 14 (am_run (c_Nodes_tailOf s_Nodes_isOf) k_Nodes_tailOf J K n) K 13 L S M := by rfl
theorem r_Nodes_tailOf_14 {s_Nodes_isOf : aS} {J : aJ} {K : aR} {n : Nat} {L : aL} {S : List Value} {M : aM} : am_run (c_Nodes_tailOf s_Nodes_isOf) k_Nodes_tailOf J K (n + 1) 14 L S M = ai_iald 15 (am_run (c_Nodes_tailOf s_Nodes_isOf) k_Nodes_tailOf J K n) K 14 L S M := by rfl
theorem r_Nodes_tailOf_15 {s_Nodes_isOf : aS} {J : aJ} {K : aR} {n : Nat} {L : aL} {S : List Value} {M : aM} : am_run (c_Nodes_tailOf s_Nodes_isOf) k_Nodes_tailOf J K (n + 1) 15 L S M = ai_goto 19 (am_run (c_Nodes_tailOf s_Nodes_isOf) k_Nodes_tailOf J K n) K 15 L S M := by rfl
theorem r_Nodes_tailOf_18 {s_Nodes_isOf : aS} {J : aJ} {K : aR} {n : Nat} {L : aL} {S : List Value} {M : aM} : am_run (c_Nodes_tailOf s_Nodes_isOf) k_Nodes_tailOf J K (n + 1) 18 L S M = ai_const (-1) 19 (am_run (c_Nodes_tailOf s_Nodes_isOf) k_Nodes_tailOf J K n) K 18 L S M := by rfl
theorem r_Nodes_tailOf_19 {s_Nodes_isOf : aS} {J : aJ} {K : aR} {n : Nat} {L : aL} {S : List Value} {M : aM} : am_run (c_Nodes_tailOf s_Nodes_isOf) k_Nodes_tailOf J K (n + 1) 19 L S M = ai_iret (am_run (c_Nodes_tailOf s_Nodes_isOf) k_Nodes_tailOf J K n) K 19 L S M := by rfl
def c_Nodes_alike (s_Nodes_isOf : aS) (s_Nodes_kindOf : aS) (s_Nodes_sameContent : aS) (s_Nodes_alike : aS) : List (Nat × aI) := [
  (0, ai_iload 3 1),
  (1, ai_const 15 3),
  (3, ai_cmple 8 6),
  (6, ai_const 0 7),
  (7, ai_zret),
  (8, ai_iload 1 9),
  (9, ai_istore 4 11),
  (11, ai_iload 2 12),
  (12, ai_istore 5 14),
  (14, ai_const 0 15),
  (15, ai_istore 6 17),
  (17, ai_iload 6 19),
  (19, ai_const 200 22),
  (22, ai_cmpge 127 25),
  (25, ai_aload 0 26),
  (26, ai_iload 4 28),
  (28, ai_const 4 29),
  (29, ai_callv3 0 s_Nodes_isOf 32),
  (32, ai_ifeq 45 35),
  (35, ai_aload 0 36),
  (36, ai_iload 5 38),
  (38, ai_const 4 39),
  (39, ai_callv3 0 s_Nodes_isOf 42),
  (42, ai_ifne 77 45),
  (45, ai_aload 0 46),
  (46, ai_iload 4 48),
  (48, ai_callv2 0 s_Nodes_kindOf 51),
  (51, ai_aload 0 52),
  (52, ai_iload 5 54),
  (54, ai_callv2 0 s_Nodes_kindOf 57),
  (57, ai_cmpne 75 60),
  (60, ai_aload 0 61),
  (61, ai_iload 4 63),
  (63, ai_iload 5 65),
  (65, ai_callv3 0 s_Nodes_sameContent 68),
  (68, ai_ifeq 75 71),
  (71, ai_const 1 72),
  (72, ai_goto 76),
  (75, ai_const 0 76),
  (76, ai_zret),
  (77, ai_aload 0 78),
  (78, ai_aload 0 79),
  (79, ai_getf 0 3 82),
  (82, ai_iload 4 84),
  (84, ai_iald 85),
  (85, ai_aload 0 86),
  (86, ai_getf 0 3 89),
  (89, ai_iload 5 91),
  (91, ai_iald 92),
  (92, ai_iload 3 93),
  (93, ai_const 1 94),
  (94, ai_iadd 95),
  (95, ai_callv4 0 s_Nodes_alike 98),
  (98, ai_ifne 103 101),
  (101, ai_const 0 102),
  (102, ai_zret),
  (103, ai_aload 0 104),
  (104, ai_getf 0 4 107),
  (107, ai_iload 4 109),
  (109, ai_iald 110),
  (110, ai_istore 4 112),
  (112, ai_aload 0 113),
  (113, ai_getf 0 4 116),
  (116, ai_iload 5 118),
  (118, ai_iald 119),
  (119, ai_istore 5 121),
  (121, ai_iinc 6 1 124),
  (124, ai_goto 17),
  (127, ai_const 0 128),
  (128, ai_zret)]
set_option maxRecDepth 100000 in
set_option maxHeartbeats 4000000 in
theorem tb_Nodes_alike {G : aG} {d : Nat} {s_Nodes_isOf : aS} {d_Nodes_isOf : Nat} (h_Nodes_isOf : am_Sp G Y_Nodes_isOf d_Nodes_isOf s_Nodes_isOf) (l_Nodes_isOf : d_Nodes_isOf < d) {s_Nodes_kindOf : aS} {d_Nodes_kindOf : Nat} (h_Nodes_kindOf : am_Sp G Y_Nodes_kindOf d_Nodes_kindOf s_Nodes_kindOf) (l_Nodes_kindOf : d_Nodes_kindOf < d) {s_Nodes_sameContent : aS} {d_Nodes_sameContent : Nat} (h_Nodes_sameContent : am_Sp G Y_Nodes_sameContent d_Nodes_sameContent s_Nodes_sameContent) (l_Nodes_sameContent : d_Nodes_sameContent < d) {s_Nodes_alike : aS} {d_Nodes_alike : Nat} (h_Nodes_alike : am_Sp G Y_Nodes_alike d_Nodes_alike s_Nodes_alike) (l_Nodes_alike : d_Nodes_alike < d) : am_tab G Y_Nodes_alike d (c_Nodes_alike s_Nodes_isOf s_Nodes_kindOf s_Nodes_sameContent s_Nodes_alike) := by
  intro K p e s m args below meth c C
  exact ⟨as_iload_n C (pc := 0) (q := 3) (by decide +kernel) rfl rfl,
    as_bipush C (pc := 1) (n := 15) (by decide +kernel) (by decide +kernel) rfl,
    as_cmple C (pc := 3) (off := 5) (by decide +kernel) (by decide) rfl,
    as_iconst C (pc := 6) (n := 0) (by decide +kernel) (by decide +kernel) rfl,
    as_zret C (pc := 7) rfl (by decide +kernel),
    as_iload_n C (pc := 8) (q := 1) (by decide +kernel) rfl rfl,
    as_istore C (pc := 9) (k := 4) (by decide +kernel) (by decide) rfl,
    as_iload_n C (pc := 11) (q := 2) (by decide +kernel) rfl rfl,
    as_istore C (pc := 12) (k := 5) (by decide +kernel) (by decide) rfl,
    as_iconst C (pc := 14) (n := 0) (by decide +kernel) (by decide +kernel) rfl,
    as_istore C (pc := 15) (k := 6) (by decide +kernel) (by decide) rfl,
    as_iload C (pc := 17) (k := 6) (by decide +kernel) rfl,
    as_sipush C (pc := 19) (n := 200) (by decide +kernel) (by decide +kernel) rfl,
    as_cmpge C (pc := 22) (off := 105) (by decide +kernel) (by decide) rfl,
    as_aload_n C (pc := 25) (q := 0) (by decide +kernel) rfl rfl,
    as_iload C (pc := 26) (k := 4) (by decide +kernel) rfl,
    as_iconst C (pc := 28) (n := 4) (by decide +kernel) (by decide +kernel) rfl,
    as_callv3 C (pc := 29) h_Nodes_isOf (T := T_Nodes) (N := 10) rfl w_421 w_72 w_420 w_36 w_418 hy_Nodes_isOf (am_rm_of l_Nodes_isOf (by decide)) (by decide +kernel) rfl,
    as_ifeq C (pc := 32) (off := 13) (by decide +kernel) (by decide) rfl,
    as_aload_n C (pc := 35) (q := 0) (by decide +kernel) rfl rfl,
    as_iload C (pc := 36) (k := 5) (by decide +kernel) rfl,
    as_iconst C (pc := 38) (n := 4) (by decide +kernel) (by decide +kernel) rfl,
    as_callv3 C (pc := 39) h_Nodes_isOf (T := T_Nodes) (N := 10) rfl w_421 w_72 w_420 w_36 w_418 hy_Nodes_isOf (am_rm_of l_Nodes_isOf (by decide)) (by decide +kernel) rfl,
    as_ifne C (pc := 42) (off := 35) (by decide +kernel) (by decide) rfl,
    as_aload_n C (pc := 45) (q := 0) (by decide +kernel) rfl rfl,
    as_iload C (pc := 46) (k := 4) (by decide +kernel) rfl,
    as_callv2 C (pc := 48) h_Nodes_kindOf (T := T_Nodes) (N := 10) rfl w_401 w_72 w_400 w_33 w_443 hy_Nodes_kindOf (am_rm_of l_Nodes_kindOf (by decide)) (by decide +kernel) rfl,
    as_aload_n C (pc := 51) (q := 0) (by decide +kernel) rfl rfl,
    as_iload C (pc := 52) (k := 5) (by decide +kernel) rfl,
    as_callv2 C (pc := 54) h_Nodes_kindOf (T := T_Nodes) (N := 10) rfl w_401 w_72 w_400 w_33 w_443 hy_Nodes_kindOf (am_rm_of l_Nodes_kindOf (by decide)) (by decide +kernel) rfl,
    as_cmpne C (pc := 57) (off := 18) (by decide +kernel) (by decide) rfl,
    as_aload_n C (pc := 60) (q := 0) (by decide +kernel) rfl rfl,
    as_iload C (pc := 61) (k := 4) (by decide +kernel) rfl,
    as_iload C (pc := 63) (k := 5) (by decide +kernel) rfl,
    as_callv3 C (pc := 65) h_Nodes_sameContent (T := T_Nodes) (N := 10) rfl w_447 w_72 w_446 w_40 w_444 hy_Nodes_sameContent (am_rm_of l_Nodes_sameContent (by decide)) (by decide +kernel) rfl,
    as_ifeq C (pc := 68) (off := 7) (by decide +kernel) (by decide) rfl,
    as_iconst C (pc := 71) (n := 1) (by decide +kernel) (by decide +kernel) rfl,
    as_goto C (pc := 72) (off := 4) (by decide +kernel) (by decide),
    as_iconst C (pc := 75) (n := 0) (by decide +kernel) (by decide +kernel) rfl,
    as_zret C (pc := 76) rfl (by decide +kernel),
    as_aload_n C (pc := 77) (q := 0) (by decide +kernel) rfl rfl,
    as_aload_n C (pc := 78) (q := 0) (by decide +kernel) rfl rfl,
    as_getf C (pc := 79) (T := T_Nodes) (N := 10) rfl in_Nodes (by decide) rfl w_121 (by decide +kernel) rfl,
    as_iload C (pc := 82) (k := 4) (by decide +kernel) rfl,
    as_iald C (pc := 84) (by decide +kernel) rfl,
    as_aload_n C (pc := 85) (q := 0) (by decide +kernel) rfl rfl,
    as_getf C (pc := 86) (T := T_Nodes) (N := 10) rfl in_Nodes (by decide) rfl w_121 (by decide +kernel) rfl,
    as_iload C (pc := 89) (k := 5) (by decide +kernel) rfl,
    as_iald C (pc := 91) (by decide +kernel) rfl,
    as_iload_n C (pc := 92) (q := 3) (by decide +kernel) rfl rfl,
    as_iconst C (pc := 93) (n := 1) (by decide +kernel) (by decide +kernel) rfl,
    as_iadd C (pc := 94) (by decide +kernel) rfl,
    as_callv4 C (pc := 95) h_Nodes_alike (T := T_Nodes) (N := 10) rfl w_442 w_72 w_441 w_39 w_450 hy_Nodes_alike (am_rm_of l_Nodes_alike (by decide)) (by decide +kernel) rfl,
    as_ifne C (pc := 98) (off := 5) (by decide +kernel) (by decide) rfl,
    as_iconst C (pc := 101) (n := 0) (by decide +kernel) (by decide +kernel) rfl,
    as_zret C (pc := 102) rfl (by decide +kernel),
    as_aload_n C (pc := 103) (q := 0) (by decide +kernel) rfl rfl,
    as_getf C (pc := 104) (T := T_Nodes) (N := 10) rfl in_Nodes (by decide) rfl w_122 (by decide +kernel) rfl,
    as_iload C (pc := 107) (k := 4) (by decide +kernel) rfl,
    as_iald C (pc := 109) (by decide +kernel) rfl,
    as_istore C (pc := 110) (k := 4) (by decide +kernel) (by decide) rfl,
    as_aload_n C (pc := 112) (q := 0) (by decide +kernel) rfl rfl,
    as_getf C (pc := 113) (T := T_Nodes) (N := 10) rfl in_Nodes (by decide) rfl w_122 (by decide +kernel) rfl,
    as_iload C (pc := 116) (k := 5) (by decide +kernel) rfl,
    as_iald C (pc := 118) (by decide +kernel) rfl,
    as_istore C (pc := 119) (k := 5) (by decide +kernel) (by decide) rfl,
    as_iinc C (pc := 121) (k := 6) (n := 1) (by decide +kernel) (by decide +kernel) (by decide) rfl,
    as_goto C (pc := 124) (off := (-107)) (by decide +kernel) (by decide),
    as_iconst C (pc := 127) (n := 0) (by decide +kernel) (by decide +kernel) rfl,
    as_zret C (pc := 128) rfl (by decide +kernel), trivial⟩
abbrev k_Nodes_alike : List Nat := [17]
set_option maxRecDepth 20000 in
theorem q_Nodes_alike_17 {s_Nodes_isOf : aS} {s_Nodes_kindOf : aS} {s_Nodes_sameContent : aS} {s_Nodes_alike : aS} : am_at (c_Nodes_alike s_Nodes_isOf s_Nodes_kindOf s_Nodes_sameContent s_Nodes_alike) 17 = ai_iload 6 19 := by rfl
set_option maxRecDepth 20000 in
theorem r_Nodes_alike_0 {s_Nodes_isOf : aS} {s_Nodes_kindOf : aS} {s_Nodes_sameContent : aS} {s_Nodes_alike : aS} {J : aJ} {K : aR} {n : Nat} {L : aL} {S : List Value} {M : aM} : am_run (c_Nodes_alike s_Nodes_isOf s_Nodes_kindOf s_Nodes_sameContent s_Nodes_alike) k_Nodes_alike J K (n + 1) 0 L S M = ai_iload 3 1 (am_run (c_Nodes_alike s_Nodes_isOf s_Nodes_kindOf s_Nodes_sameContent s_Nodes_alike) k_Nodes_alike J K n) K 0 L S M := by rfl
set_option maxRecDepth 20000 in
theorem r_Nodes_alike_1 {s_Nodes_isOf : aS} {s_Nodes_kindOf : aS} {s_Nodes_sameContent : aS} {s_Nodes_alike : aS} {J : aJ} {K : aR} {n : Nat} {L : aL} {S : List Value} {M : aM} : am_run (c_Nodes_alike s_Nodes_isOf s_Nodes_kindOf s_Nodes_sameContent s_Nodes_alike) k_Nodes_alike J K (n + 1) 1 L S M = ai_const 15 3 (am_run (c_Nodes_alike s_Nodes_isOf s_Nodes_kindOf s_Nodes_sameContent s_Nodes_alike) k_Nodes_alike J K n) K 1 L S M := by rfl
set_option maxRecDepth 20000 in
theorem r_Nodes_alike_3 {s_Nodes_isOf : aS} {s_Nodes_kindOf : aS} {s_Nodes_sameContent : aS} {s_Nodes_alike : aS} {J : aJ} {K : aR} {n : Nat} {L : aL} {S : List Value} {M : aM} : am_run (c_Nodes_alike s_Nodes_isOf s_Nodes_kindOf s_Nodes_sameContent s_Nodes_alike) k_Nodes_alike J K (n + 1) 3 L S M = ai_cmple 8 6 (am_run (c_Nodes_alike s_Nodes_isOf s_Nodes_kindOf s_Nodes_sameContent s_Nodes_alike) k_Nodes_alike J K n) K 3 L S M := by rfl
set_option maxRecDepth 20000 in
theorem r_Nodes_alike_6 {s_Nodes_isOf : aS} {s_Nodes_kindOf : aS} {s_Nodes_sameContent : aS} {s_Nodes_alike : aS} {J : aJ} {K : aR} {n : Nat} {L : aL} {S : List Value} {M : aM} : am_run (c_Nodes_alike s_Nodes_isOf s_Nodes_kindOf s_Nodes_sameContent s_Nodes_alike) k_Nodes_alike J K (n + 1) 6 L S M = ai_const 0 7 (am_run (c_Nodes_alike s_Nodes_isOf s_Nodes_kindOf s_Nodes_sameContent s_Nodes_alike) k_Nodes_alike J K n) K 6 L S M := by rfl
set_option maxRecDepth 20000 in
theorem r_Nodes_alike_7 {s_Nodes_isOf : aS} {s_Nodes_kindOf : aS} {s_Nodes_sameContent : aS} {s_Nodes_alike : aS} {J : aJ} {K : aR} {n : Nat} {L : aL} {S : List Value} {M : aM} : am_run (c_Nodes_alike s_Nodes_isOf s_Nodes_kindOf s_Nodes_sameContent s_Nodes_alike) k_Nodes_alike J K (n + 1) 7 L S M = ai_zret (am_run (c_Nodes_alike s_Nodes_isOf s_Nodes_kindOf s_Nodes_sameContent s_Nodes_alike) k_Nodes_alike J K n) K 7 L S M := by rfl
set_option maxRecDepth 20000 in
theorem r_Nodes_alike_8 {s_Nodes_isOf : aS} {s_Nodes_kindOf : aS} {s_Nodes_sameContent : aS} {s_Nodes_alike : aS} {J : aJ} {K : aR} {n : Nat} {L : aL} {S : List Value} {M : aM} : am_run (c_Nodes_alike s_Nodes_isOf s_Nodes_kindOf s_Nodes_sameContent s_Nodes_alike) k_Nodes_alike J K (n + 1) 8 L S M = ai_iload 1 9 (am_run (c_Nodes_alike s_Nodes_isOf s_Nodes_kindOf s_Nodes_sameContent s_Nodes_alike) k_Nodes_alike J K n) K 8 L S M := by rfl
set_option maxRecDepth 20000 in
theorem r_Nodes_alike_9 {s_Nodes_isOf : aS} {s_Nodes_kindOf : aS} {s_Nodes_sameContent : aS} {s_Nodes_alike : aS} {J : aJ} {K : aR} {n : Nat} {L : aL} {S : List Value} {M : aM} : am_run (c_Nodes_alike s_Nodes_isOf s_Nodes_kindOf s_Nodes_sameContent s_Nodes_alike) k_Nodes_alike J K (n + 1) 9 L S M = ai_istore 4 11 (am_run (c_Nodes_alike s_Nodes_isOf s_Nodes_kindOf s_Nodes_sameContent s_Nodes_alike) k_Nodes_alike J K n) K 9 L S M := by rfl
set_option maxRecDepth 20000 in
theorem r_Nodes_alike_11 {s_Nodes_isOf : aS} {s_Nodes_kindOf : aS} {s_Nodes_sameContent : aS} {s_Nodes_alike : aS} {J : aJ} {K : aR} {n : Nat} {L : aL} {S : List Value} {M : aM} : am_run (c_Nodes_alike s_Nodes_isOf s_Nodes_kindOf s_Nodes_sameContent s_Nodes_alike) k_Nodes_alike J K (n + 1) 11 L S M = ai_iload 2 12 (am_run (c_Nodes_alike s_Nodes_isOf s_Nodes_kindOf s_Nodes_sameContent s_Nodes_alike) k_Nodes_alike J K n) K 11 L S M := by rfl
set_option maxRecDepth 20000 in
theorem r_Nodes_alike_12 {s_Nodes_isOf : aS} {s_Nodes_kindOf : aS} {s_Nodes_sameContent : aS} {s_Nodes_alike : aS} {J : aJ} {K : aR} {n : Nat} {L : aL} {S : List Value} {M : aM} : am_run (c_Nodes_alike s_Nodes_isOf s_Nodes_kindOf s_Nodes_sameContent s_Nodes_alike) k_Nodes_alike J K (n + 1) 12 L S M = ai_istore 5 14 (am_run (c_Nodes_alike s_Nodes_isOf s_Nodes_kindOf s_Nodes_sameContent s_Nodes_alike) k_Nodes_alike J K n) K 12 L S M := by rfl
set_option maxRecDepth 20000 in
theorem r_Nodes_alike_14 {s_Nodes_isOf : aS} {s_Nodes_kindOf : aS} {s_Nodes_sameContent : aS} {s_Nodes_alike : aS} {J : aJ} {K : aR} {n : Nat} {L : aL} {S : List Value} {M : aM} : am_run (c_Nodes_alike s_Nodes_isOf s_Nodes_kindOf s_Nodes_sameContent s_Nodes_alike) k_Nodes_alike J K (n + 1) 14 L S M = ai_const 0 15 (am_run (c_Nodes_alike s_Nodes_isOf s_Nodes_kindOf s_Nodes_sameContent s_Nodes_alike) k_Nodes_alike J K n) K 14 L S M := by rfl
set_option maxRecDepth 20000 in
theorem r_Nodes_alike_15 {s_Nodes_isOf : aS} {s_Nodes_kindOf : aS} {s_Nodes_sameContent : aS} {s_Nodes_alike : aS} {J : aJ} {K : aR} {n : Nat} {L : aL} {S : List Value} {M : aM} : am_run (c_Nodes_alike s_Nodes_isOf s_Nodes_kindOf s_Nodes_sameContent s_Nodes_alike) k_Nodes_alike J K (n + 1) 15 L S M = ai_istore 6 17 (am_run (c_Nodes_alike s_Nodes_isOf s_Nodes_kindOf s_Nodes_sameContent s_Nodes_alike) k_Nodes_alike J K n) K 15 L S M := by rfl
set_option maxRecDepth 20000 in
theorem r_Nodes_alike_17 {s_Nodes_isOf : aS} {s_Nodes_kindOf : aS} {s_Nodes_sameContent : aS} {s_Nodes_alike : aS} {J : aJ} {K : aR} {n : Nat} {L : aL} {S : List Value} {M : aM} : am_run (c_Nodes_alike s_Nodes_isOf s_Nodes_kindOf s_Nodes_sameContent s_Nodes_alike) k_Nodes_alike J K (n + 1) 17 L S M = J 17 L S M := by rfl
set_option maxRecDepth 20000 in
theorem r_Nodes_alike_19 {s_Nodes_isOf : aS} {s_Nodes_kindOf : aS} {s_Nodes_sameContent : aS} {s_Nodes_alike : aS} {J : aJ} {K : aR} {n : Nat} {L : aL} {S : List Value} {M : aM} : am_run (c_Nodes_alike s_Nodes_isOf s_Nodes_kindOf s_Nodes_sameContent s_Nodes_alike) k_Nodes_alike J K (n + 1) 19 L S M = ai_const 200 22 (am_run (c_Nodes_alike s_Nodes_isOf s_Nodes_kindOf s_Nodes_sameContent s_Nodes_alike) k_Nodes_alike J K n) K 19 L S M := by rfl
set_option maxRecDepth 20000 in
theorem r_Nodes_alike_22 {s_Nodes_isOf : aS} {s_Nodes_kindOf : aS} {s_Nodes_sameContent : aS} {s_Nodes_alike : aS} {J : aJ} {K : aR} {n : Nat} {L : aL} {S : List Value} {M : aM} : am_run (c_Nodes_alike s_Nodes_isOf s_Nodes_kindOf s_Nodes_sameContent s_Nodes_alike) k_Nodes_alike J K (n + 1) 22 L S M = ai_cmpge 127 25 (am_run (c_Nodes_alike s_Nodes_isOf s_Nodes_kindOf s_Nodes_sameContent s_Nodes_alike) k_Nodes_alike J K n) K 22 L S M := by rfl
set_option maxRecDepth 20000 in
theorem r_Nodes_alike_25 {s_Nodes_isOf : aS} {s_Nodes_kindOf : aS} {s_Nodes_sameContent : aS} {s_Nodes_alike : aS} {J : aJ} {K : aR} {n : Nat} {L : aL} {S : List Value} {M : aM} : am_run (c_Nodes_alike s_Nodes_isOf s_Nodes_kindOf s_Nodes_sameContent s_Nodes_alike) k_Nodes_alike J K (n + 1) 25 L S M = ai_aload 0 26 (am_run (c_Nodes_alike s_Nodes_isOf s_Nodes_kindOf s_Nodes_sameContent s_Nodes_alike) k_Nodes_alike J K n) K 25 L S M := by rfl
set_option maxRecDepth 20000 in
theorem r_Nodes_alike_26 {s_Nodes_isOf : aS} {s_Nodes_kindOf : aS} {s_Nodes_sameContent : aS} {s_Nodes_alike : aS} {J : aJ} {K : aR} {n : Nat} {L : aL} {S : List Value} {M : aM} : am_run (c_Nodes_alike s_Nodes_isOf s_Nodes_kindOf s_Nodes_sameContent s_Nodes_alike) k_Nodes_alike J K (n + 1) 26 L S M = ai_iload 4 28 (am_run (c_Nodes_alike s_Nodes_isOf s_Nodes_kindOf s_Nodes_sameContent s_Nodes_alike) k_Nodes_alike J K n) K 26 L S M := by rfl
set_option maxRecDepth 20000 in
theorem r_Nodes_alike_28 {s_Nodes_isOf : aS} {s_Nodes_kindOf : aS} {s_Nodes_sameContent : aS} {s_Nodes_alike : aS} {J : aJ} {K : aR} {n : Nat} {L : aL} {S : List Value} {M : aM} : am_run (c_Nodes_alike s_Nodes_isOf s_Nodes_kindOf s_Nodes_sameContent s_Nodes_alike) k_Nodes_alike J K (n + 1) 28 L S M = ai_const 4 29 (am_run (c_Nodes_alike s_Nodes_isOf s_Nodes_kindOf s_Nodes_sameContent s_Nodes_alike) k_Nodes_alike J K n) K 28 L S M := by rfl
set_option maxRecDepth 20000 in
theorem r_Nodes_alike_29 {s_Nodes_isOf : aS} {s_Nodes_kindOf : aS} {s_Nodes_sameContent : aS} {s_Nodes_alike : aS} {J : aJ} {K : aR} {n : Nat} {L : aL} {S : List Value} {M : aM} : am_run (c_Nodes_alike s_Nodes_isOf s_Nodes_kindOf s_Nodes_sameContent s_Nodes_alike) k_Nodes_alike J K (n + 1) 29 L S M = ai_callv3 0 s_Nodes_isOf 32 (am_run (c_Nodes_alike s_Nodes_isOf s_Nodes_kindOf s_Nodes_sameContent s_Nodes_alike) k_Nodes_alike J K n) K 29 L S M := by rfl
set_option maxRecDepth 20000 in
theorem r_Nodes_alike_32 {s_Nodes_isOf : aS} {s_Nodes_kindOf : aS} {s_Nodes_sameContent : aS} {s_Nodes_alike : aS} {J : aJ} {K : aR} {n : Nat} {L : aL} {S : List Value} {M : aM} : am_run (c_Nodes_alike s_Nodes_isOf s_Nodes_kindOf s_Nodes_sameContent s_Nodes_alike) k_Nodes_alike J K (n + 1) 32 L S M = ai_ifeq 45 35 (am_run (c_Nodes_alike s_Nodes_isOf s_Nodes_kindOf s_Nodes_sameContent s_Nodes_alike) k_Nodes_alike J K n) K 32 L S M := by rfl
set_option maxRecDepth 20000 in
theorem r_Nodes_alike_35 {s_Nodes_isOf : aS} {s_Nodes_kindOf : aS} {s_Nodes_sameContent : aS} {s_Nodes_alike : aS} {J : aJ} {K : aR} {n : Nat} {L : aL} {S : List Value} {M : aM} : am_run (c_Nodes_alike s_Nodes_isOf s_Nodes_kindOf s_Nodes_sameContent s_Nodes_alike) k_Nodes_alike J K (n + 1) 35 L S M = ai_aload 0 36 (am_run (c_Nodes_alike s_Nodes_isOf s_Nodes_kindOf s_Nodes_sameContent s_Nodes_alike) k_Nodes_alike J K n) K 35 L S M := by rfl
set_option maxRecDepth 20000 in
theorem r_Nodes_alike_36 {s_Nodes_isOf : aS} {s_Nodes_kindOf : aS} {s_Nodes_sameContent : aS} {s_Nodes_alike : aS} {J : aJ} {K : aR} {n : Nat} {L : aL} {S : List Value} {M : aM} : am_run (c_Nodes_alike s_Nodes_isOf s_Nodes_kindOf s_Nodes_sameContent s_Nodes_alike) k_Nodes_alike J K (n + 1) 36 L S M = ai_iload 5 38 (am_run (c_Nodes_alike s_Nodes_isOf s_Nodes_kindOf s_Nodes_sameContent s_Nodes_alike) k_Nodes_alike J K n) K 36 L S M := by rfl
set_option maxRecDepth 20000 in
theorem r_Nodes_alike_38 {s_Nodes_isOf : aS} {s_Nodes_kindOf : aS} {s_Nodes_sameContent : aS} {s_Nodes_alike : aS} {J : aJ} {K : aR} {n : Nat} {L : aL} {S : List Value} {M : aM} : am_run (c_Nodes_alike s_Nodes_isOf s_Nodes_kindOf s_Nodes_sameContent s_Nodes_alike) k_Nodes_alike J K (n + 1) 38 L S M = ai_const 4 39 (am_run (c_Nodes_alike s_Nodes_isOf s_Nodes_kindOf s_Nodes_sameContent s_Nodes_alike) k_Nodes_alike J K n) K 38 L S M := by rfl
set_option maxRecDepth 20000 in
theorem r_Nodes_alike_39 {s_Nodes_isOf : aS} {s_Nodes_kindOf : aS} {s_Nodes_sameContent : aS} {s_Nodes_alike : aS} {J : aJ} {K : aR} {n : Nat} {L : aL} {S : List Value} {M : aM} : am_run (c_Nodes_alike s_Nodes_isOf s_Nodes_kindOf s_Nodes_sameContent s_Nodes_alike) k_Nodes_alike J K (n + 1) 39 L S M = ai_callv3 0 s_Nodes_isOf 42 (am_run (c_Nodes_alike s_Nodes_isOf s_Nodes_kindOf s_Nodes_sameContent s_Nodes_alike) k_Nodes_alike J K n) K 39 L S M := by rfl
set_option maxRecDepth 20000 in
theorem r_Nodes_alike_42 {s_Nodes_isOf : aS} {s_Nodes_kindOf : aS} {s_Nodes_sameContent : aS} {s_Nodes_alike : aS} {J : aJ} {K : aR} {n : Nat} {L : aL} {S : List Value} {M : aM} : am_run (c_Nodes_alike s_Nodes_isOf s_Nodes_kindOf s_Nodes_sameContent s_Nodes_alike) k_Nodes_alike J K (n + 1) 42 L S M = ai_ifne 77 45 (am_run (c_Nodes_alike s_Nodes_isOf s_Nodes_kindOf s_Nodes_sameContent s_Nodes_alike) k_Nodes_alike J K n) K 42 L S M := by rfl
set_option maxRecDepth 20000 in
theorem r_Nodes_alike_45 {s_Nodes_isOf : aS} {s_Nodes_kindOf : aS} {s_Nodes_sameContent : aS} {s_Nodes_alike : aS} {J : aJ} {K : aR} {n : Nat} {L : aL} {S : List Value} {M : aM} : am_run (c_Nodes_alike s_Nodes_isOf s_Nodes_kindOf s_Nodes_sameContent s_Nodes_alike) k_Nodes_alike J K (n + 1) 45 L S M = ai_aload 0 46 (am_run (c_Nodes_alike s_Nodes_isOf s_Nodes_kindOf s_Nodes_sameContent s_Nodes_alike) k_Nodes_alike J K n) K 45 L S M := by rfl
set_option maxRecDepth 20000 in
theorem r_Nodes_alike_46 {s_Nodes_isOf : aS} {s_Nodes_kindOf : aS} {s_Nodes_sameContent : aS} {s_Nodes_alike : aS} {J : aJ} {K : aR} {n : Nat} {L : aL} {S : List Value} {M : aM} : am_run (c_Nodes_alike s_Nodes_isOf s_Nodes_kindOf s_Nodes_sameContent s_Nodes_alike) k_Nodes_alike J K (n + 1) 46 L S M = ai_iload 4 48 (am_run (c_Nodes_alike s_Nodes_isOf s_Nodes_kindOf s_Nodes_sameContent s_Nodes_alike) k_Nodes_alike J K n) K 46 L S M := by rfl
set_option maxRecDepth 20000 in
theorem r_Nodes_alike_48 {s_Nodes_isOf : aS} {s_Nodes_kindOf : aS} {s_Nodes_sameContent : aS} {s_Nodes_alike : aS} {J : aJ} {K : aR} {n : Nat} {L : aL} {S : List Value} {M : aM} : am_run (c_Nodes_alike s_Nodes_isOf s_Nodes_kindOf s_Nodes_sameContent s_Nodes_alike) k_Nodes_alike J K (n + 1) 48 L S M = ai_callv2 0 s_Nodes_kindOf 51 (am_run (c_Nodes_alike s_Nodes_isOf s_Nodes_kindOf s_Nodes_sameContent s_Nodes_alike) k_Nodes_alike J K n) K 48 L S M := by rfl
set_option maxRecDepth 20000 in
theorem r_Nodes_alike_51 {s_Nodes_isOf : aS} {s_Nodes_kindOf : aS} {s_Nodes_sameContent : aS} {s_Nodes_alike : aS} {J : aJ} {K : aR} {n : Nat} {L : aL} {S : List Value} {M : aM} : am_run (c_Nodes_alike s_Nodes_isOf s_Nodes_kindOf s_Nodes_sameContent s_Nodes_alike) k_Nodes_alike J K (n + 1) 51 L S M = ai_aload 0 52 (am_run (c_Nodes_alike s_Nodes_isOf s_Nodes_kindOf s_Nodes_sameContent s_Nodes_alike) k_Nodes_alike J K n) K 51 L S M := by rfl
set_option maxRecDepth 20000 in
theorem r_Nodes_alike_52 {s_Nodes_isOf : aS} {s_Nodes_kindOf : aS} {s_Nodes_sameContent : aS} {s_Nodes_alike : aS} {J : aJ} {K : aR} {n : Nat} {L : aL} {S : List Value} {M : aM} : am_run (c_Nodes_alike s_Nodes_isOf s_Nodes_kindOf s_Nodes_sameContent s_Nodes_alike) k_Nodes_alike J K (n + 1) 52 L S M = ai_iload 5 54 (am_run (c_Nodes_alike s_Nodes_isOf s_Nodes_kindOf s_Nodes_sameContent s_Nodes_alike) k_Nodes_alike J K n) K 52 L S M := by rfl
set_option maxRecDepth 20000 in
theorem r_Nodes_alike_54 {s_Nodes_isOf : aS} {s_Nodes_kindOf : aS} {s_Nodes_sameContent : aS} {s_Nodes_alike : aS} {J : aJ} {K : aR} {n : Nat} {L : aL} {S : List Value} {M : aM} : am_run (c_Nodes_alike s_Nodes_isOf s_Nodes_kindOf s_Nodes_sameContent s_Nodes_alike) k_Nodes_alike J K (n + 1) 54 L S M = ai_callv2 0 s_Nodes_kindOf 57 (am_run (c_Nodes_alike s_Nodes_isOf s_Nodes_kindOf s_Nodes_sameContent s_Nodes_alike) k_Nodes_alike J K n) K 54 L S M := by rfl
set_option maxRecDepth 20000 in
theorem r_Nodes_alike_57 {s_Nodes_isOf : aS} {s_Nodes_kindOf : aS} {s_Nodes_sameContent : aS} {s_Nodes_alike : aS} {J : aJ} {K : aR} {n : Nat} {L : aL} {S : List Value} {M : aM} : am_run (c_Nodes_alike s_Nodes_isOf s_Nodes_kindOf s_Nodes_sameContent s_Nodes_alike) k_Nodes_alike J K (n + 1) 57 L S M = ai_cmpne 75 60 (am_run (c_Nodes_alike s_Nodes_isOf s_Nodes_kindOf s_Nodes_sameContent s_Nodes_alike) k_Nodes_alike J K n) K 57 L S M := by rfl
set_option maxRecDepth 20000 in
theorem r_Nodes_alike_60 {s_Nodes_isOf : aS} {s_Nodes_kindOf : aS} {s_Nodes_sameContent : aS} {s_Nodes_alike : aS} {J : aJ} {K : aR} {n : Nat} {L : aL} {S : List Value} {M : aM} : am_run (c_Nodes_alike s_Nodes_isOf s_Nodes_kindOf s_Nodes_sameContent s_Nodes_alike) k_Nodes_alike J K (n + 1) 60 L S M = ai_aload 0 61 (am_run (c_Nodes_alike s_Nodes_isOf s_Nodes_kindOf s_Nodes_sameContent s_Nodes_alike) k_Nodes_alike J K n) K 60 L S M := by rfl
set_option maxRecDepth 20000 in
theorem r_Nodes_alike_61 {s_Nodes_isOf : aS} {s_Nodes_kindOf : aS} {s_Nodes_sameContent : aS} {s_Nodes_alike : aS} {J : aJ} {K : aR} {n : Nat} {L : aL} {S : List Value} {M : aM} : am_run (c_Nodes_alike s_Nodes_isOf s_Nodes_kindOf s_Nodes_sameContent s_Nodes_alike) k_Nodes_alike J K (n + 1) 61 L S M = ai_iload 4 63 (am_run (c_Nodes_alike s_Nodes_isOf s_Nodes_kindOf s_Nodes_sameContent s_Nodes_alike) k_Nodes_alike J K n) K 61 L S M := by rfl
set_option maxRecDepth 20000 in
theorem r_Nodes_alike_63 {s_Nodes_isOf : aS} {s_Nodes_kindOf : aS} {s_Nodes_sameContent : aS} {s_Nodes_alike : aS} {J : aJ} {K : aR} {n : Nat} {L : aL} {S : List Value} {M : aM} : am_run (c_Nodes_alike s_Nodes_isOf s_Nodes_kindOf s_Nodes_sameContent s_Nodes_alike) k_Nodes_alike J K (n + 1) 63 L S M = ai_iload 5 65 (am_run (c_Nodes_alike s_Nodes_isOf s_Nodes_kindOf s_Nodes_sameContent s_Nodes_alike) k_Nodes_alike J K n) K 63 L S M := by rfl
set_option maxRecDepth 20000 in
theorem r_Nodes_alike_65 {s_Nodes_isOf : aS} {s_Nodes_kindOf : aS} {s_Nodes_sameContent : aS} {s_Nodes_alike : aS} {J : aJ} {K : aR} {n : Nat} {L : aL} {S : List Value} {M : aM} : am_run (c_Nodes_alike s_Nodes_isOf s_Nodes_kindOf s_Nodes_sameContent s_Nodes_alike) k_Nodes_alike J K (n + 1) 65 L S M = ai_callv3 0 s_Nodes_sameContent 68 (am_run (c_Nodes_alike s_Nodes_isOf s_Nodes_kindOf s_Nodes_sameContent s_Nodes_alike) k_Nodes_alike J K n) K 65 L S M := by rfl
set_option maxRecDepth 20000 in
theorem r_Nodes_alike_68 {s_Nodes_isOf : aS} {s_Nodes_kindOf : aS} {s_Nodes_sameContent : aS} {s_Nodes_alike : aS} {J : aJ} {K : aR} {n : Nat} {L : aL} {S : List Value} {M : aM} : am_run (c_Nodes_alike s_Nodes_isOf s_Nodes_kindOf s_Nodes_sameContent s_Nodes_alike) k_Nodes_alike J K (n + 1) 68 L S M = ai_ifeq 75 71 (am_run (c_Nodes_alike s_Nodes_isOf s_Nodes_kindOf s_Nodes_sameContent s_Nodes_alike) k_Nodes_alike J K n) K 68 L S M := by rfl
set_option maxRecDepth 20000 in
theorem r_Nodes_alike_71 {s_Nodes_isOf : aS} {s_Nodes_kindOf : aS} {s_Nodes_sameContent : aS} {s_Nodes_alike : aS} {J : aJ} {K : aR} {n : Nat} {L : aL} {S : List Value} {M : aM} : am_run (c_Nodes_alike s_Nodes_isOf s_Nodes_kindOf s_Nodes_sameContent s_Nodes_alike) k_Nodes_alike J K (n + 1) 71 L S M = ai_const 1 72 (am_run (c_Nodes_alike s_Nodes_isOf s_Nodes_kindOf s_Nodes_sameContent s_Nodes_alike) k_Nodes_alike J K n) K 71 L S M := by rfl
set_option maxRecDepth 20000 in
theorem r_Nodes_alike_72 {s_Nodes_isOf : aS} {s_Nodes_kindOf : aS} {s_Nodes_sameContent : aS} {s_Nodes_alike : aS} {J : aJ} {K : aR} {n : Nat} {L : aL} {S : List Value} {M : aM} : am_run (c_Nodes_alike s_Nodes_isOf s_Nodes_kindOf s_Nodes_sameContent s_Nodes_alike) k_Nodes_alike J K (n + 1) 72 L S M = ai_goto 76 (am_run (c_Nodes_alike s_Nodes_isOf s_Nodes_kindOf s_Nodes_sameContent s_Nodes_alike) k_Nodes_alike J K n) K 72 L S M := by rfl
set_option maxRecDepth 20000 in
theorem r_Nodes_alike_75 {s_Nodes_isOf : aS} {s_Nodes_kindOf : aS} {s_Nodes_sameContent : aS} {s_Nodes_alike : aS} {J : aJ} {K : aR} {n : Nat} {L : aL} {S : List Value} {M : aM} : am_run (c_Nodes_alike s_Nodes_isOf s_Nodes_kindOf s_Nodes_sameContent s_Nodes_alike) k_Nodes_alike J K (n + 1) 75 L S M = ai_const 0 76 (am_run (c_Nodes_alike s_Nodes_isOf s_Nodes_kindOf s_Nodes_sameContent s_Nodes_alike) k_Nodes_alike J K n) K 75 L S M := by rfl
set_option maxRecDepth 20000 in
theorem r_Nodes_alike_76 {s_Nodes_isOf : aS} {s_Nodes_kindOf : aS} {s_Nodes_sameContent : aS} {s_Nodes_alike : aS} {J : aJ} {K : aR} {n : Nat} {L : aL} {S : List Value} {M : aM} : am_run (c_Nodes_alike s_Nodes_isOf s_Nodes_kindOf s_Nodes_sameContent s_Nodes_alike) k_Nodes_alike J K (n + 1) 76 L S M = ai_zret (am_run (c_Nodes_alike s_Nodes_isOf s_Nodes_kindOf s_Nodes_sameContent s_Nodes_alike) k_Nodes_alike J K n) K 76 L S M := by rfl
set_option maxRecDepth 20000 in
theorem r_Nodes_alike_77 {s_Nodes_isOf : aS} {s_Nodes_kindOf : aS} {s_Nodes_sameContent : aS} {s_Nodes_alike : aS} {J : aJ} {K : aR} {n : Nat} {L : aL} {S : List Value} {M : aM} : am_run (c_Nodes_alike s_Nodes_isOf s_Nodes_kindOf s_Nodes_sameContent s_Nodes_alike) k_Nodes_alike J K (n + 1) 77 L S M = ai_aload 0 78 (am_run (c_Nodes_alike s_Nodes_isOf s_Nodes_kindOf s_Nodes_sameContent s_Nodes_alike) k_Nodes_alike J K n) K 77 L S M := by rfl
set_option maxRecDepth 20000 in
theorem r_Nodes_alike_78 {s_Nodes_isOf : aS} {s_Nodes_kindOf : aS} {s_Nodes_sameContent : aS} {s_Nodes_alike : aS} {J : aJ} {K : aR} {n : Nat} {L : aL} {S : List Value} {M : aM} : am_run (c_Nodes_alike s_Nodes_isOf s_Nodes_kindOf s_Nodes_sameContent s_Nodes_alike) k_Nodes_alike J K (n + 1) 78 L S M = ai_aload 0 79 (am_run (c_Nodes_alike s_Nodes_isOf s_Nodes_kindOf s_Nodes_sameContent s_Nodes_alike) k_Nodes_alike J K n) K 78 L S M := by rfl
set_option maxRecDepth 20000 in
theorem r_Nodes_alike_79 {s_Nodes_isOf : aS} {s_Nodes_kindOf : aS} {s_Nodes_sameContent : aS} {s_Nodes_alike : aS} {J : aJ} {K : aR} {n : Nat} {L : aL} {S : List Value} {M : aM} : am_run (c_Nodes_alike s_Nodes_isOf s_Nodes_kindOf s_Nodes_sameContent s_Nodes_alike) k_Nodes_alike J K (n + 1) 79 L S M = ai_getf 0 3 82 (am_run (c_Nodes_alike s_Nodes_isOf s_Nodes_kindOf s_Nodes_sameContent s_Nodes_alike) k_Nodes_alike J K n) K 79 L S M := by rfl
set_option maxRecDepth 20000 in
theorem r_Nodes_alike_82 {s_Nodes_isOf : aS} {s_Nodes_kindOf : aS} {s_Nodes_sameContent : aS} {s_Nodes_alike : aS} {J : aJ} {K : aR} {n : Nat} {L : aL} {S : List Value} {M : aM} : am_run (c_Nodes_alike s_Nodes_isOf s_Nodes_kindOf s_Nodes_sameContent s_Nodes_alike) k_Nodes_alike J K (n + 1) 82 L S M = ai_iload 4 84 (am_run (c_Nodes_alike s_Nodes_isOf s_Nodes_kindOf s_Nodes_sameContent s_Nodes_alike) k_Nodes_alike J K n) K 82 L S M := by rfl
set_option maxRecDepth 20000 in
theorem r_Nodes_alike_84 {s_Nodes_isOf : aS} {s_Nodes_kindOf : aS} {s_Nodes_sameContent : aS} {s_Nodes_alike : aS} {J : aJ} {K : aR} {n : Nat} {L : aL} {S : List Value} {M : aM} : am_run (c_Nodes_alike s_Nodes_isOf s_Nodes_kindOf s_Nodes_sameContent s_Nodes_alike) k_Nodes_alike J K (n + 1) 84 L S M = ai_iald 85 (am_run (c_Nodes_alike s_Nodes_isOf s_Nodes_kindOf s_Nodes_sameContent s_Nodes_alike) k_Nodes_alike J K n) K 84 L S M := by rfl
set_option maxRecDepth 20000 in
theorem r_Nodes_alike_85 {s_Nodes_isOf : aS} {s_Nodes_kindOf : aS} {s_Nodes_sameContent : aS} {s_Nodes_alike : aS} {J : aJ} {K : aR} {n : Nat} {L : aL} {S : List Value} {M : aM} : am_run (c_Nodes_alike s_Nodes_isOf s_Nodes_kindOf s_Nodes_sameContent s_Nodes_alike) k_Nodes_alike J K (n + 1) 85 L S M = ai_aload 0 86 (am_run (c_Nodes_alike s_Nodes_isOf s_Nodes_kindOf s_Nodes_sameContent s_Nodes_alike) k_Nodes_alike J K n) K 85 L S M := by rfl
set_option maxRecDepth 20000 in
theorem r_Nodes_alike_86 {s_Nodes_isOf : aS} {s_Nodes_kindOf : aS} {s_Nodes_sameContent : aS} {s_Nodes_alike : aS} {J : aJ} {K : aR} {n : Nat} {L : aL} {S : List Value} {M : aM} : am_run (c_Nodes_alike s_Nodes_isOf s_Nodes_kindOf s_Nodes_sameContent s_Nodes_alike) k_Nodes_alike J K (n + 1) 86 L S M = ai_getf 0 3 89 (am_run (c_Nodes_alike s_Nodes_isOf s_Nodes_kindOf s_Nodes_sameContent s_Nodes_alike) k_Nodes_alike J K n) K 86 L S M := by rfl
set_option maxRecDepth 20000 in
theorem r_Nodes_alike_89 {s_Nodes_isOf : aS} {s_Nodes_kindOf : aS} {s_Nodes_sameContent : aS} {s_Nodes_alike : aS} {J : aJ} {K : aR} {n : Nat} {L : aL} {S : List Value} {M : aM} : am_run (c_Nodes_alike s_Nodes_isOf s_Nodes_kindOf s_Nodes_sameContent s_Nodes_alike) k_Nodes_alike J K (n + 1) 89 L S M = ai_iload 5 91 (am_run (c_Nodes_alike s_Nodes_isOf s_Nodes_kindOf s_Nodes_sameContent s_Nodes_alike) k_Nodes_alike J K n) K 89 L S M := by rfl
set_option maxRecDepth 20000 in
theorem r_Nodes_alike_91 {s_Nodes_isOf : aS} {s_Nodes_kindOf : aS} {s_Nodes_sameContent : aS} {s_Nodes_alike : aS} {J : aJ} {K : aR} {n : Nat} {L : aL} {S : List Value} {M : aM} : am_run (c_Nodes_alike s_Nodes_isOf s_Nodes_kindOf s_Nodes_sameContent s_Nodes_alike) k_Nodes_alike J K (n + 1) 91 L S M = ai_iald 92 (am_run (c_Nodes_alike s_Nodes_isOf s_Nodes_kindOf s_Nodes_sameContent s_Nodes_alike) k_Nodes_alike J K n) K 91 L S M := by rfl
set_option maxRecDepth 20000 in
theorem r_Nodes_alike_92 {s_Nodes_isOf : aS} {s_Nodes_kindOf : aS} {s_Nodes_sameContent : aS} {s_Nodes_alike : aS} {J : aJ} {K : aR} {n : Nat} {L : aL} {S : List Value} {M : aM} : am_run (c_Nodes_alike s_Nodes_isOf s_Nodes_kindOf s_Nodes_sameContent s_Nodes_alike) k_Nodes_alike J K (n + 1) 92 L S M = ai_iload 3 93 (am_run (c_Nodes_alike s_Nodes_isOf s_Nodes_kindOf s_Nodes_sameContent s_Nodes_alike) k_Nodes_alike J K n) K 92 L S M := by rfl
set_option maxRecDepth 20000 in
theorem r_Nodes_alike_93 {s_Nodes_isOf : aS} {s_Nodes_kindOf : aS} {s_Nodes_sameContent : aS} {s_Nodes_alike : aS} {J : aJ} {K : aR} {n : Nat} {L : aL} {S : List Value} {M : aM} : am_run (c_Nodes_alike s_Nodes_isOf s_Nodes_kindOf s_Nodes_sameContent s_Nodes_alike) k_Nodes_alike J K (n + 1) 93 L S M = ai_const 1 94 (am_run (c_Nodes_alike s_Nodes_isOf s_Nodes_kindOf s_Nodes_sameContent s_Nodes_alike) k_Nodes_alike J K n) K 93 L S M := by rfl
set_option maxRecDepth 20000 in
theorem r_Nodes_alike_94 {s_Nodes_isOf : aS} {s_Nodes_kindOf : aS} {s_Nodes_sameContent : aS} {s_Nodes_alike : aS} {J : aJ} {K : aR} {n : Nat} {L : aL} {S : List Value} {M : aM} : am_run (c_Nodes_alike s_Nodes_isOf s_Nodes_kindOf s_Nodes_sameContent s_Nodes_alike) k_Nodes_alike J K (n + 1) 94 L S M = ai_iadd 95 (am_run (c_Nodes_alike s_Nodes_isOf s_Nodes_kindOf s_Nodes_sameContent s_Nodes_alike) k_Nodes_alike J K n) K 94 L S M := by rfl
set_option maxRecDepth 20000 in
theorem r_Nodes_alike_95 {s_Nodes_isOf : aS} {s_Nodes_kindOf : aS} {s_Nodes_sameContent : aS} {s_Nodes_alike : aS} {J : aJ} {K : aR} {n : Nat} {L : aL} {S : List Value} {M : aM} : am_run (c_Nodes_alike s_Nodes_isOf s_Nodes_kindOf s_Nodes_sameContent s_Nodes_alike) k_Nodes_alike J K (n + 1) 95 L S M = ai_callv4 0 s_Nodes_alike 98 (am_run (c_Nodes_alike s_Nodes_isOf s_Nodes_kindOf s_Nodes_sameContent s_Nodes_alike) k_Nodes_alike J K n) K 95 L S M := by rfl
set_option maxRecDepth 20000 in
theorem r_Nodes_alike_98 {s_Nodes_isOf : aS} {s_Nodes_kindOf : aS} {s_Nodes_sameContent : aS} {s_Nodes_alike : aS} {J : aJ} {K : aR} {n : Nat} {L : aL} {S : List Value} {M : aM} : am_run (c_Nodes_alike s_Nodes_isOf s_Nodes_kindOf s_Nodes_sameContent s_Nodes_alike) k_Nodes_alike J K (n + 1) 98 L S M = ai_ifne 103 101 (am_run (c_Nodes_alike s_Nodes_isOf s_Nodes_kindOf s_Nodes_sameContent s_Nodes_alike) k_Nodes_alike J K n) K 98 L S M := by rfl
set_option maxRecDepth 20000 in
theorem r_Nodes_alike_101 {s_Nodes_isOf : aS} {s_Nodes_kindOf : aS} {s_Nodes_sameContent : aS} {s_Nodes_alike : aS} {J : aJ} {K : aR} {n : Nat} {L : aL} {S : List Value} {M : aM} : am_run (c_Nodes_alike s_Nodes_isOf s_Nodes_kindOf s_Nodes_sameContent s_Nodes_alike) k_Nodes_alike J K (n + 1) 101 L S M = ai_const 0 102 (am_run (c_Nodes_alike s_Nodes_isOf s_Nodes_kindOf s_Nodes_sameContent s_Nodes_alike) k_Nodes_alike J K n) K 101 L S M := by rfl
set_option maxRecDepth 20000 in
theorem r_Nodes_alike_102 {s_Nodes_isOf : aS} {s_Nodes_kindOf : aS} {s_Nodes_sameContent : aS} {s_Nodes_alike : aS} {J : aJ} {K : aR} {n : Nat} {L : aL} {S : List Value} {M : aM} : am_run (c_Nodes_alike s_Nodes_isOf s_Nodes_kindOf s_Nodes_sameContent s_Nodes_alike) k_Nodes_alike J K (n + 1) 102 L S M = ai_zret (am_run (c_Nodes_alike s_Nodes_isOf s_Nodes_kindOf s_Nodes_sameContent s_Nodes_alike) k_Nodes_alike J K n) K 102 L S M := by rfl
set_option maxRecDepth 20000 in
theorem r_Nodes_alike_103 {s_Nodes_isOf : aS} {s_Nodes_kindOf : aS} {s_Nodes_sameContent : aS} {s_Nodes_alike : aS} {J : aJ} {K : aR} {n : Nat} {L : aL} {S : List Value} {M : aM} : am_run (c_Nodes_alike s_Nodes_isOf s_Nodes_kindOf s_Nodes_sameContent s_Nodes_alike) k_Nodes_alike J K (n + 1) 103 L S M = ai_aload 0 104 (am_run (c_Nodes_alike s_Nodes_isOf s_Nodes_kindOf s_Nodes_sameContent s_Nodes_alike) k_Nodes_alike J K n) K 103 L S M := by rfl
set_option maxRecDepth 20000 in
theorem r_Nodes_alike_104 {s_Nodes_isOf : aS} {s_Nodes_kindOf : aS} {s_Nodes_sameContent : aS} {s_Nodes_alike : aS} {J : aJ} {K : aR} {n : Nat} {L : aL} {S : List Value} {M : aM} : am_run (c_Nodes_alike s_Nodes_isOf s_Nodes_kindOf s_Nodes_sameContent s_Nodes_alike) k_Nodes_alike J K (n + 1) 104 L S M = ai_getf 0 4 107 (am_run (c_Nodes_alike s_Nodes_isOf s_Nodes_kindOf s_Nodes_sameContent s_Nodes_alike) k_Nodes_alike J K n) K 104 L S M := by rfl
set_option maxRecDepth 20000 in
theorem r_Nodes_alike_107 {s_Nodes_isOf : aS} {s_Nodes_kindOf : aS} {s_Nodes_sameContent : aS} {s_Nodes_alike : aS} {J : aJ} {K : aR} {n : Nat} {L : aL} {S : List Value} {M : aM} : am_run (c_Nodes_alike s_Nodes_isOf s_Nodes_kindOf s_Nodes_sameContent s_Nodes_alike) k_Nodes_alike J K (n + 1) 107 L S M = ai_iload 4 109 (am_run (c_Nodes_alike s_Nodes_isOf s_Nodes_kindOf s_Nodes_sameContent s_Nodes_alike) k_Nodes_alike J K n) K 107 L S M := by rfl
set_option maxRecDepth 20000 in
theorem r_Nodes_alike_109 {s_Nodes_isOf : aS} {s_Nodes_kindOf : aS} {s_Nodes_sameContent : aS} {s_Nodes_alike : aS} {J : aJ} {K : aR} {n : Nat} {L : aL} {S : List Value} {M : aM} : am_run (c_Nodes_alike s_Nodes_isOf s_Nodes_kindOf s_Nodes_sameContent s_Nodes_alike) k_Nodes_alike J K (n + 1) 109 L S M = ai_iald 110 (am_run (c_Nodes_alike s_Nodes_isOf s_Nodes_kindOf s_Nodes_sameContent s_Nodes_alike) k_Nodes_alike J K n) K 109 L S M := by rfl
set_option maxRecDepth 20000 in
theorem r_Nodes_alike_110 {s_Nodes_isOf : aS} {s_Nodes_kindOf : aS} {s_Nodes_sameContent : aS} {s_Nodes_alike : aS} {J : aJ} {K : aR} {n : Nat} {L : aL} {S : List Value} {M : aM} : am_run (c_Nodes_alike s_Nodes_isOf s_Nodes_kindOf s_Nodes_sameContent s_Nodes_alike) k_Nodes_alike J K (n + 1) 110 L S M = ai_istore 4 112 (am_run (c_Nodes_alike s_Nodes_isOf s_Nodes_kindOf s_Nodes_sameContent s_Nodes_alike) k_Nodes_alike J K n) K 110 L S M := by rfl
set_option maxRecDepth 20000 in
theorem r_Nodes_alike_112 {s_Nodes_isOf : aS} {s_Nodes_kindOf : aS} {s_Nodes_sameContent : aS} {s_Nodes_alike : aS} {J : aJ} {K : aR} {n : Nat} {L : aL} {S : List Value} {M : aM} : am_run (c_Nodes_alike s_Nodes_isOf s_Nodes_kindOf s_Nodes_sameContent s_Nodes_alike) k_Nodes_alike J K (n + 1) 112 L S M = ai_aload 0 113 (am_run (c_Nodes_alike s_Nodes_isOf s_Nodes_kindOf s_Nodes_sameContent s_Nodes_alike) k_Nodes_alike J K n) K 112 L S M := by rfl
set_option maxRecDepth 20000 in
theorem r_Nodes_alike_113 {s_Nodes_isOf : aS} {s_Nodes_kindOf : aS} {s_Nodes_sameContent : aS} {s_Nodes_alike : aS} {J : aJ} {K : aR} {n : Nat} {L : aL} {S : List Value} {M : aM} : am_run (c_Nodes_alike s_Nodes_isOf s_Nodes_kindOf s_Nodes_sameContent s_Nodes_alike) k_Nodes_alike J K (n + 1) 113 L S M = ai_getf 0 4 116 (am_run (c_Nodes_alike s_Nodes_isOf s_Nodes_kindOf s_Nodes_sameContent s_Nodes_alike) k_Nodes_alike J K n) K 113 L S M := by rfl
set_option maxRecDepth 20000 in
theorem r_Nodes_alike_116 {s_Nodes_isOf : aS} {s_Nodes_kindOf : aS} {s_Nodes_sameContent : aS} {s_Nodes_alike : aS} {J : aJ} {K : aR} {n : Nat} {L : aL} {S : List Value} {M : aM} : am_run (c_Nodes_alike s_Nodes_isOf s_Nodes_kindOf s_Nodes_sameContent s_Nodes_alike) k_Nodes_alike J K (n + 1) 116 L S M = ai_iload 5 118 (am_run (c_Nodes_alike s_Nodes_isOf s_Nodes_kindOf s_Nodes_sameContent s_Nodes_alike) k_Nodes_alike J K n) K 116 L S M := by rfl
set_option maxRecDepth 20000 in
theorem r_Nodes_alike_118 {s_Nodes_isOf : aS} {s_Nodes_kindOf : aS} {s_Nodes_sameContent : aS} {s_Nodes_alike : aS} {J : aJ} {K : aR} {n : Nat} {L : aL} {S : List Value} {M : aM} : am_run (c_Nodes_alike s_Nodes_isOf s_Nodes_kindOf s_Nodes_sameContent s_Nodes_alike) k_Nodes_alike J K (n + 1) 118 L S M = ai_iald 119 (am_run (c_Nodes_alike s_Nodes_isOf s_Nodes_kindOf s_Nodes_sameContent s_Nodes_alike) k_Nodes_alike J K n) K 118 L S M := by rfl
set_option maxRecDepth 20000 in
theorem r_Nodes_alike_119 {s_Nodes_isOf : aS} {s_Nodes_kindOf : aS} {s_Nodes_sameContent : aS} {s_Nodes_alike : aS} {J : aJ} {K : aR} {n : Nat} {L : aL} {S : List Value} {M : aM} : am_run (c_Nodes_alike s_Nodes_isOf s_Nodes_kindOf s_Nodes_sameContent s_Nodes_alike) k_Nodes_alike J K (n + 1) 119 L S M = ai_istore 5 121 (am_run (c_Nodes_alike s_Nodes_isOf s_Nodes_kindOf s_Nodes_sameContent s_Nodes_alike) k_Nodes_alike J K n) K 119 L S M := by rfl
set_option maxRecDepth 20000 in
theorem r_Nodes_alike_121 {s_Nodes_isOf : aS} {s_Nodes_kindOf : aS} {s_Nodes_sameContent : aS} {s_Nodes_alike : aS} {J : aJ} {K : aR} {n : Nat} {L : aL} {S : List Value} {M : aM} : am_run (c_Nodes_alike s_Nodes_isOf s_Nodes_kindOf s_Nodes_sameContent s_Nodes_alike) k_Nodes_alike J K (n + 1) 121 L S M = ai_iinc 6 1 124 (am_run (c_Nodes_alike s_Nodes_isOf s_Nodes_kindOf s_Nodes_sameContent s_Nodes_alike) k_Nodes_alike J K n) K 121 L S M := by rfl
set_option maxRecDepth 20000 in
theorem r_Nodes_alike_124 {s_Nodes_isOf : aS} {s_Nodes_kindOf : aS} {s_Nodes_sameContent : aS} {s_Nodes_alike : aS} {J : aJ} {K : aR} {n : Nat} {L : aL} {S : List Value} {M : aM} : am_run (c_Nodes_alike s_Nodes_isOf s_Nodes_kindOf s_Nodes_sameContent s_Nodes_alike) k_Nodes_alike J K (n + 1) 124 L S M = ai_goto 17 (am_run (c_Nodes_alike s_Nodes_isOf s_Nodes_kindOf s_Nodes_sameContent s_Nodes_alike) k_Nodes_alike J K n) K 124 L S M := by rfl
set_option maxRecDepth 20000 in
theorem r_Nodes_alike_127 {s_Nodes_isOf : aS} {s_Nodes_kindOf : aS} {s_Nodes_sameContent : aS} {s_Nodes_alike : aS} {J : aJ} {K : aR} {n : Nat} {L : aL} {S : List Value} {M : aM} : am_run (c_Nodes_alike s_Nodes_isOf s_Nodes_kindOf s_Nodes_sameContent s_Nodes_alike) k_Nodes_alike J K (n + 1) 127 L S M = ai_const 0 128 (am_run (c_Nodes_alike s_Nodes_isOf s_Nodes_kindOf s_Nodes_sameContent s_Nodes_alike) k_Nodes_alike J K n) K 127 L S M := by rfl
set_option maxRecDepth 20000 in
theorem r_Nodes_alike_128 {s_Nodes_isOf : aS} {s_Nodes_kindOf : aS} {s_Nodes_sameContent : aS} {s_Nodes_alike : aS} {J : aJ} {K : aR} {n : Nat} {L : aL} {S : List Value} {M : aM} : am_run (c_Nodes_alike s_Nodes_isOf s_Nodes_kindOf s_Nodes_sameContent s_Nodes_alike) k_Nodes_alike J K (n + 1) 128 L S M = ai_zret (am_run (c_Nodes_alike s_Nodes_isOf s_Nodes_kindOf s_Nodes_sameContent s_Nodes_alike) k_Nodes_alike J K n) K 128 L S M := by rfl
def c_Nodes_sameContent (s_Nodes_amountOf : aS) (s_Nodes_isOf : aS) (s_Nodes_byteOf : aS) : List (Nat × aI) := [
  (0, ai_aload 0 1),
  (1, ai_iload 1 2),
  (2, ai_callv2 0 s_Nodes_amountOf 5),
  (5, ai_istore 3 6),
  (6, ai_iload 3 7),
  (7, ai_aload 0 8),
  (8, ai_iload 2 9),
  (9, ai_callv2 0 s_Nodes_amountOf 12),
  (12, ai_cmpeq 17 15),
  (15, ai_const 0 16),
  (16, ai_zret),
  (17, ai_aload 0 18),
  (18, ai_iload 1 19),
  (19, ai_const 1 20),
  (20, ai_callv3 0 s_Nodes_isOf 23),
  (23, ai_ifeq 28 26),
  (26, ai_const 1 27),
  (27, ai_zret),
  (28, ai_const 0 29),
  (29, ai_istore 4 31),
  (31, ai_iload 4 33),
  (33, ai_iload 3 34),
  (34, ai_cmpge 62 37),
  (37, ai_aload 0 38),
  (38, ai_iload 1 39),
  (39, ai_iload 4 41),
  (41, ai_callv3 0 s_Nodes_byteOf 44),
  (44, ai_aload 0 45),
  (45, ai_iload 2 46),
  (46, ai_iload 4 48),
  (48, ai_callv3 0 s_Nodes_byteOf 51),
  (51, ai_cmpeq 56 54),
  (54, ai_const 0 55),
  (55, ai_zret),
  (56, ai_iinc 4 1 59),
  (59, ai_goto 31),
  (62, ai_const 1 63),
  (63, ai_zret)]
set_option maxRecDepth 100000 in
set_option maxHeartbeats 4000000 in
theorem tb_Nodes_sameContent {G : aG} {d : Nat} {s_Nodes_amountOf : aS} {d_Nodes_amountOf : Nat} (h_Nodes_amountOf : am_Sp G Y_Nodes_amountOf d_Nodes_amountOf s_Nodes_amountOf) (l_Nodes_amountOf : d_Nodes_amountOf < d) {s_Nodes_isOf : aS} {d_Nodes_isOf : Nat} (h_Nodes_isOf : am_Sp G Y_Nodes_isOf d_Nodes_isOf s_Nodes_isOf) (l_Nodes_isOf : d_Nodes_isOf < d) {s_Nodes_byteOf : aS} {d_Nodes_byteOf : Nat} (h_Nodes_byteOf : am_Sp G Y_Nodes_byteOf d_Nodes_byteOf s_Nodes_byteOf) (l_Nodes_byteOf : d_Nodes_byteOf < d) : am_tab G Y_Nodes_sameContent d (c_Nodes_sameContent s_Nodes_amountOf s_Nodes_isOf s_Nodes_byteOf) := by
  intro K p e s m args below meth c C
  exact ⟨as_aload_n C (pc := 0) (q := 0) (by decide +kernel) rfl rfl,
    as_iload_n C (pc := 1) (q := 1) (by decide +kernel) rfl rfl,
    as_callv2 C (pc := 2) h_Nodes_amountOf (T := T_Nodes) (N := 10) rfl w_409 w_72 w_408 w_34 w_448 hy_Nodes_amountOf (am_rm_of l_Nodes_amountOf (by decide)) (by decide +kernel) rfl,
    as_istore_n C (pc := 5) (q := 3) (by decide +kernel) rfl (by decide) rfl,
    as_iload_n C (pc := 6) (q := 3) (by decide +kernel) rfl rfl,
    as_aload_n C (pc := 7) (q := 0) (by decide +kernel) rfl rfl,
    as_iload_n C (pc := 8) (q := 2) (by decide +kernel) rfl rfl,
    as_callv2 C (pc := 9) h_Nodes_amountOf (T := T_Nodes) (N := 10) rfl w_409 w_72 w_408 w_34 w_448 hy_Nodes_amountOf (am_rm_of l_Nodes_amountOf (by decide)) (by decide +kernel) rfl,
    as_cmpeq C (pc := 12) (off := 5) (by decide +kernel) (by decide) rfl,
    as_iconst C (pc := 15) (n := 0) (by decide +kernel) (by decide +kernel) rfl,
    as_zret C (pc := 16) rfl (by decide +kernel),
    as_aload_n C (pc := 17) (q := 0) (by decide +kernel) rfl rfl,
    as_iload_n C (pc := 18) (q := 1) (by decide +kernel) rfl rfl,
    as_iconst C (pc := 19) (n := 1) (by decide +kernel) (by decide +kernel) rfl,
    as_callv3 C (pc := 20) h_Nodes_isOf (T := T_Nodes) (N := 10) rfl w_421 w_72 w_420 w_36 w_418 hy_Nodes_isOf (am_rm_of l_Nodes_isOf (by decide)) (by decide +kernel) rfl,
    as_ifeq C (pc := 23) (off := 5) (by decide +kernel) (by decide) rfl,
    as_iconst C (pc := 26) (n := 1) (by decide +kernel) (by decide +kernel) rfl,
    as_zret C (pc := 27) rfl (by decide +kernel),
    as_iconst C (pc := 28) (n := 0) (by decide +kernel) (by decide +kernel) rfl,
    as_istore C (pc := 29) (k := 4) (by decide +kernel) (by decide) rfl,
    as_iload C (pc := 31) (k := 4) (by decide +kernel) rfl,
    as_iload_n C (pc := 33) (q := 3) (by decide +kernel) rfl rfl,
    as_cmpge C (pc := 34) (off := 28) (by decide +kernel) (by decide) rfl,
    as_aload_n C (pc := 37) (q := 0) (by decide +kernel) rfl rfl,
    as_iload_n C (pc := 38) (q := 1) (by decide +kernel) rfl rfl,
    as_iload C (pc := 39) (k := 4) (by decide +kernel) rfl,
    as_callv3 C (pc := 41) h_Nodes_byteOf (T := T_Nodes) (N := 10) rfl w_417 w_72 w_416 w_35 w_449 hy_Nodes_byteOf (am_rm_of l_Nodes_byteOf (by decide)) (by decide +kernel) rfl,
    as_aload_n C (pc := 44) (q := 0) (by decide +kernel) rfl rfl,
    as_iload_n C (pc := 45) (q := 2) (by decide +kernel) rfl rfl,
    as_iload C (pc := 46) (k := 4) (by decide +kernel) rfl,
    as_callv3 C (pc := 48) h_Nodes_byteOf (T := T_Nodes) (N := 10) rfl w_417 w_72 w_416 w_35 w_449 hy_Nodes_byteOf (am_rm_of l_Nodes_byteOf (by decide)) (by decide +kernel) rfl,
    as_cmpeq C (pc := 51) (off := 5) (by decide +kernel) (by decide) rfl,
    as_iconst C (pc := 54) (n := 0) (by decide +kernel) (by decide +kernel) rfl,
    as_zret C (pc := 55) rfl (by decide +kernel),
    as_iinc C (pc := 56) (k := 4) (n := 1) (by decide +kernel) (by decide +kernel) (by decide) rfl,
    as_goto C (pc := 59) (off := (-28)) (by decide +kernel) (by decide),
    as_iconst C (pc := 62) (n := 1) (by decide +kernel) (by decide +kernel) rfl,
    as_zret C (pc := 63) rfl (by decide +kernel), trivial⟩
abbrev k_Nodes_sameContent : List Nat := [31]
theorem q_Nodes_sameContent_31 {s_Nodes_amountOf : aS} {s_Nodes_isOf : aS} {s_Nodes_byteOf : aS} : am_at (c_Nodes_sameContent s_Nodes_amountOf s_Nodes_isOf s_Nodes_byteOf) 31 = ai_iload 4 33 := by rfl
theorem r_Nodes_sameContent_0 {s_Nodes_amountOf : aS} {s_Nodes_isOf : aS} {s_Nodes_byteOf : aS} {J : aJ} {K : aR} {n : Nat} {L : aL} {S : List Value} {M : aM} : am_run (c_Nodes_sameContent s_Nodes_amountOf s_Nodes_isOf s_Nodes_byteOf) k_Nodes_sameContent J K (n + 1) 0 L S M = ai_aload 0 1 (am_run (c_Nodes_sameContent s_Nodes_amountOf s_Nodes_isOf s_Nodes_byteOf) k_Nodes_sameContent J K n) K 0 L S M := by rfl
theorem r_Nodes_sameContent_1 {s_Nodes_amountOf : aS} {s_Nodes_isOf : aS} {s_Nodes_byteOf : aS} {J : aJ} {K : aR} {n : Nat} {L : aL} {S : List Value} {M : aM} : am_run (c_Nodes_sameContent s_Nodes_amountOf s_Nodes_isOf s_Nodes_byteOf) k_Nodes_sameContent J K (n + 1) 1 L S M = ai_iload 1 2 (am_run (c_Nodes_sameContent s_Nodes_amountOf s_Nodes_isOf s_Nodes_byteOf) k_Nodes_sameContent J K n) K 1 L S M := by rfl
theorem r_Nodes_sameContent_2 {s_Nodes_amountOf : aS} {s_Nodes_isOf : aS} {s_Nodes_byteOf : aS} {J : aJ} {K : aR} {n : Nat} {L : aL} {S : List Value} {M : aM} : am_run (c_Nodes_sameContent s_Nodes_amountOf s_Nodes_isOf s_Nodes_byteOf) k_Nodes_sameContent J K (n + 1) 2 L S M = ai_callv2 0 s_Nodes_amountOf 5 (am_run (c_Nodes_sameContent s_Nodes_amountOf s_Nodes_isOf s_Nodes_byteOf) k_Nodes_sameContent J K n) K 2 L S M := by rfl
theorem r_Nodes_sameContent_5 {s_Nodes_amountOf : aS} {s_Nodes_isOf : aS} {s_Nodes_byteOf : aS} {J : aJ} {K : aR} {n : Nat} {L : aL} {S : List Value} {M : aM} : am_run (c_Nodes_sameContent s_Nodes_amountOf s_Nodes_isOf s_Nodes_byteOf) k_Nodes_sameContent J K (n + 1) 5 L S M = ai_istore 3 6 (am_run (c_Nodes_sameContent s_Nodes_amountOf s_Nodes_isOf s_Nodes_byteOf) k_Nodes_sameContent J K n) K 5 L S M := by rfl
theorem r_Nodes_sameContent_6 {s_Nodes_amountOf : aS} {s_Nodes_isOf : aS} {s_Nodes_byteOf : aS} {J : aJ} {K : aR} {n : Nat} {L : aL} {S : List Value} {M : aM} : am_run (c_Nodes_sameContent s_Nodes_amountOf s_Nodes_isOf s_Nodes_byteOf) k_Nodes_sameContent J K (n + 1) 6 L S M = ai_iload 3 7 (am_run (c_Nodes_sameContent s_Nodes_amountOf s_Nodes_isOf s_Nodes_byteOf) k_Nodes_sameContent J K n) K 6 L S M := by rfl
theorem r_Nodes_sameContent_7 {s_Nodes_amountOf : aS} {s_Nodes_isOf : aS} {s_Nodes_byteOf : aS} {J : aJ} {K : aR} {n : Nat} {L : aL} {S : List Value} {M : aM} : am_run (c_Nodes_sameContent s_Nodes_amountOf s_Nodes_isOf s_Nodes_byteOf) k_Nodes_sameContent J K (n + 1) 7 L S M = ai_aload 0 8 (am_run (c_Nodes_sameContent s_Nodes_amountOf s_Nodes_isOf s_Nodes_byteOf) k_Nodes_sameContent J K n) K 7 L S M := by rfl
theorem r_Nodes_sameContent_8 {s_Nodes_amountOf : aS} {s_Nodes_isOf : aS} {s_Nodes_byteOf : aS} {J : aJ} {K : aR} {n : Nat} {L : aL} {S : List Value} {M : aM} : am_run (c_Nodes_sameContent s_Nodes_amountOf s_Nodes_isOf s_Nodes_byteOf) k_Nodes_sameContent J K (n + 1) 8 L S M = ai_iload 2 9 (am_run (c_Nodes_sameContent s_Nodes_amountOf s_Nodes_isOf s_Nodes_byteOf) k_Nodes_sameContent J K n) K 8 L S M := by rfl
theorem r_Nodes_sameContent_9 {s_Nodes_amountOf : aS} {s_Nodes_isOf : aS} {s_Nodes_byteOf : aS} {J : aJ} {K : aR} {n : Nat} {L : aL} {S : List Value} {M : aM} : am_run (c_Nodes_sameContent s_Nodes_amountOf s_Nodes_isOf s_Nodes_byteOf) k_Nodes_sameContent J K (n + 1) 9 L S M = ai_callv2 0 s_Nodes_amountOf 12 (am_run (c_Nodes_sameContent s_Nodes_amountOf s_Nodes_isOf s_Nodes_byteOf) k_Nodes_sameContent J K n) K 9 L S M := by rfl
theorem r_Nodes_sameContent_12 {s_Nodes_amountOf : aS} {s_Nodes_isOf : aS} {s_Nodes_byteOf : aS} {J : aJ} {K : aR} {n : Nat} {L : aL} {S : List Value} {M : aM} : am_run (c_Nodes_sameContent s_Nodes_amountOf s_Nodes_isOf s_Nodes_byteOf) k_Nodes_sameContent J K (n + 1) 12 L S M = ai_cmpeq 17 15 (am_run (c_Nodes_sameContent s_Nodes_amountOf s_Nodes_isOf s_Nodes_byteOf) k_Nodes_sameContent J K n) K 12 L S M := by rfl
theorem r_Nodes_sameContent_15 {s_Nodes_amountOf : aS} {s_Nodes_isOf : aS} {s_Nodes_byteOf : aS} {J : aJ} {K : aR} {n : Nat} {L : aL} {S : List Value} {M : aM} : am_run (c_Nodes_sameContent s_Nodes_amountOf s_Nodes_isOf s_Nodes_byteOf) k_Nodes_sameContent J K (n + 1) 15 L S M = ai_const 0 16 (am_run (c_Nodes_sameContent s_Nodes_amountOf s_Nodes_isOf s_Nodes_byteOf) k_Nodes_sameContent J K n) K 15 L S M := by rfl
theorem r_Nodes_sameContent_16 {s_Nodes_amountOf : aS} {s_Nodes_isOf : aS} {s_Nodes_byteOf : aS} {J : aJ} {K : aR} {n : Nat} {L : aL} {S : List Value} {M : aM} : am_run (c_Nodes_sameContent s_Nodes_amountOf s_Nodes_isOf s_Nodes_byteOf) k_Nodes_sameContent J K (n + 1) 16 L S M = ai_zret (am_run (c_Nodes_sameContent s_Nodes_amountOf s_Nodes_isOf s_Nodes_byteOf) k_Nodes_sameContent J K n) K 16 L S M := by rfl
theorem r_Nodes_sameContent_17 {s_Nodes_amountOf : aS} {s_Nodes_isOf : aS} {s_Nodes_byteOf : aS} {J : aJ} {K : aR} {n : Nat} {L : aL} {S : List Value} {M : aM} : am_run (c_Nodes_sameContent s_Nodes_amountOf s_Nodes_isOf s_Nodes_byteOf) k_Nodes_sameContent J K (n + 1) 17 L S M = ai_aload 0 18 (am_run (c_Nodes_sameContent s_Nodes_amountOf s_Nodes_isOf s_Nodes_byteOf) k_Nodes_sameContent J K n) K 17 L S M := by rfl
theorem r_Nodes_sameContent_18 {s_Nodes_amountOf : aS} {s_Nodes_isOf : aS} {s_Nodes_byteOf : aS} {J : aJ} {K : aR} {n : Nat} {L : aL} {S : List Value} {M : aM} : am_run (c_Nodes_sameContent s_Nodes_amountOf s_Nodes_isOf s_Nodes_byteOf) k_Nodes_sameContent J K (n + 1) 18 L S M = ai_iload 1 19 (am_run (c_Nodes_sameContent s_Nodes_amountOf s_Nodes_isOf s_Nodes_byteOf) k_Nodes_sameContent J K n) K 18 L S M := by rfl
theorem r_Nodes_sameContent_19 {s_Nodes_amountOf : aS} {s_Nodes_isOf : aS} {s_Nodes_byteOf : aS} {J : aJ} {K : aR} {n : Nat} {L : aL} {S : List Value} {M : aM} : am_run (c_Nodes_sameContent s_Nodes_amountOf s_Nodes_isOf s_Nodes_byteOf) k_Nodes_sameContent J K (n + 1) 19 L S M = ai_const 1 20 (am_run (c_Nodes_sameContent s_Nodes_amountOf s_Nodes_isOf s_Nodes_byteOf) k_Nodes_sameContent J K n) K 19 L S M := by rfl
theorem r_Nodes_sameContent_20 {s_Nodes_amountOf : aS} {s_Nodes_isOf : aS} {s_Nodes_byteOf : aS} {J : aJ} {K : aR} {n : Nat} {L : aL} {S : List Value} {M : aM} : am_run (c_Nodes_sameContent s_Nodes_amountOf s_Nodes_isOf s_Nodes_byteOf) k_Nodes_sameContent J K (n + 1) 20 L S M = ai_callv3 0 s_Nodes_isOf 23 (am_run (c_Nodes_sameContent s_Nodes_amountOf s_Nodes_isOf s_Nodes_byteOf) k_Nodes_sameContent J K n) K 20 L S M := by rfl
theorem r_Nodes_sameContent_23 {s_Nodes_amountOf : aS} {s_Nodes_isOf : aS} {s_Nodes_byteOf : aS} {J : aJ} {K : aR} {n : Nat} {L : aL} {S : List Value} {M : aM} : am_run (c_Nodes_sameContent s_Nodes_amountOf s_Nodes_isOf s_Nodes_byteOf) k_Nodes_sameContent J K (n + 1) 23 L S M = ai_ifeq 28 26 (am_run (c_Nodes_sameContent s_Nodes_amountOf s_Nodes_isOf s_Nodes_byteOf) k_Nodes_sameContent J K n) K 23 L S M := by rfl
theorem r_Nodes_sameContent_26 {s_Nodes_amountOf : aS} {s_Nodes_isOf : aS} {s_Nodes_byteOf : aS} {J : aJ} {K : aR} {n : Nat} {L : aL} {S : List Value} {M : aM} : am_run (c_Nodes_sameContent s_Nodes_amountOf s_Nodes_isOf s_Nodes_byteOf) k_Nodes_sameContent J K (n + 1) 26 L S M = ai_const 1 27 (am_run (c_Nodes_sameContent s_Nodes_amountOf s_Nodes_isOf s_Nodes_byteOf) k_Nodes_sameContent J K n) K 26 L S M := by rfl
theorem r_Nodes_sameContent_27 {s_Nodes_amountOf : aS} {s_Nodes_isOf : aS} {s_Nodes_byteOf : aS} {J : aJ} {K : aR} {n : Nat} {L : aL} {S : List Value} {M : aM} : am_run (c_Nodes_sameContent s_Nodes_amountOf s_Nodes_isOf s_Nodes_byteOf) k_Nodes_sameContent J K (n + 1) 27 L S M = ai_zret (am_run (c_Nodes_sameContent s_Nodes_amountOf s_Nodes_isOf s_Nodes_byteOf) k_Nodes_sameContent J K n) K 27 L S M := by rfl
theorem r_Nodes_sameContent_28 {s_Nodes_amountOf : aS} {s_Nodes_isOf : aS} {s_Nodes_byteOf : aS} {J : aJ} {K : aR} {n : Nat} {L : aL} {S : List Value} {M : aM} : am_run (c_Nodes_sameContent s_Nodes_amountOf s_Nodes_isOf s_Nodes_byteOf) k_Nodes_sameContent J K (n + 1) 28 L S M = ai_const 0 29 (am_run (c_Nodes_sameContent s_Nodes_amountOf s_Nodes_isOf s_Nodes_byteOf) k_Nodes_sameContent J K n) K 28 L S M := by rfl
theorem r_Nodes_sameContent_29 {s_Nodes_amountOf : aS} {s_Nodes_isOf : aS} {s_Nodes_byteOf : aS} {J : aJ} {K : aR} {n : Nat} {L : aL} {S : List Value} {M : aM} : am_run (c_Nodes_sameContent s_Nodes_amountOf s_Nodes_isOf s_Nodes_byteOf) k_Nodes_sameContent J K (n + 1) 29 L S M = ai_istore 4 31 (am_run (c_Nodes_sameContent s_Nodes_amountOf s_Nodes_isOf s_Nodes_byteOf) k_Nodes_sameContent J K n) K 29 L S M := by rfl
theorem r_Nodes_sameContent_31 {s_Nodes_amountOf : aS} {s_Nodes_isOf : aS} {s_Nodes_byteOf : aS} {J : aJ} {K : aR} {n : Nat} {L : aL} {S : List Value} {M : aM} : am_run (c_Nodes_sameContent s_Nodes_amountOf s_Nodes_isOf s_Nodes_byteOf) k_Nodes_sameContent J K (n + 1) 31 L S M = J 31 L S M := by rfl
theorem r_Nodes_sameContent_33 {s_Nodes_amountOf : aS} {s_Nodes_isOf : aS} {s_Nodes_byteOf : aS} {J : aJ} {K : aR} {n : Nat} {L : aL} {S : List Value} {M : aM} : am_run (c_Nodes_sameContent s_Nodes_amountOf s_Nodes_isOf s_Nodes_byteOf) k_Nodes_sameContent J K (n + 1) 33 L S M = ai_iload 3 34 (am_run (c_Nodes_sameContent s_Nodes_amountOf s_Nodes_isOf s_Nodes_byteOf) k_Nodes_sameContent J K n) K 33 L S M := by rfl
theorem r_Nodes_sameContent_34 {s_Nodes_amountOf : aS} {s_Nodes_isOf : aS} {s_Nodes_byteOf : aS} {J : aJ} {K : aR} {n : Nat} {L : aL} {S : List Value} {M : aM} : am_run (c_Nodes_sameContent s_Nodes_amountOf s_Nodes_isOf s_Nodes_byteOf) k_Nodes_sameContent J K (n + 1) 34 L S M = ai_cmpge 62 37 (am_run (c_Nodes_sameContent s_Nodes_amountOf s_Nodes_isOf s_Nodes_byteOf) k_Nodes_sameContent J K n) K 34 L S M := by rfl
theorem r_Nodes_sameContent_37 {s_Nodes_amountOf : aS} {s_Nodes_isOf : aS} {s_Nodes_byteOf : aS} {J : aJ} {K : aR} {n : Nat} {L : aL} {S : List Value} {M : aM} : am_run (c_Nodes_sameContent s_Nodes_amountOf s_Nodes_isOf s_Nodes_byteOf) k_Nodes_sameContent J K (n + 1) 37 L S M = ai_aload 0 38 (am_run (c_Nodes_sameContent s_Nodes_amountOf s_Nodes_isOf s_Nodes_byteOf) k_Nodes_sameContent J K n) K 37 L S M := by rfl
theorem r_Nodes_sameContent_38 {s_Nodes_amountOf : aS} {s_Nodes_isOf : aS} {s_Nodes_byteOf : aS} {J : aJ} {K : aR} {n : Nat} {L : aL} {S : List Value} {M : aM} : am_run (c_Nodes_sameContent s_Nodes_amountOf s_Nodes_isOf s_Nodes_byteOf) k_Nodes_sameContent J K (n + 1) 38 L S M = ai_iload 1 39 (am_run (c_Nodes_sameContent s_Nodes_amountOf s_Nodes_isOf s_Nodes_byteOf) k_Nodes_sameContent J K n) K 38 L S M := by rfl
theorem r_Nodes_sameContent_39 {s_Nodes_amountOf : aS} {s_Nodes_isOf : aS} {s_Nodes_byteOf : aS} {J : aJ} {K : aR} {n : Nat} {L : aL} {S : List Value} {M : aM} : am_run (c_Nodes_sameContent s_Nodes_amountOf s_Nodes_isOf s_Nodes_byteOf) k_Nodes_sameContent J K (n + 1) 39 L S M = ai_iload 4 41 (am_run (c_Nodes_sameContent s_Nodes_amountOf s_Nodes_isOf s_Nodes_byteOf) k_Nodes_sameContent J K n) K 39 L S M := by rfl
theorem r_Nodes_sameContent_41 {s_Nodes_amountOf : aS} {s_Nodes_isOf : aS} {s_Nodes_byteOf : aS} {J : aJ} {K : aR} {n : Nat} {L : aL} {S : List Value} {M : aM} : am_run (c_Nodes_sameContent s_Nodes_amountOf s_Nodes_isOf s_Nodes_byteOf) k_Nodes_sameContent J K (n + 1) 41 L S M = ai_callv3 0 s_Nodes_byteOf 44 (am_run (c_Nodes_sameContent s_Nodes_amountOf s_Nodes_isOf s_Nodes_byteOf) k_Nodes_sameContent J K n) K 41 L S M := by rfl
theorem r_Nodes_sameContent_44 {s_Nodes_amountOf : aS} {s_Nodes_isOf : aS} {s_Nodes_byteOf : aS} {J : aJ} {K : aR} {n : Nat} {L : aL} {S : List Value} {M : aM} : am_run (c_Nodes_sameContent s_Nodes_amountOf s_Nodes_isOf s_Nodes_byteOf) k_Nodes_sameContent J K (n + 1) 44 L S M = ai_aload 0 45 (am_run (c_Nodes_sameContent s_Nodes_amountOf s_Nodes_isOf s_Nodes_byteOf) k_Nodes_sameContent J K n) K 44 L S M := by rfl
theorem r_Nodes_sameContent_45 {s_Nodes_amountOf : aS} {s_Nodes_isOf : aS} {s_Nodes_byteOf : aS} {J : aJ} {K : aR} {n : Nat} {L : aL} {S : List Value} {M : aM} : am_run (c_Nodes_sameContent s_Nodes_amountOf s_Nodes_isOf s_Nodes_byteOf) k_Nodes_sameContent J K (n + 1) 45 L S M = ai_iload 2 46 (am_run (c_Nodes_sameContent s_Nodes_amountOf s_Nodes_isOf s_Nodes_byteOf) k_Nodes_sameContent J K n) K 45 L S M := by rfl
theorem r_Nodes_sameContent_46 {s_Nodes_amountOf : aS} {s_Nodes_isOf : aS} {s_Nodes_byteOf : aS} {J : aJ} {K : aR} {n : Nat} {L : aL} {S : List Value} {M : aM} : am_run (c_Nodes_sameContent s_Nodes_amountOf s_Nodes_isOf s_Nodes_byteOf) k_Nodes_sameContent J K (n + 1) 46 L S M = ai_iload 4 48 (am_run (c_Nodes_sameContent s_Nodes_amountOf s_Nodes_isOf s_Nodes_byteOf) k_Nodes_sameContent J K n) K 46 L S M := by rfl
theorem r_Nodes_sameContent_48 {s_Nodes_amountOf : aS} {s_Nodes_isOf : aS} {s_Nodes_byteOf : aS} {J : aJ} {K : aR} {n : Nat} {L : aL} {S : List Value} {M : aM} : am_run (c_Nodes_sameContent s_Nodes_amountOf s_Nodes_isOf s_Nodes_byteOf) k_Nodes_sameContent J K (n + 1) 48 L S M = ai_callv3 0 s_Nodes_byteOf 51 (am_run (c_Nodes_sameContent s_Nodes_amountOf s_Nodes_isOf s_Nodes_byteOf) k_Nodes_sameContent J K n) K 48 L S M := by rfl
theorem r_Nodes_sameContent_51 {s_Nodes_amountOf : aS} {s_Nodes_isOf : aS} {s_Nodes_byteOf : aS} {J : aJ} {K : aR} {n : Nat} {L : aL} {S : List Value} {M : aM} : am_run (c_Nodes_sameContent s_Nodes_amountOf s_Nodes_isOf s_Nodes_byteOf) k_Nodes_sameContent J K (n + 1) 51 L S M = ai_cmpeq 56 54 (am_run (c_Nodes_sameContent s_Nodes_amountOf s_Nodes_isOf s_Nodes_byteOf) k_Nodes_sameContent J K n) K 51 L S M := by rfl
theorem r_Nodes_sameContent_54 {s_Nodes_amountOf : aS} {s_Nodes_isOf : aS} {s_Nodes_byteOf : aS} {J : aJ} {K : aR} {n : Nat} {L : aL} {S : List Value} {M : aM} : am_run (c_Nodes_sameContent s_Nodes_amountOf s_Nodes_isOf s_Nodes_byteOf) k_Nodes_sameContent J K (n + 1) 54 L S M = ai_const 0 55 (am_run (c_Nodes_sameContent s_Nodes_amountOf s_Nodes_isOf s_Nodes_byteOf) k_Nodes_sameContent J K n) K 54 L S M := by rfl
theorem r_Nodes_sameContent_55 {s_Nodes_amountOf : aS} {s_Nodes_isOf : aS} {s_Nodes_byteOf : aS} {J : aJ} {K : aR} {n : Nat} {L : aL} {S : List Value} {M : aM} : am_run (c_Nodes_sameContent s_Nodes_amountOf s_Nodes_isOf s_Nodes_byteOf) k_Nodes_sameContent J K (n + 1) 55 L S M = ai_zret (am_run (c_Nodes_sameContent s_Nodes_amountOf s_Nodes_isOf s_Nodes_byteOf) k_Nodes_sameContent J K n) K 55 L S M := by rfl
theorem r_Nodes_sameContent_56 {s_Nodes_amountOf : aS} {s_Nodes_isOf : aS} {s_Nodes_byteOf : aS} {J : aJ} {K : aR} {n : Nat} {L : aL} {S : List Value} {M : aM} : am_run (c_Nodes_sameContent s_Nodes_amountOf s_Nodes_isOf s_Nodes_byteOf) k_Nodes_sameContent J K (n + 1) 56 L S M = ai_iinc 4 1 59 (am_run (c_Nodes_sameContent s_Nodes_amountOf s_Nodes_isOf s_Nodes_byteOf) k_Nodes_sameContent J K n) K 56 L S M := by rfl
theorem r_Nodes_sameContent_59 {s_Nodes_amountOf : aS} {s_Nodes_isOf : aS} {s_Nodes_byteOf : aS} {J : aJ} {K : aR} {n : Nat} {L : aL} {S : List Value} {M : aM} : am_run (c_Nodes_sameContent s_Nodes_amountOf s_Nodes_isOf s_Nodes_byteOf) k_Nodes_sameContent J K (n + 1) 59 L S M = ai_goto 31 (am_run (c_Nodes_sameContent s_Nodes_amountOf s_Nodes_isOf s_Nodes_byteOf) k_Nodes_sameContent J K n) K 59 L S M := by rfl
theorem r_Nodes_sameContent_62 {s_Nodes_amountOf : aS} {s_Nodes_isOf : aS} {s_Nodes_byteOf : aS} {J : aJ} {K : aR} {n : Nat} {L : aL} {S : List Value} {M : aM} : am_run (c_Nodes_sameContent s_Nodes_amountOf s_Nodes_isOf s_Nodes_byteOf) k_Nodes_sameContent J K (n + 1) 62 L S M = ai_const 1 63 (am_run (c_Nodes_sameContent s_Nodes_amountOf s_Nodes_isOf s_Nodes_byteOf) k_Nodes_sameContent J K n) K 62 L S M := by rfl
theorem r_Nodes_sameContent_63 {s_Nodes_amountOf : aS} {s_Nodes_isOf : aS} {s_Nodes_byteOf : aS} {J : aJ} {K : aR} {n : Nat} {L : aL} {S : List Value} {M : aM} : am_run (c_Nodes_sameContent s_Nodes_amountOf s_Nodes_isOf s_Nodes_byteOf) k_Nodes_sameContent J K (n + 1) 63 L S M = ai_zret (am_run (c_Nodes_sameContent s_Nodes_amountOf s_Nodes_isOf s_Nodes_byteOf) k_Nodes_sameContent J K n) K 63 L S M := by rfl
def c_Nodes_quotedIn (s_Nodes_tailOf : aS) (s_Nodes_headOf : aS) (s_Nodes_isQuoteName : aS) (s_Nodes_isOf : aS) : List (Nat × aI) := [
  (0, ai_aload 0 1),
  (1, ai_iload 1 2),
  (2, ai_callv2 0 s_Nodes_tailOf 5),
  (5, ai_istore 2 6),
  (6, ai_aload 0 7),
  (7, ai_aload 0 8),
  (8, ai_iload 1 9),
  (9, ai_callv2 0 s_Nodes_headOf 12),
  (12, ai_callv2 0 s_Nodes_isQuoteName 15),
  (15, ai_ifeq 31 18),
  (18, ai_aload 0 19),
  (19, ai_aload 0 20),
  (20, ai_iload 2 21),
  (21, ai_callv2 0 s_Nodes_tailOf 24),
  (24, ai_const 5 25),
  (25, ai_callv3 0 s_Nodes_isOf 28),
  (28, ai_ifne 33 31),
  (31, ai_const (-1) 32),
  (32, ai_iret),
  (33, ai_aload 0 34),
  (34, ai_iload 2 35),
  (35, ai_callv2 0 s_Nodes_headOf 38),
  (38, ai_iret)]
set_option maxRecDepth 100000 in
set_option maxHeartbeats 4000000 in
theorem tb_Nodes_quotedIn {G : aG} {d : Nat} {s_Nodes_tailOf : aS} {d_Nodes_tailOf : Nat} (h_Nodes_tailOf : am_Sp G Y_Nodes_tailOf d_Nodes_tailOf s_Nodes_tailOf) (l_Nodes_tailOf : d_Nodes_tailOf < d) {s_Nodes_headOf : aS} {d_Nodes_headOf : Nat} (h_Nodes_headOf : am_Sp G Y_Nodes_headOf d_Nodes_headOf s_Nodes_headOf) (l_Nodes_headOf : d_Nodes_headOf < d) {s_Nodes_isQuoteName : aS} {d_Nodes_isQuoteName : Nat} (h_Nodes_isQuoteName : am_Sp G Y_Nodes_isQuoteName d_Nodes_isQuoteName s_Nodes_isQuoteName) (l_Nodes_isQuoteName : d_Nodes_isQuoteName < d) {s_Nodes_isOf : aS} {d_Nodes_isOf : Nat} (h_Nodes_isOf : am_Sp G Y_Nodes_isOf d_Nodes_isOf s_Nodes_isOf) (l_Nodes_isOf : d_Nodes_isOf < d) : am_tab G Y_Nodes_quotedIn d (c_Nodes_quotedIn s_Nodes_tailOf s_Nodes_headOf s_Nodes_isQuoteName s_Nodes_isOf) := by
  intro K p e s m args below meth c C
  exact ⟨as_aload_n C (pc := 0) (q := 0) (by decide +kernel) rfl rfl,
    as_iload_n C (pc := 1) (q := 1) (by decide +kernel) rfl rfl,
    as_callv2 C (pc := 2) h_Nodes_tailOf (T := T_Nodes) (N := 10) rfl w_433 w_72 w_432 w_38 w_487 hy_Nodes_tailOf (am_rm_of l_Nodes_tailOf (by decide)) (by decide +kernel) rfl,
    as_istore_n C (pc := 5) (q := 2) (by decide +kernel) rfl (by decide) rfl,
    as_aload_n C (pc := 6) (q := 0) (by decide +kernel) rfl rfl,
    as_aload_n C (pc := 7) (q := 0) (by decide +kernel) rfl rfl,
    as_iload_n C (pc := 8) (q := 1) (by decide +kernel) rfl rfl,
    as_callv2 C (pc := 9) h_Nodes_headOf (T := T_Nodes) (N := 10) rfl w_429 w_72 w_428 w_37 w_488 hy_Nodes_headOf (am_rm_of l_Nodes_headOf (by decide)) (by decide +kernel) rfl,
    as_callv2 C (pc := 12) h_Nodes_isQuoteName (T := T_Nodes) (N := 10) rfl w_492 w_72 w_491 w_48 w_489 hy_Nodes_isQuoteName (am_rm_of l_Nodes_isQuoteName (by decide)) (by decide +kernel) rfl,
    as_ifeq C (pc := 15) (off := 16) (by decide +kernel) (by decide) rfl,
    as_aload_n C (pc := 18) (q := 0) (by decide +kernel) rfl rfl,
    as_aload_n C (pc := 19) (q := 0) (by decide +kernel) rfl rfl,
    as_iload_n C (pc := 20) (q := 2) (by decide +kernel) rfl rfl,
    as_callv2 C (pc := 21) h_Nodes_tailOf (T := T_Nodes) (N := 10) rfl w_433 w_72 w_432 w_38 w_487 hy_Nodes_tailOf (am_rm_of l_Nodes_tailOf (by decide)) (by decide +kernel) rfl,
    as_iconst C (pc := 24) (n := 5) (by decide +kernel) (by decide +kernel) rfl,
    as_callv3 C (pc := 25) h_Nodes_isOf (T := T_Nodes) (N := 10) rfl w_421 w_72 w_420 w_36 w_418 hy_Nodes_isOf (am_rm_of l_Nodes_isOf (by decide)) (by decide +kernel) rfl,
    as_ifne C (pc := 28) (off := 5) (by decide +kernel) (by decide) rfl,
    as_iconst C (pc := 31) (n := (-1)) (by decide +kernel) (by decide +kernel) rfl,
    as_iret C (pc := 32) rfl (by decide +kernel),
    as_aload_n C (pc := 33) (q := 0) (by decide +kernel) rfl rfl,
    as_iload_n C (pc := 34) (q := 2) (by decide +kernel) rfl rfl,
    as_callv2 C (pc := 35) h_Nodes_headOf (T := T_Nodes) (N := 10) rfl w_429 w_72 w_428 w_37 w_488 hy_Nodes_headOf (am_rm_of l_Nodes_headOf (by decide)) (by decide +kernel) rfl,
    as_iret C (pc := 38) rfl (by decide +kernel), trivial⟩
abbrev k_Nodes_quotedIn : List Nat := []
theorem r_Nodes_quotedIn_0 {s_Nodes_tailOf : aS} {s_Nodes_headOf : aS} {s_Nodes_isQuoteName : aS} {s_Nodes_isOf : aS} {J : aJ} {K : aR} {n : Nat} {L : aL} {S : List Value} {M : aM} : am_run (c_Nodes_quotedIn s_Nodes_tailOf s_Nodes_headOf s_Nodes_isQuoteName s_Nodes_isOf) k_Nodes_quotedIn J K (n + 1) 0 L S M = ai_aload 0 1 (am_run (c_Nodes_quotedIn s_Nodes_tailOf s_Nodes_headOf s_Nodes_isQuoteName s_Nodes_isOf) k_Nodes_quotedIn J K n) K 0 L S M := by rfl
theorem r_Nodes_quotedIn_1 {s_Nodes_tailOf : aS} {s_Nodes_headOf : aS} {s_Nodes_isQuoteName : aS} {s_Nodes_isOf : aS} {J : aJ} {K : aR} {n : Nat} {L : aL} {S : List Value} {M : aM} : am_run (c_Nodes_quotedIn s_Nodes_tailOf s_Nodes_headOf s_Nodes_isQuoteName s_Nodes_isOf) k_Nodes_quotedIn J K (n + 1) 1 L S M = ai_iload 1 2 (am_run (c_Nodes_quotedIn s_Nodes_tailOf s_Nodes_headOf s_Nodes_isQuoteName s_Nodes_isOf) k_Nodes_quotedIn J K n) K 1 L S M := by rfl
theorem r_Nodes_quotedIn_2 {s_Nodes_tailOf : aS} {s_Nodes_headOf : aS} {s_Nodes_isQuoteName : aS} {s_Nodes_isOf : aS} {J : aJ} {K : aR} {n : Nat} {L : aL} {S : List Value} {M : aM} : am_run (c_Nodes_quotedIn s_Nodes_tailOf s_Nodes_headOf s_Nodes_isQuoteName s_Nodes_isOf) k_Nodes_quotedIn J K (n + 1) 2 L S M = ai_callv2 0 s_Nodes_tailOf 5 (am_run (c_Nodes_quotedIn s_Nodes_tailOf s_Nodes_headOf s_Nodes_isQuoteName s_Nodes_isOf) k_Nodes_quotedIn J K n) K 2 L S M := by rfl
theorem r_Nodes_quotedIn_5 {s_Nodes_tailOf : aS} {s_Nodes_headOf : aS} {s_Nodes_isQuoteName : aS} {s_Nodes_isOf : aS} {J : aJ} {K : aR} {n : Nat} {L : aL} {S : List Value} {M : aM} : am_run (c_Nodes_quotedIn s_Nodes_tailOf s_Nodes_headOf s_Nodes_isQuoteName s_Nodes_isOf) k_Nodes_quotedIn J K (n + 1) 5 L S M = ai_istore 2 6 (am_run (c_Nodes_quotedIn s_Nodes_tailOf s_Nodes_headOf s_Nodes_isQuoteName s_Nodes_isOf) k_Nodes_quotedIn J K n) K 5 L S M := by rfl
theorem r_Nodes_quotedIn_6 {s_Nodes_tailOf : aS} {s_Nodes_headOf : aS} {s_Nodes_isQuoteName : aS} {s_Nodes_isOf : aS} {J : aJ} {K : aR} {n : Nat} {L : aL} {S : List Value} {M : aM} : am_run (c_Nodes_quotedIn s_Nodes_tailOf s_Nodes_headOf s_Nodes_isQuoteName s_Nodes_isOf) k_Nodes_quotedIn J K (n + 1) 6 L S M = ai_aload 0 7 (am_run (c_Nodes_quotedIn s_Nodes_tailOf s_Nodes_headOf s_Nodes_isQuoteName s_Nodes_isOf) k_Nodes_quotedIn J K n) K 6 L S M := by rfl
theorem r_Nodes_quotedIn_7 {s_Nodes_tailOf : aS} {s_Nodes_headOf : aS} {s_Nodes_isQuoteName : aS} {s_Nodes_isOf : aS} {J : aJ} {K : aR} {n : Nat} {L : aL} {S : List Value} {M : aM} : am_run (c_Nodes_quotedIn s_Nodes_tailOf s_Nodes_headOf s_Nodes_isQuoteName s_Nodes_isOf) k_Nodes_quotedIn J K (n + 1) 7 L S M = ai_aload 0 8 (am_run (c_Nodes_quotedIn s_Nodes_tailOf s_Nodes_headOf s_Nodes_isQuoteName s_Nodes_isOf) k_Nodes_quotedIn J K n) K 7 L S M := by rfl
theorem r_Nodes_quotedIn_8 {s_Nodes_tailOf : aS} {s_Nodes_headOf : aS} {s_Nodes_isQuoteName : aS} {s_Nodes_isOf : aS} {J : aJ} {K : aR} {n : Nat} {L : aL} {S : List Value} {M : aM} : am_run (c_Nodes_quotedIn s_Nodes_tailOf s_Nodes_headOf s_Nodes_isQuoteName s_Nodes_isOf) k_Nodes_quotedIn J K (n + 1) 8 L S M = ai_iload 1 9 (am_run (c_Nodes_quotedIn s_Nodes_tailOf s_Nodes_headOf s_Nodes_isQuoteName s_Nodes_isOf) k_Nodes_quotedIn J K n) K 8 L S M := by rfl
theorem r_Nodes_quotedIn_9 {s_Nodes_tailOf : aS} {s_Nodes_headOf : aS} {s_Nodes_isQuoteName : aS} {s_Nodes_isOf : aS} {J : aJ} {K : aR} {n : Nat} {L : aL} {S : List Value} {M : aM} : am_run (c_Nodes_quotedIn s_Nodes_tailOf s_Nodes_headOf s_Nodes_isQuoteName s_Nodes_isOf) k_Nodes_quotedIn J K (n + 1) 9 L S M = ai_callv2 0 s_Nodes_headOf 12 (am_run (c_Nodes_quotedIn s_Nodes_tailOf s_Nodes_headOf s_Nodes_isQuoteName s_Nodes_isOf) k_Nodes_quotedIn J K n) K 9 L S M := by rfl
theorem r_Nodes_quotedIn_12 {s_Nodes_tailOf : aS} {s_Nodes_headOf : aS} {s_Nodes_isQuoteName : aS} {s_Nodes_isOf : aS} {J : aJ} {K : aR} {n : Nat} {L : aL} {S : List Value} {M : aM} : am_run (c_Nodes_quotedIn s_Nodes_tailOf s_Nodes_headOf s_Nodes_isQuoteName s_Nodes_isOf) k_Nodes_quotedIn J K (n + 1) 12 L S M = ai_callv2 0 s_Nodes_isQuoteName 15 (am_run (c_Nodes_quotedIn s_Nodes_tailOf s_Nodes_headOf s_Nodes_isQuoteName s_Nodes_isOf) k_Nodes_quotedIn J K n) K 12 L S M := by rfl
theorem r_Nodes_quotedIn_15 {s_Nodes_tailOf : aS} {s_Nodes_headOf : aS} {s_Nodes_isQuoteName : aS} {s_Nodes_isOf : aS} {J : aJ} {K : aR} {n : Nat} {L : aL} {S : List Value} {M : aM} : am_run (c_Nodes_quotedIn s_Nodes_tailOf s_Nodes_headOf s_Nodes_isQuoteName s_Nodes_isOf) k_Nodes_quotedIn J K (n + 1) 15 L S M = ai_ifeq 31 18 (am_run (c_Nodes_quotedIn s_Nodes_tailOf s_Nodes_headOf s_Nodes_isQuoteName s_Nodes_isOf) k_Nodes_quotedIn J K n) K 15 L S M := by rfl
theorem r_Nodes_quotedIn_18 {s_Nodes_tailOf : aS} {s_Nodes_headOf : aS} {s_Nodes_isQuoteName : aS} {s_Nodes_isOf : aS} {J : aJ} {K : aR} {n : Nat} {L : aL} {S : List Value} {M : aM} : am_run (c_Nodes_quotedIn s_Nodes_tailOf s_Nodes_headOf s_Nodes_isQuoteName s_Nodes_isOf) k_Nodes_quotedIn J K (n + 1) 18 L S M = ai_aload 0 19 (am_run (c_Nodes_quotedIn s_Nodes_tailOf s_Nodes_headOf s_Nodes_isQuoteName s_Nodes_isOf) k_Nodes_quotedIn J K n) K 18 L S M := by rfl
theorem r_Nodes_quotedIn_19 {s_Nodes_tailOf : aS} {s_Nodes_headOf : aS} {s_Nodes_isQuoteName : aS} {s_Nodes_isOf : aS} {J : aJ} {K : aR} {n : Nat} {L : aL} {S : List Value} {M : aM} : am_run (c_Nodes_quotedIn s_Nodes_tailOf s_Nodes_headOf s_Nodes_isQuoteName s_Nodes_isOf) k_Nodes_quotedIn J K (n + 1) 19 L S M = ai_aload 0 20 (am_run (c_Nodes_quotedIn s_Nodes_tailOf s_Nodes_headOf s_Nodes_isQuoteName s_Nodes_isOf) k_Nodes_quotedIn J K n) K 19 L S M := by rfl
theorem r_Nodes_quotedIn_20 {s_Nodes_tailOf : aS} {s_Nodes_headOf : aS} {s_Nodes_isQuoteName : aS} {s_Nodes_isOf : aS} {J : aJ} {K : aR} {n : Nat} {L : aL} {S : List Value} {M : aM} : am_run (c_Nodes_quotedIn s_Nodes_tailOf s_Nodes_headOf s_Nodes_isQuoteName s_Nodes_isOf) k_Nodes_quotedIn J K (n + 1) 20 L S M = ai_iload 2 21 (am_run (c_Nodes_quotedIn s_Nodes_tailOf s_Nodes_headOf s_Nodes_isQuoteName s_Nodes_isOf) k_Nodes_quotedIn J K n) K 20 L S M := by rfl
theorem r_Nodes_quotedIn_21 {s_Nodes_tailOf : aS} {s_Nodes_headOf : aS} {s_Nodes_isQuoteName : aS} {s_Nodes_isOf : aS} {J : aJ} {K : aR} {n : Nat} {L : aL} {S : List Value} {M : aM} : am_run (c_Nodes_quotedIn s_Nodes_tailOf s_Nodes_headOf s_Nodes_isQuoteName s_Nodes_isOf) k_Nodes_quotedIn J K (n + 1) 21 L S M = ai_callv2 0 s_Nodes_tailOf 24 (am_run (c_Nodes_quotedIn s_Nodes_tailOf s_Nodes_headOf s_Nodes_isQuoteName s_Nodes_isOf) k_Nodes_quotedIn J K n) K 21 L S M := by rfl
theorem r_Nodes_quotedIn_24 {s_Nodes_tailOf : aS} {s_Nodes_headOf : aS} {s_Nodes_isQuoteName : aS} {s_Nodes_isOf : aS} {J : aJ} {K : aR} {n : Nat} {L : aL} {S : List Value} {M : aM} : am_run (c_Nodes_quotedIn s_Nodes_tailOf s_Nodes_headOf s_Nodes_isQuoteName s_Nodes_isOf) k_Nodes_quotedIn J K (n + 1) 24 L S M = ai_const 5 25 (am_run (c_Nodes_quotedIn s_Nodes_tailOf s_Nodes_headOf s_Nodes_isQuoteName s_Nodes_isOf) k_Nodes_quotedIn J K n) K 24 L S M := by rfl
theorem r_Nodes_quotedIn_25 {s_Nodes_tailOf : aS} {s_Nodes_headOf : aS} {s_Nodes_isQuoteName : aS} {s_Nodes_isOf : aS} {J : aJ} {K : aR} {n : Nat} {L : aL} {S : List Value} {M : aM} : am_run (c_Nodes_quotedIn s_Nodes_tailOf s_Nodes_headOf s_Nodes_isQuoteName s_Nodes_isOf) k_Nodes_quotedIn J K (n + 1) 25 L S M = ai_callv3 0 s_Nodes_isOf 28 (am_run (c_Nodes_quotedIn s_Nodes_tailOf s_Nodes_headOf s_Nodes_isQuoteName s_Nodes_isOf) k_Nodes_quotedIn J K n) K 25 L S M := by rfl
theorem r_Nodes_quotedIn_28 {s_Nodes_tailOf : aS} {s_Nodes_headOf : aS} {s_Nodes_isQuoteName : aS} {s_Nodes_isOf : aS} {J : aJ} {K : aR} {n : Nat} {L : aL} {S : List Value} {M : aM} : am_run (c_Nodes_quotedIn s_Nodes_tailOf s_Nodes_headOf s_Nodes_isQuoteName s_Nodes_isOf) k_Nodes_quotedIn J K (n + 1) 28 L S M = ai_ifne 33 31 (am_run (c_Nodes_quotedIn s_Nodes_tailOf s_Nodes_headOf s_Nodes_isQuoteName s_Nodes_isOf) k_Nodes_quotedIn J K n) K 28 L S M := by rfl
theorem r_Nodes_quotedIn_31 {s_Nodes_tailOf : aS} {s_Nodes_headOf : aS} {s_Nodes_isQuoteName : aS} {s_Nodes_isOf : aS} {J : aJ} {K : aR} {n : Nat} {L : aL} {S : List Value} {M : aM} : am_run (c_Nodes_quotedIn s_Nodes_tailOf s_Nodes_headOf s_Nodes_isQuoteName s_Nodes_isOf) k_Nodes_quotedIn J K (n + 1) 31 L S M = ai_const (-1) 32 (am_run (c_Nodes_quotedIn s_Nodes_tailOf s_Nodes_headOf s_Nodes_isQuoteName s_Nodes_isOf) k_Nodes_quotedIn J K n) K 31 L S M := by rfl
theorem r_Nodes_quotedIn_32 {s_Nodes_tailOf : aS} {s_Nodes_headOf : aS} {s_Nodes_isQuoteName : aS} {s_Nodes_isOf : aS} {J : aJ} {K : aR} {n : Nat} {L : aL} {S : List Value} {M : aM} : am_run (c_Nodes_quotedIn s_Nodes_tailOf s_Nodes_headOf s_Nodes_isQuoteName s_Nodes_isOf) k_Nodes_quotedIn J K (n + 1) 32 L S M = ai_iret (am_run (c_Nodes_quotedIn s_Nodes_tailOf s_Nodes_headOf s_Nodes_isQuoteName s_Nodes_isOf) k_Nodes_quotedIn J K n) K 32 L S M := by rfl
theorem r_Nodes_quotedIn_33 {s_Nodes_tailOf : aS} {s_Nodes_headOf : aS} {s_Nodes_isQuoteName : aS} {s_Nodes_isOf : aS} {J : aJ} {K : aR} {n : Nat} {L : aL} {S : List Value} {M : aM} : am_run (c_Nodes_quotedIn s_Nodes_tailOf s_Nodes_headOf s_Nodes_isQuoteName s_Nodes_isOf) k_Nodes_quotedIn J K (n + 1) 33 L S M = ai_aload 0 34 (am_run (c_Nodes_quotedIn s_Nodes_tailOf s_Nodes_headOf s_Nodes_isQuoteName s_Nodes_isOf) k_Nodes_quotedIn J K n) K 33 L S M := by rfl
theorem r_Nodes_quotedIn_34 {s_Nodes_tailOf : aS} {s_Nodes_headOf : aS} {s_Nodes_isQuoteName : aS} {s_Nodes_isOf : aS} {J : aJ} {K : aR} {n : Nat} {L : aL} {S : List Value} {M : aM} : am_run (c_Nodes_quotedIn s_Nodes_tailOf s_Nodes_headOf s_Nodes_isQuoteName s_Nodes_isOf) k_Nodes_quotedIn J K (n + 1) 34 L S M = ai_iload 2 35 (am_run (c_Nodes_quotedIn s_Nodes_tailOf s_Nodes_headOf s_Nodes_isQuoteName s_Nodes_isOf) k_Nodes_quotedIn J K n) K 34 L S M := by rfl
theorem r_Nodes_quotedIn_35 {s_Nodes_tailOf : aS} {s_Nodes_headOf : aS} {s_Nodes_isQuoteName : aS} {s_Nodes_isOf : aS} {J : aJ} {K : aR} {n : Nat} {L : aL} {S : List Value} {M : aM} : am_run (c_Nodes_quotedIn s_Nodes_tailOf s_Nodes_headOf s_Nodes_isQuoteName s_Nodes_isOf) k_Nodes_quotedIn J K (n + 1) 35 L S M = ai_callv2 0 s_Nodes_headOf 38 (am_run (c_Nodes_quotedIn s_Nodes_tailOf s_Nodes_headOf s_Nodes_isQuoteName s_Nodes_isOf) k_Nodes_quotedIn J K n) K 35 L S M := by rfl
theorem r_Nodes_quotedIn_38 {s_Nodes_tailOf : aS} {s_Nodes_headOf : aS} {s_Nodes_isQuoteName : aS} {s_Nodes_isOf : aS} {J : aJ} {K : aR} {n : Nat} {L : aL} {S : List Value} {M : aM} : am_run (c_Nodes_quotedIn s_Nodes_tailOf s_Nodes_headOf s_Nodes_isQuoteName s_Nodes_isOf) k_Nodes_quotedIn J K (n + 1) 38 L S M = ai_iret (am_run (c_Nodes_quotedIn s_Nodes_tailOf s_Nodes_headOf s_Nodes_isQuoteName s_Nodes_isOf) k_Nodes_quotedIn J K n) K 38 L S M := by rfl
def c_Nodes_isQuoteName (s_Nodes_isOf : aS) (s_Nodes_byteOf : aS) : List (Nat × aI) := [
  (0, ai_aload 0 1),
  (1, ai_iload 1 2),
  (2, ai_const 2 3),
  (3, ai_callv3 0 s_Nodes_isOf 6),
  (6, ai_ifeq 22 9),
  (9, ai_aload 0 10),
  (10, ai_getf 0 1 13),
  (13, ai_iload 1 14),
  (14, ai_iald 15),
  (15, ai_gets (.ref 1000) 18),
  (18, ai_xlen 1000 5 19),
  (19, ai_cmpeq 24 22),
  (22, ai_const 0 23),
  (23, ai_zret),
  (24, ai_const 0 25),
  (25, ai_istore 2 26),
  (26, ai_iload 2 27),
  (27, ai_gets (.ref 1000) 30),
  (30, ai_xlen 1000 5 31),
  (31, ai_cmpge 56 34),
  (34, ai_aload 0 35),
  (35, ai_iload 1 36),
  (36, ai_iload 2 37),
  (37, ai_callv3 0 s_Nodes_byteOf 40),
  (40, ai_gets (.ref 1000) 43),
  (43, ai_iload 2 44),
  (44, ai_xald 1000 5 QF 45),
  (45, ai_cmpeq 50 48),
  (48, ai_const 0 49),
  (49, ai_zret),
  (50, ai_iinc 2 1 53),
  (53, ai_goto 26),
  (56, ai_const 1 57),
  (57, ai_zret)]
set_option maxRecDepth 100000 in
set_option maxHeartbeats 4000000 in
theorem tb_Nodes_isQuoteName {G : aG} {d : Nat} {s_Nodes_isOf : aS} {d_Nodes_isOf : Nat} (h_Nodes_isOf : am_Sp G Y_Nodes_isOf d_Nodes_isOf s_Nodes_isOf) (l_Nodes_isOf : d_Nodes_isOf < d) {s_Nodes_byteOf : aS} {d_Nodes_byteOf : Nat} (h_Nodes_byteOf : am_Sp G Y_Nodes_byteOf d_Nodes_byteOf s_Nodes_byteOf) (l_Nodes_byteOf : d_Nodes_byteOf < d) : am_tab G Y_Nodes_isQuoteName d (c_Nodes_isQuoteName s_Nodes_isOf s_Nodes_byteOf) := by
  intro K p e s m args below meth c C
  exact ⟨as_aload_n C (pc := 0) (q := 0) (by decide +kernel) rfl rfl,
    as_iload_n C (pc := 1) (q := 1) (by decide +kernel) rfl rfl,
    as_iconst C (pc := 2) (n := 2) (by decide +kernel) (by decide +kernel) rfl,
    as_callv3 C (pc := 3) h_Nodes_isOf (T := T_Nodes) (N := 10) rfl w_421 w_72 w_420 w_36 w_418 hy_Nodes_isOf (am_rm_of l_Nodes_isOf (by decide)) (by decide +kernel) rfl,
    as_ifeq C (pc := 6) (off := 16) (by decide +kernel) (by decide) rfl,
    as_aload_n C (pc := 9) (q := 0) (by decide +kernel) rfl rfl,
    as_getf C (pc := 10) (T := T_Nodes) (N := 10) rfl in_Nodes (by decide) rfl w_119 (by decide +kernel) rfl,
    as_iload_n C (pc := 13) (q := 1) (by decide +kernel) rfl rfl,
    as_iald C (pc := 14) (by decide +kernel) rfl,
    as_getsN C (pc := 15) (Cn := "DatumDesk") (f := "QUOTE") (d := "[I") List.mem_cons_self w_113 (by decide +kernel) rfl,
    as_xlen C (pc := 18) (hm_1000 G) (by decide +kernel) rfl,
    as_cmpeq C (pc := 19) (off := 5) (by decide +kernel) (by decide) rfl,
    as_iconst C (pc := 22) (n := 0) (by decide +kernel) (by decide +kernel) rfl,
    as_zret C (pc := 23) rfl (by decide +kernel),
    as_iconst C (pc := 24) (n := 0) (by decide +kernel) (by decide +kernel) rfl,
    as_istore_n C (pc := 25) (q := 2) (by decide +kernel) rfl (by decide) rfl,
    as_iload_n C (pc := 26) (q := 2) (by decide +kernel) rfl rfl,
    as_getsN C (pc := 27) (Cn := "DatumDesk") (f := "QUOTE") (d := "[I") List.mem_cons_self w_113 (by decide +kernel) rfl,
    as_xlen C (pc := 30) (hm_1000 G) (by decide +kernel) rfl,
    as_cmpge C (pc := 31) (off := 25) (by decide +kernel) (by decide) rfl,
    as_aload_n C (pc := 34) (q := 0) (by decide +kernel) rfl rfl,
    as_iload_n C (pc := 35) (q := 1) (by decide +kernel) rfl rfl,
    as_iload_n C (pc := 36) (q := 2) (by decide +kernel) rfl rfl,
    as_callv3 C (pc := 37) h_Nodes_byteOf (T := T_Nodes) (N := 10) rfl w_417 w_72 w_416 w_35 w_449 hy_Nodes_byteOf (am_rm_of l_Nodes_byteOf (by decide)) (by decide +kernel) rfl,
    as_getsN C (pc := 40) (Cn := "DatumDesk") (f := "QUOTE") (d := "[I") List.mem_cons_self w_113 (by decide +kernel) rfl,
    as_iload_n C (pc := 43) (q := 2) (by decide +kernel) rfl rfl,
    as_xald C (pc := 44) (hm_1000 G) (by decide +kernel) rfl,
    as_cmpeq C (pc := 45) (off := 5) (by decide +kernel) (by decide) rfl,
    as_iconst C (pc := 48) (n := 0) (by decide +kernel) (by decide +kernel) rfl,
    as_zret C (pc := 49) rfl (by decide +kernel),
    as_iinc C (pc := 50) (k := 2) (n := 1) (by decide +kernel) (by decide +kernel) (by decide) rfl,
    as_goto C (pc := 53) (off := (-27)) (by decide +kernel) (by decide),
    as_iconst C (pc := 56) (n := 1) (by decide +kernel) (by decide +kernel) rfl,
    as_zret C (pc := 57) rfl (by decide +kernel), trivial⟩
abbrev k_Nodes_isQuoteName : List Nat := [26]
theorem q_Nodes_isQuoteName_26 {s_Nodes_isOf : aS} {s_Nodes_byteOf : aS} : am_at (c_Nodes_isQuoteName s_Nodes_isOf s_Nodes_byteOf) 26 = ai_iload 2 27 := by rfl
theorem r_Nodes_isQuoteName_0 {s_Nodes_isOf : aS} {s_Nodes_byteOf : aS} {J : aJ} {K : aR} {n : Nat} {L : aL} {S : List Value} {M : aM} : am_run (c_Nodes_isQuoteName s_Nodes_isOf s_Nodes_byteOf) k_Nodes_isQuoteName J K (n + 1) 0 L S M = ai_aload 0 1 (am_run (c_Nodes_isQuoteName s_Nodes_isOf s_Nodes_byteOf) k_Nodes_isQuoteName J K n) K 0 L S M := by rfl
theorem r_Nodes_isQuoteName_1 {s_Nodes_isOf : aS} {s_Nodes_byteOf : aS} {J : aJ} {K : aR} {n : Nat} {L : aL} {S : List Value} {M : aM} : am_run (c_Nodes_isQuoteName s_Nodes_isOf s_Nodes_byteOf) k_Nodes_isQuoteName J K (n + 1) 1 L S M = ai_iload 1 2 (am_run (c_Nodes_isQuoteName s_Nodes_isOf s_Nodes_byteOf) k_Nodes_isQuoteName J K n) K 1 L S M := by rfl
theorem r_Nodes_isQuoteName_2 {s_Nodes_isOf : aS} {s_Nodes_byteOf : aS} {J : aJ} {K : aR} {n : Nat} {L : aL} {S : List Value} {M : aM} : am_run (c_Nodes_isQuoteName s_Nodes_isOf s_Nodes_byteOf) k_Nodes_isQuoteName J K (n + 1) 2 L S M = ai_const 2 3 (am_run (c_Nodes_isQuoteName s_Nodes_isOf s_Nodes_byteOf) k_Nodes_isQuoteName J K n) K 2 L S M := by rfl
theorem r_Nodes_isQuoteName_3 {s_Nodes_isOf : aS} {s_Nodes_byteOf : aS} {J : aJ} {K : aR} {n : Nat} {L : aL} {S : List Value} {M : aM} : am_run (c_Nodes_isQuoteName s_Nodes_isOf s_Nodes_byteOf) k_Nodes_isQuoteName J K (n + 1) 3 L S M = ai_callv3 0 s_Nodes_isOf 6 (am_run (c_Nodes_isQuoteName s_Nodes_isOf s_Nodes_byteOf) k_Nodes_isQuoteName J K n) K 3 L S M := by rfl
theorem r_Nodes_isQuoteName_6 {s_Nodes_isOf : aS} {s_Nodes_byteOf : aS} {J : aJ} {K : aR} {n : Nat} {L : aL} {S : List Value} {M : aM} : am_run (c_Nodes_isQuoteName s_Nodes_isOf s_Nodes_byteOf) k_Nodes_isQuoteName J K (n + 1) 6 L S M = ai_ifeq 22 9 (am_run (c_Nodes_isQuoteName s_Nodes_isOf s_Nodes_byteOf) k_Nodes_isQuoteName J K n) K 6 L S M := by rfl
theorem r_Nodes_isQuoteName_9 {s_Nodes_isOf : aS} {s_Nodes_byteOf : aS} {J : aJ} {K : aR} {n : Nat} {L : aL} {S : List Value} {M : aM} : am_run (c_Nodes_isQuoteName s_Nodes_isOf s_Nodes_byteOf) k_Nodes_isQuoteName J K (n + 1) 9 L S M = ai_aload 0 10 (am_run (c_Nodes_isQuoteName s_Nodes_isOf s_Nodes_byteOf) k_Nodes_isQuoteName J K n) K 9 L S M := by rfl
theorem r_Nodes_isQuoteName_10 {s_Nodes_isOf : aS} {s_Nodes_byteOf : aS} {J : aJ} {K : aR} {n : Nat} {L : aL} {S : List Value} {M : aM} : am_run (c_Nodes_isQuoteName s_Nodes_isOf s_Nodes_byteOf) k_Nodes_isQuoteName J K (n + 1) 10 L S M = ai_getf 0 1 13 (am_run (c_Nodes_isQuoteName s_Nodes_isOf s_Nodes_byteOf) k_Nodes_isQuoteName J K n) K 10 L S M := by rfl
theorem r_Nodes_isQuoteName_13 {s_Nodes_isOf : aS} {s_Nodes_byteOf : aS} {J : aJ} {K : aR} {n : Nat} {L : aL} {S : List Value} {M : aM} : am_run (c_Nodes_isQuoteName s_Nodes_isOf s_Nodes_byteOf) k_Nodes_isQuoteName J K (n + 1) 13 L S M = ai_iload 1 14 (am_run (c_Nodes_isQuoteName s_Nodes_isOf s_Nodes_byteOf) k_Nodes_isQuoteName J K n) K 13 L S M := by rfl
theorem r_Nodes_isQuoteName_14 {s_Nodes_isOf : aS} {s_Nodes_byteOf : aS} {J : aJ} {K : aR} {n : Nat} {L : aL} {S : List Value} {M : aM} : am_run (c_Nodes_isQuoteName s_Nodes_isOf s_Nodes_byteOf) k_Nodes_isQuoteName J K (n + 1) 14 L S M = ai_iald 15 (am_run (c_Nodes_isQuoteName s_Nodes_isOf s_Nodes_byteOf) k_Nodes_isQuoteName J K n) K 14 L S M := by rfl
theorem r_Nodes_isQuoteName_15 {s_Nodes_isOf : aS} {s_Nodes_byteOf : aS} {J : aJ} {K : aR} {n : Nat} {L : aL} {S : List Value} {M : aM} : am_run (c_Nodes_isQuoteName s_Nodes_isOf s_Nodes_byteOf) k_Nodes_isQuoteName J K (n + 1) 15 L S M = ai_gets (.ref 1000) 18 (am_run (c_Nodes_isQuoteName s_Nodes_isOf s_Nodes_byteOf) k_Nodes_isQuoteName J K n) K 15 L S M := by rfl
theorem r_Nodes_isQuoteName_18 {s_Nodes_isOf : aS} {s_Nodes_byteOf : aS} {J : aJ} {K : aR} {n : Nat} {L : aL} {S : List Value} {M : aM} : am_run (c_Nodes_isQuoteName s_Nodes_isOf s_Nodes_byteOf) k_Nodes_isQuoteName J K (n + 1) 18 L S M = ai_xlen 1000 5 19 (am_run (c_Nodes_isQuoteName s_Nodes_isOf s_Nodes_byteOf) k_Nodes_isQuoteName J K n) K 18 L S M := by rfl
theorem r_Nodes_isQuoteName_19 {s_Nodes_isOf : aS} {s_Nodes_byteOf : aS} {J : aJ} {K : aR} {n : Nat} {L : aL} {S : List Value} {M : aM} : am_run (c_Nodes_isQuoteName s_Nodes_isOf s_Nodes_byteOf) k_Nodes_isQuoteName J K (n + 1) 19 L S M = ai_cmpeq 24 22 (am_run (c_Nodes_isQuoteName s_Nodes_isOf s_Nodes_byteOf) k_Nodes_isQuoteName J K n) K 19 L S M := by rfl
theorem r_Nodes_isQuoteName_22 {s_Nodes_isOf : aS} {s_Nodes_byteOf : aS} {J : aJ} {K : aR} {n : Nat} {L : aL} {S : List Value} {M : aM} : am_run (c_Nodes_isQuoteName s_Nodes_isOf s_Nodes_byteOf) k_Nodes_isQuoteName J K (n + 1) 22 L S M = ai_const 0 23 (am_run (c_Nodes_isQuoteName s_Nodes_isOf s_Nodes_byteOf) k_Nodes_isQuoteName J K n) K 22 L S M := by rfl
theorem r_Nodes_isQuoteName_23 {s_Nodes_isOf : aS} {s_Nodes_byteOf : aS} {J : aJ} {K : aR} {n : Nat} {L : aL} {S : List Value} {M : aM} : am_run (c_Nodes_isQuoteName s_Nodes_isOf s_Nodes_byteOf) k_Nodes_isQuoteName J K (n + 1) 23 L S M = ai_zret (am_run (c_Nodes_isQuoteName s_Nodes_isOf s_Nodes_byteOf) k_Nodes_isQuoteName J K n) K 23 L S M := by rfl
theorem r_Nodes_isQuoteName_24 {s_Nodes_isOf : aS} {s_Nodes_byteOf : aS} {J : aJ} {K : aR} {n : Nat} {L : aL} {S : List Value} {M : aM} : am_run (c_Nodes_isQuoteName s_Nodes_isOf s_Nodes_byteOf) k_Nodes_isQuoteName J K (n + 1) 24 L S M = ai_const 0 25 (am_run (c_Nodes_isQuoteName s_Nodes_isOf s_Nodes_byteOf) k_Nodes_isQuoteName J K n) K 24 L S M := by rfl
theorem r_Nodes_isQuoteName_25 {s_Nodes_isOf : aS} {s_Nodes_byteOf : aS} {J : aJ} {K : aR} {n : Nat} {L : aL} {S : List Value} {M : aM} : am_run (c_Nodes_isQuoteName s_Nodes_isOf s_Nodes_byteOf) k_Nodes_isQuoteName J K (n + 1) 25 L S M = ai_istore 2 26 (am_run (c_Nodes_isQuoteName s_Nodes_isOf s_Nodes_byteOf) k_Nodes_isQuoteName J K n) K 25 L S M := by rfl
theorem r_Nodes_isQuoteName_26 {s_Nodes_isOf : aS} {s_Nodes_byteOf : aS} {J : aJ} {K : aR} {n : Nat} {L : aL} {S : List Value} {M : aM} : am_run (c_Nodes_isQuoteName s_Nodes_isOf s_Nodes_byteOf) k_Nodes_isQuoteName J K (n + 1) 26 L S M = J 26 L S M := by rfl
theorem r_Nodes_isQuoteName_27 {s_Nodes_isOf : aS} {s_Nodes_byteOf : aS} {J : aJ} {K : aR} {n : Nat} {L : aL} {S : List Value} {M : aM} : am_run (c_Nodes_isQuoteName s_Nodes_isOf s_Nodes_byteOf) k_Nodes_isQuoteName J K (n + 1) 27 L S M = ai_gets (.ref 1000) 30 (am_run (c_Nodes_isQuoteName s_Nodes_isOf s_Nodes_byteOf) k_Nodes_isQuoteName J K n) K 27 L S M := by rfl
theorem r_Nodes_isQuoteName_30 {s_Nodes_isOf : aS} {s_Nodes_byteOf : aS} {J : aJ} {K : aR} {n : Nat} {L : aL} {S : List Value} {M : aM} : am_run (c_Nodes_isQuoteName s_Nodes_isOf s_Nodes_byteOf) k_Nodes_isQuoteName J K (n + 1) 30 L S M = ai_xlen 1000 5 31 (am_run (c_Nodes_isQuoteName s_Nodes_isOf s_Nodes_byteOf) k_Nodes_isQuoteName J K n) K 30 L S M := by rfl
theorem r_Nodes_isQuoteName_31 {s_Nodes_isOf : aS} {s_Nodes_byteOf : aS} {J : aJ} {K : aR} {n : Nat} {L : aL} {S : List Value} {M : aM} : am_run (c_Nodes_isQuoteName s_Nodes_isOf s_Nodes_byteOf) k_Nodes_isQuoteName J K (n + 1) 31 L S M = ai_cmpge 56 34 (am_run (c_Nodes_isQuoteName s_Nodes_isOf s_Nodes_byteOf) k_Nodes_isQuoteName J K n) K 31 L S M := by rfl
theorem r_Nodes_isQuoteName_34 {s_Nodes_isOf : aS} {s_Nodes_byteOf : aS} {J : aJ} {K : aR} {n : Nat} {L : aL} {S : List Value} {M : aM} : am_run (c_Nodes_isQuoteName s_Nodes_isOf s_Nodes_byteOf) k_Nodes_isQuoteName J K (n + 1) 34 L S M = ai_aload 0 35 (am_run (c_Nodes_isQuoteName s_Nodes_isOf s_Nodes_byteOf) k_Nodes_isQuoteName J K n) K 34 L S M := by rfl
theorem r_Nodes_isQuoteName_35 {s_Nodes_isOf : aS} {s_Nodes_byteOf : aS} {J : aJ} {K : aR} {n : Nat} {L : aL} {S : List Value} {M : aM} : am_run (c_Nodes_isQuoteName s_Nodes_isOf s_Nodes_byteOf) k_Nodes_isQuoteName J K (n + 1) 35 L S M = ai_iload 1 36 (am_run (c_Nodes_isQuoteName s_Nodes_isOf s_Nodes_byteOf) k_Nodes_isQuoteName J K n) K 35 L S M := by rfl
theorem r_Nodes_isQuoteName_36 {s_Nodes_isOf : aS} {s_Nodes_byteOf : aS} {J : aJ} {K : aR} {n : Nat} {L : aL} {S : List Value} {M : aM} : am_run (c_Nodes_isQuoteName s_Nodes_isOf s_Nodes_byteOf) k_Nodes_isQuoteName J K (n + 1) 36 L S M = ai_iload 2 37 (am_run (c_Nodes_isQuoteName s_Nodes_isOf s_Nodes_byteOf) k_Nodes_isQuoteName J K n) K 36 L S M := by rfl
theorem r_Nodes_isQuoteName_37 {s_Nodes_isOf : aS} {s_Nodes_byteOf : aS} {J : aJ} {K : aR} {n : Nat} {L : aL} {S : List Value} {M : aM} : am_run (c_Nodes_isQuoteName s_Nodes_isOf s_Nodes_byteOf) k_Nodes_isQuoteName J K (n + 1) 37 L S M = ai_callv3 0 s_Nodes_byteOf 40 (am_run (c_Nodes_isQuoteName s_Nodes_isOf s_Nodes_byteOf) k_Nodes_isQuoteName J K n) K 37 L S M := by rfl
theorem r_Nodes_isQuoteName_40 {s_Nodes_isOf : aS} {s_Nodes_byteOf : aS} {J : aJ} {K : aR} {n : Nat} {L : aL} {S : List Value} {M : aM} : am_run (c_Nodes_isQuoteName s_Nodes_isOf s_Nodes_byteOf) k_Nodes_isQuoteName J K (n + 1) 40 L S M = ai_gets (.ref 1000) 43 (am_run (c_Nodes_isQuoteName s_Nodes_isOf s_Nodes_byteOf) k_Nodes_isQuoteName J K n) K 40 L S M := by rfl
theorem r_Nodes_isQuoteName_43 {s_Nodes_isOf : aS} {s_Nodes_byteOf : aS} {J : aJ} {K : aR} {n : Nat} {L : aL} {S : List Value} {M : aM} : am_run (c_Nodes_isQuoteName s_Nodes_isOf s_Nodes_byteOf) k_Nodes_isQuoteName J K (n + 1) 43 L S M = ai_iload 2 44 (am_run (c_Nodes_isQuoteName s_Nodes_isOf s_Nodes_byteOf) k_Nodes_isQuoteName J K n) K 43 L S M := by rfl
theorem r_Nodes_isQuoteName_44 {s_Nodes_isOf : aS} {s_Nodes_byteOf : aS} {J : aJ} {K : aR} {n : Nat} {L : aL} {S : List Value} {M : aM} : am_run (c_Nodes_isQuoteName s_Nodes_isOf s_Nodes_byteOf) k_Nodes_isQuoteName J K (n + 1) 44 L S M = ai_xald 1000 5 QF 45 (am_run (c_Nodes_isQuoteName s_Nodes_isOf s_Nodes_byteOf) k_Nodes_isQuoteName J K n) K 44 L S M := by rfl
theorem r_Nodes_isQuoteName_45 {s_Nodes_isOf : aS} {s_Nodes_byteOf : aS} {J : aJ} {K : aR} {n : Nat} {L : aL} {S : List Value} {M : aM} : am_run (c_Nodes_isQuoteName s_Nodes_isOf s_Nodes_byteOf) k_Nodes_isQuoteName J K (n + 1) 45 L S M = ai_cmpeq 50 48 (am_run (c_Nodes_isQuoteName s_Nodes_isOf s_Nodes_byteOf) k_Nodes_isQuoteName J K n) K 45 L S M := by rfl
theorem r_Nodes_isQuoteName_48 {s_Nodes_isOf : aS} {s_Nodes_byteOf : aS} {J : aJ} {K : aR} {n : Nat} {L : aL} {S : List Value} {M : aM} : am_run (c_Nodes_isQuoteName s_Nodes_isOf s_Nodes_byteOf) k_Nodes_isQuoteName J K (n + 1) 48 L S M = ai_const 0 49 (am_run (c_Nodes_isQuoteName s_Nodes_isOf s_Nodes_byteOf) k_Nodes_isQuoteName J K n) K 48 L S M := by rfl
theorem r_Nodes_isQuoteName_49 {s_Nodes_isOf : aS} {s_Nodes_byteOf : aS} {J : aJ} {K : aR} {n : Nat} {L : aL} {S : List Value} {M : aM} : am_run (c_Nodes_isQuoteName s_Nodes_isOf s_Nodes_byteOf) k_Nodes_isQuoteName J K (n + 1) 49 L S M = ai_zret (am_run (c_Nodes_isQuoteName s_Nodes_isOf s_Nodes_byteOf) k_Nodes_isQuoteName J K n) K 49 L S M := by rfl
theorem r_Nodes_isQuoteName_50 {s_Nodes_isOf : aS} {s_Nodes_byteOf : aS} {J : aJ} {K : aR} {n : Nat} {L : aL} {S : List Value} {M : aM} : am_run (c_Nodes_isQuoteName s_Nodes_isOf s_Nodes_byteOf) k_Nodes_isQuoteName J K (n + 1) 50 L S M = ai_iinc 2 1 53 (am_run (c_Nodes_isQuoteName s_Nodes_isOf s_Nodes_byteOf) k_Nodes_isQuoteName J K n) K 50 L S M := by rfl
theorem r_Nodes_isQuoteName_53 {s_Nodes_isOf : aS} {s_Nodes_byteOf : aS} {J : aJ} {K : aR} {n : Nat} {L : aL} {S : List Value} {M : aM} : am_run (c_Nodes_isQuoteName s_Nodes_isOf s_Nodes_byteOf) k_Nodes_isQuoteName J K (n + 1) 53 L S M = ai_goto 26 (am_run (c_Nodes_isQuoteName s_Nodes_isOf s_Nodes_byteOf) k_Nodes_isQuoteName J K n) K 53 L S M := by rfl
theorem r_Nodes_isQuoteName_56 {s_Nodes_isOf : aS} {s_Nodes_byteOf : aS} {J : aJ} {K : aR} {n : Nat} {L : aL} {S : List Value} {M : aM} : am_run (c_Nodes_isQuoteName s_Nodes_isOf s_Nodes_byteOf) k_Nodes_isQuoteName J K (n + 1) 56 L S M = ai_const 1 57 (am_run (c_Nodes_isQuoteName s_Nodes_isOf s_Nodes_byteOf) k_Nodes_isQuoteName J K n) K 56 L S M := by rfl
theorem r_Nodes_isQuoteName_57 {s_Nodes_isOf : aS} {s_Nodes_byteOf : aS} {J : aJ} {K : aR} {n : Nat} {L : aL} {S : List Value} {M : aM} : am_run (c_Nodes_isQuoteName s_Nodes_isOf s_Nodes_byteOf) k_Nodes_isQuoteName J K (n + 1) 57 L S M = ai_zret (am_run (c_Nodes_isQuoteName s_Nodes_isOf s_Nodes_byteOf) k_Nodes_isQuoteName J K n) K 57 L S M := by rfl
