theorem kd_0 : am_kd 0 6 = true := rfl
theorem fd_0_0 : am_fd 0 6 0 = some (some (.ref 1)) := rfl
theorem fd_0_1 : am_fd 0 6 1 = some (some (.ref 3)) := rfl
theorem fd_0_2 : am_fd 0 6 2 = some (some (.ref 11)) := rfl
theorem fd_0_3 : am_fd 0 6 3 = some (some (.ref 16)) := rfl
theorem fd_0_4 : am_fd 0 6 4 = some (some (.ref 18)) := rfl
theorem kd_1 : am_kd 1 2 = true := rfl
theorem fd_1_0 : am_fd 1 2 0 = some (some (.ref 2)) := rfl
theorem fd_1_1 : am_fd 1 2 1 = some none := rfl
theorem ln_2 : am_ln 2 = some 400 := rfl
theorem kd_3 : am_kd 3 0 = true := rfl
theorem fd_3_0 : am_fd 3 0 0 = some (some (.ref 4)) := rfl
theorem fd_3_1 : am_fd 3 0 1 = some (some (.ref 5)) := rfl
theorem fd_3_2 : am_fd 3 0 2 = some (some (.ref 6)) := rfl
theorem fd_3_3 : am_fd 3 0 3 = some (some (.ref 7)) := rfl
theorem fd_3_4 : am_fd 3 0 4 = some (some (.ref 8)) := rfl
theorem fd_3_5 : am_fd 3 0 5 = some none := rfl
theorem fd_3_6 : am_fd 3 0 6 = some (some (.ref 9)) := rfl
theorem fd_3_7 : am_fd 3 0 7 = some none := rfl
theorem fd_3_8 : am_fd 3 0 8 = some (some (.ref 10)) := rfl
theorem fd_3_9 : am_fd 3 0 9 = some none := rfl
theorem ln_4 : am_ln 4 = some 200 := rfl
theorem ln_5 : am_ln 5 = some 200 := rfl
theorem ln_6 : am_ln 6 = some 200 := rfl
theorem ln_7 : am_ln 7 = some 200 := rfl
theorem ln_8 : am_ln 8 = some 200 := rfl
theorem ln_9 : am_ln 9 = some 200 := rfl
theorem ln_10 : am_ln 10 = some 405 := rfl
theorem kd_11 : am_kd 11 1 = true := rfl
theorem fd_11_0 : am_fd 11 1 0 = some (some (.ref 1)) := rfl
theorem fd_11_1 : am_fd 11 1 1 = some (some (.ref 3)) := rfl
theorem fd_11_2 : am_fd 11 1 2 = some (some (.ref 12)) := rfl
theorem fd_11_3 : am_fd 11 1 3 = some none := rfl
theorem fd_11_4 : am_fd 11 1 4 = some none := rfl
theorem kd_12 : am_kd 12 3 = true := rfl
theorem fd_12_0 : am_fd 12 3 0 = some (some (.ref 13)) := rfl
theorem fd_12_1 : am_fd 12 3 1 = some (some (.ref 14)) := rfl
theorem fd_12_2 : am_fd 12 3 2 = some (some (.ref 15)) := rfl
theorem fd_12_3 : am_fd 12 3 3 = some none := rfl
theorem ln_13 : am_ln 13 = some 401 := rfl
theorem ln_14 : am_ln 14 = some 401 := rfl
theorem ln_15 : am_ln 15 = some 401 := rfl
theorem kd_16 : am_kd 16 4 = true := rfl
theorem fd_16_0 : am_fd 16 4 0 = some (some (.ref 17)) := rfl
theorem fd_16_1 : am_fd 16 4 1 = some none := rfl
theorem fd_16_2 : am_fd 16 4 2 = some none := rfl
theorem ln_17 : am_ln 17 = some 500 := rfl
theorem kd_18 : am_kd 18 5 = true := rfl
theorem fd_18_0 : am_fd 18 5 0 = some (some (.ref 3)) := rfl
theorem fd_18_1 : am_fd 18 5 1 = some (some (.ref 16)) := rfl
theorem kd_19 : am_kd 19 7 = true := rfl
theorem fd_19_0 : am_fd 19 7 0 = some (some (.ref 20)) := rfl
theorem fd_19_1 : am_fd 19 7 1 = some none := rfl
theorem fd_19_2 : am_fd 19 7 2 = some none := rfl
theorem fd_19_3 : am_fd 19 7 3 = some none := rfl
theorem fd_19_4 : am_fd 19 7 4 = some none := rfl
theorem fd_19_5 : am_fd 19 7 5 = some none := rfl
theorem fd_19_6 : am_fd 19 7 6 = some (some (.ref 21)) := rfl
theorem fd_19_7 : am_fd 19 7 7 = some (some (.ref 22)) := rfl
theorem fd_19_8 : am_fd 19 7 8 = some (some (.ref 23)) := rfl
theorem fd_19_9 : am_fd 19 7 9 = some (some (.ref 24)) := rfl
theorem fd_19_10 : am_fd 19 7 10 = some (some (.ref 25)) := rfl
theorem fd_19_11 : am_fd 19 7 11 = some none := rfl
theorem fd_19_12 : am_fd 19 7 12 = some (some (.ref 26)) := rfl
theorem fd_19_13 : am_fd 19 7 13 = some none := rfl
theorem fd_19_14 : am_fd 19 7 14 = some (some (.ref 27)) := rfl
theorem fd_19_15 : am_fd 19 7 15 = some (some (.ref 28)) := rfl
theorem fd_19_16 : am_fd 19 7 16 = some (some (.ref 29)) := rfl
theorem fd_19_17 : am_fd 19 7 17 = some (some (.ref 30)) := rfl
theorem fd_19_18 : am_fd 19 7 18 = some none := rfl
theorem fd_19_19 : am_fd 19 7 19 = some (some (.ref 31)) := rfl
theorem fd_19_20 : am_fd 19 7 20 = some (some (.ref 32)) := rfl
theorem ln_20 : am_ln 20 = some 400 := rfl
theorem ln_21 : am_ln 21 = some 200 := rfl
theorem ln_22 : am_ln 22 = some 200 := rfl
theorem ln_23 : am_ln 23 = some 4000 := rfl
theorem ln_24 : am_ln 24 = some 200 := rfl
theorem ln_25 : am_ln 25 = some 200 := rfl
theorem ln_26 : am_ln 26 = some 200 := rfl
theorem ln_27 : am_ln 27 = some 15 := rfl
theorem ln_28 : am_ln 28 = some 15 := rfl
theorem ln_29 : am_ln 29 = some 15 := rfl
theorem ln_30 : am_ln 30 = some 500 := rfl
theorem ln_31 : am_ln 31 = some 420 := rfl
theorem ln_32 : am_ln 32 = some 420 := rfl
