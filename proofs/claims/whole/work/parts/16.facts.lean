/-! constants and links, by program (gen2.py) -/
theorem c8_m50 : (Int8.ofInt (-50)).toInt32 = Int32.ofInt (-50) := by decide
theorem c8_6 : (Int8.ofInt (6)).toInt32 = Int32.ofInt (6) := by decide
theorem c8_7 : (Int8.ofInt (7)).toInt32 = Int32.ofInt (7) := by decide
theorem c8_8 : (Int8.ofInt (8)).toInt32 = Int32.ofInt (8) := by decide
theorem c8_9 : (Int8.ofInt (9)).toInt32 = Int32.ofInt (9) := by decide
theorem c8_10 : (Int8.ofInt (10)).toInt32 = Int32.ofInt (10) := by decide
theorem c8_11 : (Int8.ofInt (11)).toInt32 = Int32.ofInt (11) := by decide
theorem c8_12 : (Int8.ofInt (12)).toInt32 = Int32.ofInt (12) := by decide
theorem c8_16 : (Int8.ofInt (16)).toInt32 = Int32.ofInt (16) := by decide
theorem c8_20 : (Int8.ofInt (20)).toInt32 = Int32.ofInt (20) := by decide
theorem c8_31 : (Int8.ofInt (31)).toInt32 = Int32.ofInt (31) := by decide
theorem c8_40 : (Int8.ofInt (40)).toInt32 = Int32.ofInt (40) := by decide
theorem c8_42 : (Int8.ofInt (42)).toInt32 = Int32.ofInt (42) := by decide
theorem c8_49 : (Int8.ofInt (49)).toInt32 = Int32.ofInt (49) := by decide
theorem c8_50 : (Int8.ofInt (50)).toInt32 = Int32.ofInt (50) := by decide
theorem c8_60 : (Int8.ofInt (60)).toInt32 = Int32.ofInt (60) := by decide
theorem c8_64 : (Int8.ofInt (64)).toInt32 = Int32.ofInt (64) := by decide
theorem c8_96 : (Int8.ofInt (96)).toInt32 = Int32.ofInt (96) := by decide
theorem c8_100 : (Int8.ofInt (100)).toInt32 = Int32.ofInt (100) := by decide
theorem c8_126 : (Int8.ofInt (126)).toInt32 = Int32.ofInt (126) := by decide
theorem c16_m200 : (Int16.ofInt (-200)).toInt32 = Int32.ofInt (-200) := by decide
theorem c16_168 : (Int16.ofInt (168)).toInt32 = Int32.ofInt (168) := by decide
theorem c16_252 : (Int16.ofInt (252)).toInt32 = Int32.ofInt (252) := by decide
theorem c16_1000 : (Int16.ofInt (1000)).toInt32 = Int32.ofInt (1000) := by decide
theorem c16_3000 : (Int16.ofInt (3000)).toInt32 = Int32.ofInt (3000) := by decide
theorem c16_9999 : (Int16.ofInt (9999)).toInt32 = Int32.ofInt (9999) := by decide
set_option maxRecDepth 100000 in
theorem lm_0 : xml 0 = 2 := by decide +kernel
set_option maxRecDepth 100000 in
theorem jl_0 : 0 < xMs.length := by decide +kernel
set_option maxRecDepth 100000 in
theorem mn_0 : xmn 0 = 2 := by decide +kernel
set_option maxRecDepth 100000 in
theorem r_0_3 : xlk xCL (xmo 0) 3 = none := by decide +kernel
set_option maxRecDepth 100000 in
theorem t_0_3 : xlk xOL (xmo 0) 3 = some 286 := by decide +kernel
set_option maxRecDepth 100000 in
theorem e_0_9 : xlk xFL (xmo 0) 9 = some (0, 0, false, 287) := by decide +kernel
set_option maxRecDepth 100000 in
theorem n_0 : (xmy 0).name = "<init>" ∧ xmo 0 = 0 ∧ false = false := by decide +kernel
set_option maxRecDepth 100000 in
theorem e_0_15 : xlk xFL (xmo 0) 15 = some (0, 1, false, 288) := by decide +kernel
set_option maxRecDepth 100000 in
theorem mr_0 : xmr 0 = none := by decide +kernel
set_option maxRecDepth 100000 in
theorem lm_1 : xml 1 = 7 := by decide +kernel
set_option maxRecDepth 100000 in
theorem jl_1 : 1 < xMs.length := by decide +kernel
set_option maxRecDepth 100000 in
theorem mn_1 : xmn 1 = 5 := by decide +kernel
set_option maxRecDepth 100000 in
theorem e_1_15 : xlk xFL (xmo 1) 15 = some (0, 1, false, 288) := by decide +kernel
set_option maxRecDepth 100000 in
theorem mr_1 : xmr 1 = none := by decide +kernel
set_option maxRecDepth 100000 in
theorem lm_2 : xml 2 = 6 := by decide +kernel
set_option maxRecDepth 100000 in
theorem jl_2 : 2 < xMs.length := by decide +kernel
set_option maxRecDepth 100000 in
theorem mn_2 : xmn 2 = 1 := by decide +kernel
set_option maxRecDepth 100000 in
theorem e_2_15 : xlk xFL (xmo 2) 15 = some (0, 1, false, 288) := by decide +kernel
set_option maxRecDepth 100000 in
theorem mr_2 : xmr 2 = some .int := by decide +kernel
set_option maxRecDepth 100000 in
theorem lm_3 : xml 3 = 3 := by decide +kernel
set_option maxRecDepth 100000 in
theorem jl_3 : 3 < xMs.length := by decide +kernel
set_option maxRecDepth 100000 in
theorem mn_3 : xmn 3 = 3 := by decide +kernel
set_option maxRecDepth 100000 in
theorem h_3_19 : xlk xCL (xmo 3) 19 = some (8, 0, 345, 346, 0) := by decide +kernel
set_option maxRecDepth 100000 in
theorem mn_8 : xmn 8 = 2 := by decide +kernel
set_option maxRecDepth 100000 in
theorem e_3_9 : xlk xFL (xmo 3) 9 = some (0, 0, false, 287) := by decide +kernel
set_option maxRecDepth 100000 in
theorem mr_3 : xmr 3 = some .int := by decide +kernel
set_option maxRecDepth 100000 in
theorem lm_4 : xml 4 = 6 := by decide +kernel
set_option maxRecDepth 100000 in
theorem jl_4 : 4 < xMs.length := by decide +kernel
set_option maxRecDepth 100000 in
theorem mn_4 : xmn 4 = 6 := by decide +kernel
set_option maxRecDepth 100000 in
theorem h_4_19 : xlk xCL (xmo 4) 19 = some (8, 0, 345, 346, 0) := by decide +kernel
set_option maxRecDepth 100000 in
theorem h_4_23 : xlk xCL (xmo 4) 23 = some (7, 1, 348, 350, 2) := by decide +kernel
set_option maxRecDepth 100000 in
theorem mn_7 : xmn 7 = 5 := by decide +kernel
set_option maxRecDepth 100000 in
theorem mo_7 : xmo 7 = 0 := by decide +kernel
set_option maxRecDepth 100000 in
theorem mr_4 : xmr 4 = some .boolean := by decide +kernel
set_option maxRecDepth 100000 in
theorem lm_5 : xml 5 = 11 := by decide +kernel
set_option maxRecDepth 100000 in
theorem jl_5 : 5 < xMs.length := by decide +kernel
set_option maxRecDepth 100000 in
theorem mn_5 : xmn 5 = 5 := by decide +kernel
set_option maxRecDepth 100000 in
theorem h_5_27 : xlk xCL (xmo 5) 27 = some (9, 0, 429, 430, 0) := by decide +kernel
set_option maxRecDepth 100000 in
theorem mn_9 : xmn 9 = 3 := by decide +kernel
set_option maxRecDepth 100000 in
theorem h_5_31 : xlk xCL (xmo 5) 31 = some (3, 1, 432, 356, 357) := by decide +kernel
set_option maxRecDepth 100000 in
theorem mo_3 : xmo 3 = 0 := by decide +kernel
set_option maxRecDepth 100000 in
theorem h_5_35 : xlk xCL (xmo 5) 35 = some (6, 1, 433, 435, 3) := by decide +kernel
set_option maxRecDepth 100000 in
theorem mn_6 : xmn 6 = 5 := by decide +kernel
set_option maxRecDepth 100000 in
theorem mo_6 : xmo 6 = 0 := by decide +kernel
set_option maxRecDepth 100000 in
theorem mr_5 : xmr 5 = some .int := by decide +kernel
set_option maxRecDepth 100000 in
theorem lm_6 : xml 6 = 6 := by decide +kernel
set_option maxRecDepth 100000 in
theorem jl_6 : 6 < xMs.length := by decide +kernel
set_option maxRecDepth 100000 in
theorem h_6_39 : xlk xCL (xmo 6) 39 = some (4, 1, 437, 342, 343) := by decide +kernel
set_option maxRecDepth 100000 in
theorem mo_4 : xmo 4 = 0 := by decide +kernel
set_option maxRecDepth 100000 in
theorem mr_6 : xmr 6 = some .int := by decide +kernel
set_option maxRecDepth 100000 in
theorem lm_7 : xml 7 = 7 := by decide +kernel
set_option maxRecDepth 100000 in
theorem jl_7 : 7 < xMs.length := by decide +kernel
set_option maxRecDepth 100000 in
theorem e_7_15 : xlk xFL (xmo 7) 15 = some (0, 1, false, 288) := by decide +kernel
set_option maxRecDepth 100000 in
theorem mr_7 : xmr 7 = some .boolean := by decide +kernel
set_option maxRecDepth 100000 in
theorem lm_8 : xml 8 = 2 := by decide +kernel
set_option maxRecDepth 100000 in
theorem jl_8 : 8 < xMs.length := by decide +kernel
set_option maxRecDepth 100000 in
theorem mr_8 : xmr 8 = some .boolean := by decide +kernel
set_option maxRecDepth 100000 in
theorem lm_9 : xml 9 = 6 := by decide +kernel
set_option maxRecDepth 100000 in
theorem jl_9 : 9 < xMs.length := by decide +kernel
set_option maxRecDepth 100000 in
theorem mr_9 : xmr 9 = some .int := by decide +kernel
set_option maxRecDepth 100000 in
theorem lm_10 : xml 10 = 1 := by decide +kernel
set_option maxRecDepth 100000 in
theorem jl_10 : 10 < xMs.length := by decide +kernel
set_option maxRecDepth 100000 in
theorem mn_10 : xmn 10 = 1 := by decide +kernel
set_option maxRecDepth 100000 in
theorem r_10_3 : xlk xCL (xmo 10) 3 = none := by decide +kernel
set_option maxRecDepth 100000 in
theorem t_10_3 : xlk xOL (xmo 10) 3 = some 109 := by decide +kernel
set_option maxRecDepth 100000 in
theorem e_10_9 : xlk xFL (xmo 10) 9 = some (2, 0, false, 110) := by decide +kernel
set_option maxRecDepth 100000 in
theorem n_10 : (xmy 10).name = "<init>" ∧ xmo 10 = 2 ∧ false = false := by decide +kernel
set_option maxRecDepth 100000 in
theorem e_10_15 : xlk xFL (xmo 10) 15 = some (2, 1, false, 113) := by decide +kernel
set_option maxRecDepth 100000 in
theorem e_10_18 : xlk xFL (xmo 10) 18 = some (2, 2, false, 115) := by decide +kernel
set_option maxRecDepth 100000 in
theorem mr_10 : xmr 10 = none := by decide +kernel
set_option maxRecDepth 100000 in
theorem lm_11 : xml 11 = 5 := by decide +kernel
set_option maxRecDepth 100000 in
theorem jl_11 : 11 < xMs.length := by decide +kernel
set_option maxRecDepth 100000 in
theorem mn_11 : xmn 11 = 1 := by decide +kernel
set_option maxRecDepth 100000 in
theorem e_11_15 : xlk xFL (xmo 11) 15 = some (2, 1, false, 113) := by decide +kernel
set_option maxRecDepth 100000 in
theorem mr_11 : xmr 11 = some .boolean := by decide +kernel
set_option maxRecDepth 100000 in
theorem lm_12 : xml 12 = 3 := by decide +kernel
set_option maxRecDepth 100000 in
theorem jl_12 : 12 < xMs.length := by decide +kernel
set_option maxRecDepth 100000 in
theorem mn_12 : xmn 12 = 2 := by decide +kernel
set_option maxRecDepth 100000 in
theorem e_12_15 : xlk xFL (xmo 12) 15 = some (2, 1, false, 113) := by decide +kernel
set_option maxRecDepth 100000 in
theorem h_12_21 : xlk xCL (xmo 12) 21 = some (158, 0, 793, 491, 0) := by decide +kernel
set_option maxRecDepth 100000 in
theorem mn_158 : xmn 158 = 2 := by decide +kernel
set_option maxRecDepth 100000 in
theorem mr_12 : xmr 12 = none := by decide +kernel
set_option maxRecDepth 100000 in
theorem lm_13 : xml 13 = 5 := by decide +kernel
set_option maxRecDepth 100000 in
theorem jl_13 : 13 < xMs.length := by decide +kernel
set_option maxRecDepth 100000 in
theorem mn_13 : xmn 13 = 5 := by decide +kernel
set_option maxRecDepth 100000 in
theorem e_13_18 : xlk xFL (xmo 13) 18 = some (2, 2, false, 115) := by decide +kernel
set_option maxRecDepth 100000 in
theorem mr_13 : xmr 13 = none := by decide +kernel
set_option maxRecDepth 100000 in
theorem lm_14 : xml 14 = 4 := by decide +kernel
set_option maxRecDepth 100000 in
theorem jl_14 : 14 < xMs.length := by decide +kernel
set_option maxRecDepth 100000 in
theorem mn_14 : xmn 14 = 4 := by decide +kernel
set_option maxRecDepth 100000 in
theorem e_14_18 : xlk xFL (xmo 14) 18 = some (2, 2, false, 115) := by decide +kernel
set_option maxRecDepth 100000 in
theorem mr_14 : xmr 14 = some .int := by decide +kernel
set_option maxRecDepth 100000 in
theorem lm_15 : xml 15 = 6 := by decide +kernel
set_option maxRecDepth 100000 in
theorem jl_15 : 15 < xMs.length := by decide +kernel
set_option maxRecDepth 100000 in
theorem mn_15 : xmn 15 = 6 := by decide +kernel
set_option maxRecDepth 100000 in
theorem r_15_3 : xlk xCL (xmo 15) 3 = none := by decide +kernel
set_option maxRecDepth 100000 in
theorem t_15_3 : xlk xOL (xmo 15) 3 = some 362 := by decide +kernel
set_option maxRecDepth 100000 in
theorem e_15_9 : xlk xFL (xmo 15) 9 = some (1, 0, false, 363) := by decide +kernel
set_option maxRecDepth 100000 in
theorem n_15 : (xmy 15).name = "<init>" ∧ xmo 15 = 1 ∧ false = false := by decide +kernel
set_option maxRecDepth 100000 in
theorem e_15_15 : xlk xFL (xmo 15) 15 = some (1, 1, false, 365) := by decide +kernel
set_option maxRecDepth 100000 in
theorem e_15_18 : xlk xFL (xmo 15) 18 = some (1, 2, false, 367) := by decide +kernel
set_option maxRecDepth 100000 in
theorem e_15_21 : xlk xFL (xmo 15) 21 = some (1, 5, false, 372) := by decide +kernel
set_option maxRecDepth 100000 in
theorem e_15_24 : xlk xFL (xmo 15) 24 = some (1, 3, false, 369) := by decide +kernel
set_option maxRecDepth 100000 in
theorem e_15_28 : xlk xFL (xmo 15) 28 = some (1, 4, false, 371) := by decide +kernel
set_option maxRecDepth 100000 in
theorem e_15_32 : xlk xFL (xmo 15) 32 = some (1, 9, false, 380) := by decide +kernel
set_option maxRecDepth 100000 in
theorem e_15_35 : xlk xFL (xmo 15) 35 = some (1, 10, false, 383) := by decide +kernel
set_option maxRecDepth 100000 in
theorem e_15_38 : xlk xFL (xmo 15) 38 = some (1, 11, false, 386) := by decide +kernel
set_option maxRecDepth 100000 in
theorem mr_15 : xmr 15 = none := by decide +kernel
set_option maxRecDepth 100000 in
theorem lm_16 : xml 16 = 2 := by decide +kernel
set_option maxRecDepth 100000 in
theorem jl_16 : 16 < xMs.length := by decide +kernel
set_option maxRecDepth 100000 in
theorem mn_16 : xmn 16 = 2 := by decide +kernel
set_option maxRecDepth 100000 in
theorem e_16_28 : xlk xFL (xmo 16) 28 = some (1, 4, false, 371) := by decide +kernel
set_option maxRecDepth 100000 in
theorem mr_16 : xmr 16 = some .boolean := by decide +kernel
set_option maxRecDepth 100000 in
theorem lm_17 : xml 17 = 4 := by decide +kernel
set_option maxRecDepth 100000 in
theorem jl_17 : 17 < xMs.length := by decide +kernel
set_option maxRecDepth 100000 in
theorem mn_17 : xmn 17 = 2 := by decide +kernel
set_option maxRecDepth 100000 in
theorem e_17_28 : xlk xFL (xmo 17) 28 = some (1, 4, false, 371) := by decide +kernel
set_option maxRecDepth 100000 in
theorem e_17_41 : xlk xFL (xmo 17) 41 = some (1, 6, false, 374) := by decide +kernel
set_option maxRecDepth 100000 in
theorem mr_17 : xmr 17 = some .int := by decide +kernel
set_option maxRecDepth 100000 in
theorem lm_18 : xml 18 = 4 := by decide +kernel
set_option maxRecDepth 100000 in
theorem jl_18 : 18 < xMs.length := by decide +kernel
set_option maxRecDepth 100000 in
theorem mn_18 : xmn 18 = 2 := by decide +kernel
set_option maxRecDepth 100000 in
theorem e_18_28 : xlk xFL (xmo 18) 28 = some (1, 4, false, 371) := by decide +kernel
set_option maxRecDepth 100000 in
theorem mr_18 : xmr 18 = some .int := by decide +kernel
set_option maxRecDepth 100000 in
theorem lm_19 : xml 19 = 3 := by decide +kernel
set_option maxRecDepth 100000 in
theorem jl_19 : 19 < xMs.length := by decide +kernel
set_option maxRecDepth 100000 in
theorem mn_19 : xmn 19 = 1 := by decide +kernel
set_option maxRecDepth 100000 in
theorem e_19_15 : xlk xFL (xmo 19) 15 = some (1, 1, false, 365) := by decide +kernel
set_option maxRecDepth 100000 in
theorem e_19_21 : xlk xFL (xmo 19) 21 = some (1, 5, false, 372) := by decide +kernel
set_option maxRecDepth 100000 in
theorem e_19_41 : xlk xFL (xmo 19) 41 = some (1, 6, false, 374) := by decide +kernel
set_option maxRecDepth 100000 in
theorem e_19_44 : xlk xFL (xmo 19) 44 = some (1, 7, false, 376) := by decide +kernel
set_option maxRecDepth 100000 in
theorem h_19_47 : xlk xCL (xmo 19) 47 = some (158, 0, 490, 491, 0) := by decide +kernel
set_option maxRecDepth 100000 in
theorem mr_19 : xmr 19 = some .int := by decide +kernel
set_option maxRecDepth 100000 in
theorem lm_20 : xml 20 = 1 := by decide +kernel
set_option maxRecDepth 100000 in
theorem jl_20 : 20 < xMs.length := by decide +kernel
set_option maxRecDepth 100000 in
theorem mn_20 : xmn 20 = 1 := by decide +kernel
set_option maxRecDepth 100000 in
theorem e_20_38 : xlk xFL (xmo 20) 38 = some (1, 11, false, 386) := by decide +kernel
set_option maxRecDepth 100000 in
theorem mr_20 : xmr 20 = some .boolean := by decide +kernel
set_option maxRecDepth 100000 in
theorem lm_21 : xml 21 = 1 := by decide +kernel
set_option maxRecDepth 100000 in
theorem jl_21 : 21 < xMs.length := by decide +kernel
set_option maxRecDepth 100000 in
theorem mn_21 : xmn 21 = 1 := by decide +kernel
set_option maxRecDepth 100000 in
theorem e_21_53 : xlk xFL (xmo 21) 53 = some (1, 8, false, 379) := by decide +kernel
set_option maxRecDepth 100000 in
theorem h_21_56 : xlk xCL (xmo 21) 56 = some (20, 1, 653, 464, 465) := by decide +kernel
set_option maxRecDepth 100000 in
theorem mo_20 : xmo 20 = 1 := by decide +kernel
set_option maxRecDepth 100000 in
theorem e_21_60 : xlk xFL (xmo 21) 60 = some (1, 12, false, 389) := by decide +kernel
set_option maxRecDepth 100000 in
theorem mr_21 : xmr 21 = some .boolean := by decide +kernel
set_option maxRecDepth 100000 in
theorem lm_22 : xml 22 = 1 := by decide +kernel
set_option maxRecDepth 100000 in
theorem jl_22 : 22 < xMs.length := by decide +kernel
set_option maxRecDepth 100000 in
theorem mn_22 : xmn 22 = 1 := by decide +kernel
set_option maxRecDepth 100000 in
theorem e_22_32 : xlk xFL (xmo 22) 32 = some (1, 9, false, 380) := by decide +kernel
set_option maxRecDepth 100000 in
theorem e_22_35 : xlk xFL (xmo 22) 35 = some (1, 10, false, 383) := by decide +kernel
set_option maxRecDepth 100000 in
theorem e_22_38 : xlk xFL (xmo 22) 38 = some (1, 11, false, 386) := by decide +kernel
set_option maxRecDepth 100000 in
theorem mr_22 : xmr 22 = none := by decide +kernel
set_option maxRecDepth 100000 in
theorem lm_23 : xml 23 = 1 := by decide +kernel
set_option maxRecDepth 100000 in
theorem jl_23 : 23 < xMs.length := by decide +kernel
set_option maxRecDepth 100000 in
theorem mn_23 : xmn 23 = 1 := by decide +kernel
set_option maxRecDepth 100000 in
theorem e_23_60 : xlk xFL (xmo 23) 60 = some (1, 12, false, 389) := by decide +kernel
set_option maxRecDepth 100000 in
theorem h_23_63 : xlk xCL (xmo 23) 63 = some (22, 1, 617, 522, 523) := by decide +kernel
set_option maxRecDepth 100000 in
theorem mo_22 : xmo 22 = 1 := by decide +kernel
set_option maxRecDepth 100000 in
theorem mr_23 : xmr 23 = none := by decide +kernel
set_option maxRecDepth 100000 in
theorem lm_24 : xml 24 = 1 := by decide +kernel
set_option maxRecDepth 100000 in
theorem jl_24 : 24 < xMs.length := by decide +kernel
set_option maxRecDepth 100000 in
theorem mn_24 : xmn 24 = 1 := by decide +kernel
set_option maxRecDepth 100000 in
theorem r_24_3 : xlk xCL (xmo 24) 3 = none := by decide +kernel
set_option maxRecDepth 100000 in
theorem t_24_3 : xlk xOL (xmo 24) 3 = some 81 := by decide +kernel
set_option maxRecDepth 100000 in
theorem e_24_9 : xlk xFL (xmo 24) 9 = some (4, 0, false, 82) := by decide +kernel
set_option maxRecDepth 100000 in
theorem n_24 : (xmy 24).name = "<init>" ∧ xmo 24 = 4 ∧ false = false := by decide +kernel
set_option maxRecDepth 100000 in
theorem e_24_15 : xlk xFL (xmo 24) 15 = some (4, 1, false, 83) := by decide +kernel
set_option maxRecDepth 100000 in
theorem e_24_18 : xlk xFL (xmo 24) 18 = some (4, 2, false, 84) := by decide +kernel
set_option maxRecDepth 100000 in
theorem e_24_22 : xlk xFL (xmo 24) 22 = some (4, 3, false, 85) := by decide +kernel
set_option maxRecDepth 100000 in
theorem e_24_25 : xlk xFL (xmo 24) 25 = some (4, 4, false, 86) := by decide +kernel
set_option maxRecDepth 100000 in
theorem mr_24 : xmr 24 = none := by decide +kernel
set_option maxRecDepth 100000 in
theorem lm_25 : xml 25 = 8 := by decide +kernel
set_option maxRecDepth 100000 in
theorem jl_25 : 25 < xMs.length := by decide +kernel
set_option maxRecDepth 100000 in
theorem mn_25 : xmn 25 = 4 := by decide +kernel
set_option maxRecDepth 100000 in
theorem h_25_28 : xlk xCL (xmo 25) 28 = some (32, 1, 539, 541, 5) := by decide +kernel
set_option maxRecDepth 100000 in
theorem mn_32 : xmn 32 = 1 := by decide +kernel
set_option maxRecDepth 100000 in
theorem mo_32 : xmo 32 = 4 := by decide +kernel
set_option maxRecDepth 100000 in
theorem h_25_31 : xlk xCL (xmo 25) 31 = some (20, 1, 543, 464, 465) := by decide +kernel
set_option maxRecDepth 100000 in
theorem e_25_37 : xlk xFL (xmo 25) 37 = some (1, 9, true, 381) := by decide +kernel
set_option maxRecDepth 100000 in
theorem e_25_41 : xlk xFL (xmo 25) 41 = some (1, 10, true, 384) := by decide +kernel
set_option maxRecDepth 100000 in
theorem h_25_44 : xlk xCL (xmo 25) 44 = some (31, 0, 544, 545, 0) := by decide +kernel
set_option maxRecDepth 100000 in
theorem mn_31 : xmn 31 = 2 := by decide +kernel
set_option maxRecDepth 100000 in
theorem e_25_48 : xlk xFL (xmo 25) 48 = some (1, 11, true, 387) := by decide +kernel
set_option maxRecDepth 100000 in
theorem h_25_51 : xlk xCL (xmo 25) 51 = some (33, 1, 547, 549, 6) := by decide +kernel
set_option maxRecDepth 100000 in
theorem mn_33 : xmn 33 = 3 := by decide +kernel
set_option maxRecDepth 100000 in
theorem mo_33 : xmo 33 = 4 := by decide +kernel
set_option maxRecDepth 100000 in
theorem h_25_55 : xlk xCL (xmo 25) 55 = some (34, 1, 551, 553, 7) := by decide +kernel
set_option maxRecDepth 100000 in
theorem mn_34 : xmn 34 = 2 := by decide +kernel
set_option maxRecDepth 100000 in
theorem mo_34 : xmo 34 = 4 := by decide +kernel
set_option maxRecDepth 100000 in
theorem h_25_59 : xlk xCL (xmo 25) 59 = some (37, 1, 565, 567, 10) := by decide +kernel
set_option maxRecDepth 100000 in
theorem mn_37 : xmn 37 = 3 := by decide +kernel
set_option maxRecDepth 100000 in
theorem mo_37 : xmo 37 = 4 := by decide +kernel
set_option maxRecDepth 100000 in
theorem mr_25 : xmr 25 = none := by decide +kernel
set_option maxRecDepth 100000 in
theorem lm_26 : xml 26 = 1 := by decide +kernel
set_option maxRecDepth 100000 in
theorem jl_26 : 26 < xMs.length := by decide +kernel
set_option maxRecDepth 100000 in
theorem mn_26 : xmn 26 = 1 := by decide +kernel
set_option maxRecDepth 100000 in
theorem e_26_62 : xlk xFL (xmo 26) 62 = some (4, 5, false, 87) := by decide +kernel
set_option maxRecDepth 100000 in
theorem mr_26 : xmr 26 = some .boolean := by decide +kernel
set_option maxRecDepth 100000 in
theorem lm_27 : xml 27 = 2 := by decide +kernel
set_option maxRecDepth 100000 in
theorem jl_27 : 27 < xMs.length := by decide +kernel
set_option maxRecDepth 100000 in
theorem mn_27 : xmn 27 = 2 := by decide +kernel
set_option maxRecDepth 100000 in
theorem e_27_62 : xlk xFL (xmo 27) 62 = some (4, 5, false, 87) := by decide +kernel
set_option maxRecDepth 100000 in
theorem e_27_25 : xlk xFL (xmo 27) 25 = some (4, 4, false, 86) := by decide +kernel
set_option maxRecDepth 100000 in
theorem mr_27 : xmr 27 = some .int := by decide +kernel
set_option maxRecDepth 100000 in
theorem lm_28 : xml 28 = 3 := by decide +kernel
set_option maxRecDepth 100000 in
theorem jl_28 : 28 < xMs.length := by decide +kernel
set_option maxRecDepth 100000 in
theorem mn_28 : xmn 28 = 2 := by decide +kernel
set_option maxRecDepth 100000 in
theorem h_28_31 : xlk xCL (xmo 28) 31 = some (20, 1, 543, 464, 465) := by decide +kernel
set_option maxRecDepth 100000 in
theorem mr_28 : xmr 28 = some .boolean := by decide +kernel
set_option maxRecDepth 100000 in
theorem e_28_37 : xlk xFL (xmo 28) 37 = some (1, 9, true, 381) := by decide +kernel
set_option maxRecDepth 100000 in
theorem e_28_41 : xlk xFL (xmo 28) 41 = some (1, 10, true, 384) := by decide +kernel
set_option maxRecDepth 100000 in
theorem h_28_44 : xlk xCL (xmo 28) 44 = some (31, 0, 544, 545, 0) := by decide +kernel
set_option maxRecDepth 100000 in
theorem e_28_18 : xlk xFL (xmo 28) 18 = some (4, 2, false, 84) := by decide +kernel
set_option maxRecDepth 100000 in
theorem e_28_48 : xlk xFL (xmo 28) 48 = some (1, 11, true, 387) := by decide +kernel
set_option maxRecDepth 100000 in
theorem e_28_9 : xlk xFL (xmo 28) 9 = some (4, 0, false, 82) := by decide +kernel
set_option maxRecDepth 100000 in
theorem lm_29 : xml 29 = 4 := by decide +kernel
set_option maxRecDepth 100000 in
theorem jl_29 : 29 < xMs.length := by decide +kernel
set_option maxRecDepth 100000 in
theorem mn_29 : xmn 29 = 3 := by decide +kernel
set_option maxRecDepth 100000 in
theorem h_29_65 : xlk xCL (xmo 29) 65 = some (28, 1, 577, 578, 579) := by decide +kernel
set_option maxRecDepth 100000 in
theorem mo_28 : xmo 28 = 4 := by decide +kernel
set_option maxRecDepth 100000 in
theorem e_29_15 : xlk xFL (xmo 29) 15 = some (4, 1, false, 83) := by decide +kernel
set_option maxRecDepth 100000 in
theorem e_29_37 : xlk xFL (xmo 29) 37 = some (1, 9, true, 381) := by decide +kernel
set_option maxRecDepth 100000 in
theorem e_29_41 : xlk xFL (xmo 29) 41 = some (1, 10, true, 384) := by decide +kernel
set_option maxRecDepth 100000 in
theorem h_29_44 : xlk xCL (xmo 29) 44 = some (31, 0, 544, 545, 0) := by decide +kernel
set_option maxRecDepth 100000 in
theorem mr_29 : xmr 29 = some .int := by decide +kernel
set_option maxRecDepth 100000 in
theorem lm_30 : xml 30 = 3 := by decide +kernel
set_option maxRecDepth 100000 in
theorem jl_30 : 30 < xMs.length := by decide +kernel
set_option maxRecDepth 100000 in
theorem mn_30 : xmn 30 = 2 := by decide +kernel
set_option maxRecDepth 100000 in
theorem h_30_65 : xlk xCL (xmo 30) 65 = some (28, 1, 577, 578, 579) := by decide +kernel
set_option maxRecDepth 100000 in
theorem e_30_15 : xlk xFL (xmo 30) 15 = some (4, 1, false, 83) := by decide +kernel
set_option maxRecDepth 100000 in
theorem e_30_37 : xlk xFL (xmo 30) 37 = some (1, 9, true, 381) := by decide +kernel
set_option maxRecDepth 100000 in
theorem e_30_41 : xlk xFL (xmo 30) 41 = some (1, 10, true, 384) := by decide +kernel
set_option maxRecDepth 100000 in
theorem h_30_44 : xlk xCL (xmo 30) 44 = some (31, 0, 544, 545, 0) := by decide +kernel
set_option maxRecDepth 100000 in
theorem h_30_69 : xlk xCL (xmo 30) 69 = some (19, 1, 634, 487, 488) := by decide +kernel
set_option maxRecDepth 100000 in
theorem mo_19 : xmo 19 = 1 := by decide +kernel
set_option maxRecDepth 100000 in
theorem mr_30 : xmr 30 = some .int := by decide +kernel
set_option maxRecDepth 100000 in
theorem lm_31 : xml 31 = 2 := by decide +kernel
set_option maxRecDepth 100000 in
theorem jl_31 : 31 < xMs.length := by decide +kernel
set_option maxRecDepth 100000 in
theorem mr_31 : xmr 31 = some .int := by decide +kernel
set_option maxRecDepth 100000 in
theorem lm_32 : xml 32 = 2 := by decide +kernel
set_option maxRecDepth 100000 in
theorem jl_32 : 32 < xMs.length := by decide +kernel
set_option maxRecDepth 100000 in
theorem e_32_9 : xlk xFL (xmo 32) 9 = some (4, 0, false, 82) := by decide +kernel
set_option maxRecDepth 100000 in
theorem e_32_15 : xlk xFL (xmo 32) 15 = some (4, 1, false, 83) := by decide +kernel
set_option maxRecDepth 100000 in
theorem e_32_18 : xlk xFL (xmo 32) 18 = some (4, 2, false, 84) := by decide +kernel
set_option maxRecDepth 100000 in
theorem e_32_62 : xlk xFL (xmo 32) 62 = some (4, 5, false, 87) := by decide +kernel
set_option maxRecDepth 100000 in
theorem mr_32 : xmr 32 = none := by decide +kernel
set_option maxRecDepth 100000 in
theorem lm_33 : xml 33 = 3 := by decide +kernel
set_option maxRecDepth 100000 in
theorem jl_33 : 33 < xMs.length := by decide +kernel
set_option maxRecDepth 100000 in
theorem e_33_9 : xlk xFL (xmo 33) 9 = some (4, 0, false, 82) := by decide +kernel
set_option maxRecDepth 100000 in
theorem e_33_15 : xlk xFL (xmo 33) 15 = some (4, 1, false, 83) := by decide +kernel
set_option maxRecDepth 100000 in
theorem mr_33 : xmr 33 = none := by decide +kernel
set_option maxRecDepth 100000 in
theorem lm_34 : xml 34 = 6 := by decide +kernel
set_option maxRecDepth 100000 in
theorem jl_34 : 34 < xMs.length := by decide +kernel
set_option maxRecDepth 100000 in
theorem e_34_22 : xlk xFL (xmo 34) 22 = some (4, 3, false, 85) := by decide +kernel
set_option maxRecDepth 100000 in
theorem k_34_73 : xlk xIC (xmo 34) 73 = some ((1000000 : Int32), 555) := by decide +kernel
set_option maxRecDepth 100000 in
theorem h_34_74 : xlk xCL (xmo 34) 74 = some (35, 1, 556, 558, 8) := by decide +kernel
set_option maxRecDepth 100000 in
theorem mn_35 : xmn 35 = 2 := by decide +kernel
set_option maxRecDepth 100000 in
theorem mo_35 : xmo 35 = 4 := by decide +kernel
set_option maxRecDepth 100000 in
theorem mr_34 : xmr 34 = none := by decide +kernel
set_option maxRecDepth 100000 in
theorem lm_35 : xml 35 = 4 := by decide +kernel
set_option maxRecDepth 100000 in
theorem jl_35 : 35 < xMs.length := by decide +kernel
set_option maxRecDepth 100000 in
theorem k_35_73 : xlk xIC (xmo 35) 73 = some ((1000000 : Int32), 555) := by decide +kernel
set_option maxRecDepth 100000 in
theorem h_35_78 : xlk xCL (xmo 35) 78 = some (36, 1, 560, 562, 9) := by decide +kernel
set_option maxRecDepth 100000 in
theorem mn_36 : xmn 36 = 3 := by decide +kernel
set_option maxRecDepth 100000 in
theorem mo_36 : xmo 36 = 4 := by decide +kernel
set_option maxRecDepth 100000 in
theorem h_35_81 : xlk xCL (xmo 35) 81 = some (159, 0, 564, 506, 0) := by decide +kernel
set_option maxRecDepth 100000 in
theorem mn_159 : xmn 159 = 2 := by decide +kernel
set_option maxRecDepth 100000 in
theorem mr_35 : xmr 35 = some .int := by decide +kernel
set_option maxRecDepth 100000 in
theorem lm_36 : xml 36 = 4 := by decide +kernel
set_option maxRecDepth 100000 in
theorem jl_36 : 36 < xMs.length := by decide +kernel
set_option maxRecDepth 100000 in
theorem e_36_9 : xlk xFL (xmo 36) 9 = some (4, 0, false, 82) := by decide +kernel
set_option maxRecDepth 100000 in
theorem h_36_44 : xlk xCL (xmo 36) 44 = some (31, 0, 544, 545, 0) := by decide +kernel
set_option maxRecDepth 100000 in
theorem e_36_22 : xlk xFL (xmo 36) 22 = some (4, 3, false, 85) := by decide +kernel
set_option maxRecDepth 100000 in
theorem k_36_73 : xlk xIC (xmo 36) 73 = some ((1000000 : Int32), 555) := by decide +kernel
set_option maxRecDepth 100000 in
theorem mr_36 : xmr 36 = some .int := by decide +kernel
set_option maxRecDepth 100000 in
theorem lm_37 : xml 37 = 6 := by decide +kernel
set_option maxRecDepth 100000 in
theorem jl_37 : 37 < xMs.length := by decide +kernel
set_option maxRecDepth 100000 in
theorem e_37_22 : xlk xFL (xmo 37) 22 = some (4, 3, false, 85) := by decide +kernel
set_option maxRecDepth 100000 in
theorem k_37_73 : xlk xIC (xmo 37) 73 = some ((1000000 : Int32), 555) := by decide +kernel
set_option maxRecDepth 100000 in
theorem mr_37 : xmr 37 = none := by decide +kernel
set_option maxRecDepth 100000 in
theorem e_37_25 : xlk xFL (xmo 37) 25 = some (4, 4, false, 86) := by decide +kernel
set_option maxRecDepth 100000 in
theorem e_37_62 : xlk xFL (xmo 37) 62 = some (4, 5, false, 87) := by decide +kernel
set_option maxRecDepth 100000 in
theorem h_37_86 : xlk xCL (xmo 37) 86 = some (38, 1, 569, 571, 11) := by decide +kernel
set_option maxRecDepth 100000 in
theorem mn_38 : xmn 38 = 2 := by decide +kernel
set_option maxRecDepth 100000 in
theorem mo_38 : xmo 38 = 4 := by decide +kernel
set_option maxRecDepth 100000 in
theorem e_37_18 : xlk xFL (xmo 37) 18 = some (4, 2, false, 84) := by decide +kernel
set_option maxRecDepth 100000 in
theorem h_37_44 : xlk xCL (xmo 37) 44 = some (31, 0, 544, 545, 0) := by decide +kernel
set_option maxRecDepth 100000 in
theorem lm_38 : xml 38 = 3 := by decide +kernel
set_option maxRecDepth 100000 in
theorem jl_38 : 38 < xMs.length := by decide +kernel
set_option maxRecDepth 100000 in
theorem h_38_78 : xlk xCL (xmo 38) 78 = some (36, 1, 560, 562, 9) := by decide +kernel
set_option maxRecDepth 100000 in
theorem e_38_22 : xlk xFL (xmo 38) 22 = some (4, 3, false, 85) := by decide +kernel
set_option maxRecDepth 100000 in
theorem mr_38 : xmr 38 = some .int := by decide +kernel
set_option maxRecDepth 100000 in
theorem lm_39 : xml 39 = 1 := by decide +kernel
set_option maxRecDepth 100000 in
theorem jl_39 : 39 < xMs.length := by decide +kernel
set_option maxRecDepth 100000 in
theorem mn_39 : xmn 39 = 1 := by decide +kernel
set_option maxRecDepth 100000 in
theorem r_39_3 : xlk xCL (xmo 39) 3 = none := by decide +kernel
set_option maxRecDepth 100000 in
theorem t_39_3 : xlk xOL (xmo 39) 3 = some 129 := by decide +kernel
set_option maxRecDepth 100000 in
theorem e_39_9 : xlk xFL (xmo 39) 9 = some (3, 0, false, 130) := by decide +kernel
set_option maxRecDepth 100000 in
theorem n_39 : (xmy 39).name = "<init>" ∧ xmo 39 = 3 ∧ false = false := by decide +kernel
set_option maxRecDepth 100000 in
theorem e_39_15 : xlk xFL (xmo 39) 15 = some (3, 1, false, 133) := by decide +kernel
set_option maxRecDepth 100000 in
theorem mr_39 : xmr 39 = none := by decide +kernel
set_option maxRecDepth 100000 in
theorem lm_40 : xml 40 = 1 := by decide +kernel
set_option maxRecDepth 100000 in
theorem jl_40 : 40 < xMs.length := by decide +kernel
set_option maxRecDepth 100000 in
theorem mn_40 : xmn 40 = 1 := by decide +kernel
set_option maxRecDepth 100000 in
theorem r_40_3 : xlk xCL (xmo 40) 3 = none := by decide +kernel
set_option maxRecDepth 100000 in
theorem t_40_3 : xlk xOL (xmo 40) 3 = some 146 := by decide +kernel
set_option maxRecDepth 100000 in
theorem e_40_9 : xlk xFL (xmo 40) 9 = some (5, 0, false, 147) := by decide +kernel
set_option maxRecDepth 100000 in
theorem n_40 : (xmy 40).name = "<init>" ∧ xmo 40 = 5 ∧ false = false := by decide +kernel
set_option maxRecDepth 100000 in
theorem e_40_15 : xlk xFL (xmo 40) 15 = some (5, 1, false, 148) := by decide +kernel
set_option maxRecDepth 100000 in
theorem mr_40 : xmr 40 = none := by decide +kernel
set_option maxRecDepth 100000 in
theorem lm_41 : xml 41 = 4 := by decide +kernel
set_option maxRecDepth 100000 in
theorem jl_41 : 41 < xMs.length := by decide +kernel
set_option maxRecDepth 100000 in
theorem mn_41 : xmn 41 = 3 := by decide +kernel
set_option maxRecDepth 100000 in
theorem e_41_9 : xlk xFL (xmo 41) 9 = some (5, 0, false, 147) := by decide +kernel
set_option maxRecDepth 100000 in
theorem e_41_18 : xlk xFL (xmo 41) 18 = some (3, 0, true, 131) := by decide +kernel
set_option maxRecDepth 100000 in
theorem e_41_23 : xlk xFL (xmo 41) 23 = some (3, 1, true, 134) := by decide +kernel
set_option maxRecDepth 100000 in
theorem e_41_26 : xlk xFL (xmo 41) 26 = some (2, 0, true, 111) := by decide +kernel
set_option maxRecDepth 100000 in
theorem mr_41 : xmr 41 = none := by decide +kernel
set_option maxRecDepth 100000 in
theorem lm_42 : xml 42 = 3 := by decide +kernel
set_option maxRecDepth 100000 in
theorem jl_42 : 42 < xMs.length := by decide +kernel
set_option maxRecDepth 100000 in
theorem mn_42 : xmn 42 = 3 := by decide +kernel
set_option maxRecDepth 100000 in
theorem e_42_9 : xlk xFL (xmo 42) 9 = some (5, 0, false, 147) := by decide +kernel
set_option maxRecDepth 100000 in
theorem h_42_29 : xlk xCL (xmo 42) 29 = some (158, 0, 714, 491, 0) := by decide +kernel
set_option maxRecDepth 100000 in
theorem mr_42 : xmr 42 = some .int := by decide +kernel
set_option maxRecDepth 100000 in
theorem lm_43 : xml 43 = 7 := by decide +kernel
set_option maxRecDepth 100000 in
theorem jl_43 : 43 < xMs.length := by decide +kernel
set_option maxRecDepth 100000 in
theorem mn_43 : xmn 43 = 2 := by decide +kernel
set_option maxRecDepth 100000 in
theorem e_43_9 : xlk xFL (xmo 43) 9 = some (5, 0, false, 147) := by decide +kernel
set_option maxRecDepth 100000 in
theorem h_43_35 : xlk xCL (xmo 43) 35 = some (159, 0, 705, 506, 0) := by decide +kernel
set_option maxRecDepth 100000 in
theorem h_43_38 : xlk xCL (xmo 43) 38 = some (47, 1, 706, 708, 18) := by decide +kernel
set_option maxRecDepth 100000 in
theorem mn_47 : xmn 47 = 2 := by decide +kernel
set_option maxRecDepth 100000 in
theorem mo_47 : xmo 47 = 5 := by decide +kernel
set_option maxRecDepth 100000 in
theorem mr_43 : xmr 43 = some .int := by decide +kernel
set_option maxRecDepth 100000 in
theorem lm_44 : xml 44 = 6 := by decide +kernel
set_option maxRecDepth 100000 in
theorem jl_44 : 44 < xMs.length := by decide +kernel
set_option maxRecDepth 100000 in
theorem mn_44 : xmn 44 = 2 := by decide +kernel
set_option maxRecDepth 100000 in
theorem h_44_42 : xlk xCL (xmo 44) 42 = some (48, 1, 726, 728, 19) := by decide +kernel
set_option maxRecDepth 100000 in
theorem mn_48 : xmn 48 = 1 := by decide +kernel
set_option maxRecDepth 100000 in
theorem mo_48 : xmo 48 = 5 := by decide +kernel
set_option maxRecDepth 100000 in
theorem e_44_15 : xlk xFL (xmo 44) 15 = some (5, 1, false, 148) := by decide +kernel
set_option maxRecDepth 100000 in
theorem h_44_45 : xlk xCL (xmo 44) 45 = some (157, 0, 730, 731, 0) := by decide +kernel
set_option maxRecDepth 100000 in
theorem mn_157 : xmn 157 = 2 := by decide +kernel
set_option maxRecDepth 100000 in
theorem mr_44 : xmr 44 = some .int := by decide +kernel
set_option maxRecDepth 100000 in
theorem lm_45 : xml 45 = 4 := by decide +kernel
set_option maxRecDepth 100000 in
theorem jl_45 : 45 < xMs.length := by decide +kernel
set_option maxRecDepth 100000 in
theorem mn_45 : xmn 45 = 2 := by decide +kernel
set_option maxRecDepth 100000 in
theorem h_45_48 : xlk xCL (xmo 45) 48 = some (42, 1, 710, 711, 712) := by decide +kernel
set_option maxRecDepth 100000 in
theorem mo_42 : xmo 42 = 5 := by decide +kernel
set_option maxRecDepth 100000 in
theorem h_45_51 : xlk xCL (xmo 45) 51 = some (46, 1, 752, 754, 20) := by decide +kernel
set_option maxRecDepth 100000 in
theorem mn_46 : xmn 46 = 4 := by decide +kernel
set_option maxRecDepth 100000 in
theorem mo_46 : xmo 46 = 5 := by decide +kernel
set_option maxRecDepth 100000 in
theorem mr_45 : xmr 45 = some .int := by decide +kernel
set_option maxRecDepth 100000 in
theorem lm_46 : xml 46 = 5 := by decide +kernel
set_option maxRecDepth 100000 in
theorem jl_46 : 46 < xMs.length := by decide +kernel
set_option maxRecDepth 100000 in
theorem h_46_48 : xlk xCL (xmo 46) 48 = some (42, 1, 710, 711, 712) := by decide +kernel
set_option maxRecDepth 100000 in
theorem mr_46 : xmr 46 = some .boolean := by decide +kernel
set_option maxRecDepth 100000 in
theorem lm_47 : xml 47 = 4 := by decide +kernel
set_option maxRecDepth 100000 in
theorem jl_47 : 47 < xMs.length := by decide +kernel
set_option maxRecDepth 100000 in
theorem h_47_48 : xlk xCL (xmo 47) 48 = some (42, 1, 710, 711, 712) := by decide +kernel
set_option maxRecDepth 100000 in
theorem mr_47 : xmr 47 = some .int := by decide +kernel
set_option maxRecDepth 100000 in
theorem lm_48 : xml 48 = 4 := by decide +kernel
set_option maxRecDepth 100000 in
theorem jl_48 : 48 < xMs.length := by decide +kernel
set_option maxRecDepth 100000 in
theorem e_48_9 : xlk xFL (xmo 48) 9 = some (5, 0, false, 147) := by decide +kernel
set_option maxRecDepth 100000 in
theorem e_48_15 : xlk xFL (xmo 48) 15 = some (5, 1, false, 148) := by decide +kernel
set_option maxRecDepth 100000 in
theorem mr_48 : xmr 48 = none := by decide +kernel
set_option maxRecDepth 100000 in
theorem lm_49 : xml 49 = 2 := by decide +kernel
set_option maxRecDepth 100000 in
theorem jl_49 : 49 < xMs.length := by decide +kernel
set_option maxRecDepth 100000 in
theorem mn_49 : xmn 49 = 1 := by decide +kernel
set_option maxRecDepth 100000 in
theorem r_49_1 : xlk xCL (xmo 49) 1 = none := by decide +kernel
set_option maxRecDepth 100000 in
theorem t_49_1 : xlk xOL (xmo 49) 1 = some 69 := by decide +kernel
set_option maxRecDepth 100000 in
theorem q_49_9 : xlk xKL (xmo 49) 9 = some (0, 72) := by decide +kernel
set_option maxRecDepth 100000 in
theorem e_49_11 : xlk xFL (xmo 49) 11 = some (6, 0, false, 154) := by decide +kernel
set_option maxRecDepth 100000 in
theorem n_49 : (xmy 49).name = "<init>" ∧ xmo 49 = 6 ∧ false = false := by decide +kernel
set_option maxRecDepth 100000 in
theorem q_49_15 : xlk xKL (xmo 49) 15 = some (1, 74) := by decide +kernel
set_option maxRecDepth 100000 in
theorem e_49_17 : xlk xFL (xmo 49) 17 = some (6, 2, false, 156) := by decide +kernel
set_option maxRecDepth 100000 in
theorem q_49_21 : xlk xKL (xmo 49) 21 = some (4, 76) := by decide +kernel
set_option maxRecDepth 100000 in
theorem h_49_23 : xlk xCL (xmo 49) 23 = some (24, 2, 78, 79, 0) := by decide +kernel
set_option maxRecDepth 100000 in
theorem mo_24 : xmo 24 = 4 := by decide +kernel
set_option maxRecDepth 100000 in
theorem e_49_24 : xlk xFL (xmo 49) 24 = some (6, 4, false, 158) := by decide +kernel
set_option maxRecDepth 100000 in
theorem q_49_28 : xlk xKL (xmo 49) 28 = some (2, 103) := by decide +kernel
set_option maxRecDepth 100000 in
theorem e_49_30 : xlk xFL (xmo 49) 30 = some (6, 5, false, 159) := by decide +kernel
set_option maxRecDepth 100000 in
theorem h_49_34 : xlk xCL (xmo 49) 34 = some (10, 2, 106, 107, 0) := by decide +kernel
set_option maxRecDepth 100000 in
theorem mo_10 : xmo 10 = 2 := by decide +kernel
set_option maxRecDepth 100000 in
theorem q_49_35 : xlk xKL (xmo 49) 35 = some (3, 123) := by decide +kernel
set_option maxRecDepth 100000 in
theorem e_49_37 : xlk xFL (xmo 49) 37 = some (6, 6, false, 160) := by decide +kernel
set_option maxRecDepth 100000 in
theorem h_49_41 : xlk xCL (xmo 49) 41 = some (39, 2, 126, 127, 0) := by decide +kernel
set_option maxRecDepth 100000 in
theorem mo_39 : xmo 39 = 3 := by decide +kernel
set_option maxRecDepth 100000 in
theorem q_49_42 : xlk xKL (xmo 49) 42 = some (5, 141) := by decide +kernel
set_option maxRecDepth 100000 in
theorem h_49_44 : xlk xCL (xmo 49) 44 = some (40, 2, 143, 144, 0) := by decide +kernel
set_option maxRecDepth 100000 in
theorem mo_40 : xmo 40 = 5 := by decide +kernel
set_option maxRecDepth 100000 in
theorem e_49_45 : xlk xFL (xmo 49) 45 = some (6, 7, false, 161) := by decide +kernel
set_option maxRecDepth 100000 in
theorem mr_49 : xmr 49 = none := by decide +kernel
set_option maxRecDepth 100000 in
theorem lm_50 : xml 50 = 3 := by decide +kernel
set_option maxRecDepth 100000 in
theorem jl_50 : 50 < xMs.length := by decide +kernel
set_option maxRecDepth 100000 in
theorem mn_50 : xmn 50 = 2 := by decide +kernel
set_option maxRecDepth 100000 in
theorem h_50_49 : xlk xCL (xmo 50) 49 = some (88, 0, 195, 196, 0) := by decide +kernel
set_option maxRecDepth 100000 in
theorem mn_88 : xmn 88 = 3 := by decide +kernel
set_option maxRecDepth 100000 in
theorem e_50_53 : xlk xFL (xmo 50) 53 = some (6, 1, false, 155) := by decide +kernel
set_option maxRecDepth 100000 in
theorem q_50_57 : xlk xKL (xmo 50) 57 = some (9, 266) := by decide +kernel
set_option maxRecDepth 100000 in
theorem u_50_59 : xlk xSL (xmo 50) 59 = some "there are 8 hides" := by decide +kernel
set_option maxRecDepth 100000 in
theorem v_50_61 : xlk xIL (xmo 50) 61 = some 9 := by decide +kernel
set_option maxRecDepth 100000 in
theorem w_50 : xmh 50 = [] := by decide +kernel
set_option maxRecDepth 100000 in
theorem e_50_11 : xlk xFL (xmo 50) 11 = some (6, 0, false, 154) := by decide +kernel
set_option maxRecDepth 100000 in
theorem q_50_9 : xlk xKL (xmo 50) 9 = some (0, 72) := by decide +kernel
set_option maxRecDepth 100000 in
theorem h_50_64 : xlk xCL (xmo 50) 64 = some (0, 2, 283, 284, 0) := by decide +kernel
set_option maxRecDepth 100000 in
theorem mo_0 : xmo 0 = 0 := by decide +kernel
set_option maxRecDepth 100000 in
theorem mr_50 : xmr 50 = some .int := by decide +kernel
set_option maxRecDepth 100000 in
theorem lm_51 : xml 51 = 5 := by decide +kernel
set_option maxRecDepth 100000 in
theorem jl_51 : 51 < xMs.length := by decide +kernel
set_option maxRecDepth 100000 in
theorem mn_51 : xmn 51 = 4 := by decide +kernel
set_option maxRecDepth 100000 in
theorem h_51_67 : xlk xCL (xmo 51) 67 = some (83, 1, 302, 304, 1) := by decide +kernel
set_option maxRecDepth 100000 in
theorem mn_83 : xmn 83 = 2 := by decide +kernel
set_option maxRecDepth 100000 in
theorem mo_83 : xmo 83 = 6 := by decide +kernel
set_option maxRecDepth 100000 in
theorem h_51_71 : xlk xCL (xmo 51) 71 = some (87, 0, 322, 323, 0) := by decide +kernel
set_option maxRecDepth 100000 in
theorem mn_87 : xmn 87 = 2 := by decide +kernel
set_option maxRecDepth 100000 in
theorem h_51_75 : xlk xCL (xmo 51) 75 = some (1, 1, 326, 327, 328) := by decide +kernel
set_option maxRecDepth 100000 in
theorem mo_1 : xmo 1 = 0 := by decide +kernel
set_option maxRecDepth 100000 in
theorem h_51_79 : xlk xCL (xmo 51) 79 = some (2, 1, 330, 331, 332) := by decide +kernel
set_option maxRecDepth 100000 in
theorem mo_2 : xmo 2 = 0 := by decide +kernel
set_option maxRecDepth 100000 in
theorem mr_51 : xmr 51 = some .int := by decide +kernel
set_option maxRecDepth 100000 in
theorem lm_52 : xml 52 = 9 := by decide +kernel
set_option maxRecDepth 100000 in
theorem jl_52 : 52 < xMs.length := by decide +kernel
set_option maxRecDepth 100000 in
theorem mn_52 : xmn 52 = 7 := by decide +kernel
set_option maxRecDepth 100000 in
theorem h_52_67 : xlk xCL (xmo 52) 67 = some (83, 1, 302, 304, 1) := by decide +kernel
set_option maxRecDepth 100000 in
theorem h_52_71 : xlk xCL (xmo 52) 71 = some (87, 0, 322, 323, 0) := by decide +kernel
set_option maxRecDepth 100000 in
theorem h_52_49 : xlk xCL (xmo 52) 49 = some (88, 0, 195, 196, 0) := by decide +kernel
set_option maxRecDepth 100000 in
theorem h_52_83 : xlk xCL (xmo 52) 83 = some (4, 1, 341, 342, 343) := by decide +kernel
set_option maxRecDepth 100000 in
theorem q_52_57 : xlk xKL (xmo 52) 57 = some (9, 266) := by decide +kernel
set_option maxRecDepth 100000 in
theorem u_52_87 : xlk xSL (xmo 52) 87 = some "it cannot be cut there" := by decide +kernel
set_option maxRecDepth 100000 in
theorem v_52_61 : xlk xIL (xmo 52) 61 = some 9 := by decide +kernel
set_option maxRecDepth 100000 in
theorem w_52 : xmh 52 = [] := by decide +kernel
set_option maxRecDepth 100000 in
theorem e_52_89 : xlk xFL (xmo 52) 89 = some (6, 3, false, 157) := by decide +kernel
set_option maxRecDepth 100000 in
theorem u_52_92 : xlk xSL (xmo 52) 92 = some "there were 40 parts" := by decide +kernel
set_option maxRecDepth 100000 in
theorem e_52_17 : xlk xFL (xmo 52) 17 = some (6, 2, false, 156) := by decide +kernel
set_option maxRecDepth 100000 in
theorem q_52_15 : xlk xKL (xmo 52) 15 = some (1, 74) := by decide +kernel
set_option maxRecDepth 100000 in
theorem h_52_94 : xlk xCL (xmo 52) 94 = some (3, 1, 355, 356, 357) := by decide +kernel
set_option maxRecDepth 100000 in
theorem h_52_98 : xlk xCL (xmo 52) 98 = some (15, 2, 359, 360, 0) := by decide +kernel
set_option maxRecDepth 100000 in
theorem mo_15 : xmo 15 = 1 := by decide +kernel
set_option maxRecDepth 100000 in
theorem h_52_75 : xlk xCL (xmo 52) 75 = some (1, 1, 326, 327, 328) := by decide +kernel
set_option maxRecDepth 100000 in
theorem mr_52 : xmr 52 = some .int := by decide +kernel
set_option maxRecDepth 100000 in
theorem lm_53 : xml 53 = 7 := by decide +kernel
set_option maxRecDepth 100000 in
theorem jl_53 : 53 < xMs.length := by decide +kernel
set_option maxRecDepth 100000 in
theorem mn_53 : xmn 53 = 6 := by decide +kernel
set_option maxRecDepth 100000 in
theorem h_53_67 : xlk xCL (xmo 53) 67 = some (83, 1, 302, 304, 1) := by decide +kernel
set_option maxRecDepth 100000 in
theorem h_53_49 : xlk xCL (xmo 53) 49 = some (88, 0, 195, 196, 0) := by decide +kernel
set_option maxRecDepth 100000 in
theorem h_53_101 : xlk xCL (xmo 53) 101 = some (5, 1, 425, 426, 427) := by decide +kernel
set_option maxRecDepth 100000 in
theorem mo_5 : xmo 5 = 0 := by decide +kernel
set_option maxRecDepth 100000 in
theorem mr_53 : xmr 53 = some .int := by decide +kernel
set_option maxRecDepth 100000 in
theorem lm_54 : xml 54 = 5 := by decide +kernel
set_option maxRecDepth 100000 in
theorem jl_54 : 54 < xMs.length := by decide +kernel
set_option maxRecDepth 100000 in
theorem mn_54 : xmn 54 = 3 := by decide +kernel
set_option maxRecDepth 100000 in
theorem h_54_105 : xlk xCL (xmo 54) 105 = some (84, 1, 445, 447, 4) := by decide +kernel
set_option maxRecDepth 100000 in
theorem mn_84 : xmn 84 = 2 := by decide +kernel
set_option maxRecDepth 100000 in
theorem mo_84 : xmo 84 = 6 := by decide +kernel
set_option maxRecDepth 100000 in
theorem e_54_109 : xlk xFL (xmo 54) 109 = some (1, 5, true, 373) := by decide +kernel
set_option maxRecDepth 100000 in
theorem h_54_49 : xlk xCL (xmo 54) 49 = some (88, 0, 195, 196, 0) := by decide +kernel
set_option maxRecDepth 100000 in
theorem e_54_112 : xlk xFL (xmo 54) 112 = some (1, 8, true, 378) := by decide +kernel
set_option maxRecDepth 100000 in
theorem q_54_57 : xlk xKL (xmo 54) 57 = some (9, 266) := by decide +kernel
set_option maxRecDepth 100000 in
theorem u_54_115 : xlk xSL (xmo 54) 115 = some "it is in a seam" := by decide +kernel
set_option maxRecDepth 100000 in
theorem v_54_61 : xlk xIL (xmo 54) 61 = some 9 := by decide +kernel
set_option maxRecDepth 100000 in
theorem w_54 : xmh 54 = [] := by decide +kernel
set_option maxRecDepth 100000 in
theorem mr_54 : xmr 54 = some .int := by decide +kernel
set_option maxRecDepth 100000 in
theorem lm_55 : xml 55 = 4 := by decide +kernel
set_option maxRecDepth 100000 in
theorem jl_55 : 55 < xMs.length := by decide +kernel
set_option maxRecDepth 100000 in
theorem mn_55 : xmn 55 = 3 := by decide +kernel
set_option maxRecDepth 100000 in
theorem h_55_105 : xlk xCL (xmo 55) 105 = some (84, 1, 445, 447, 4) := by decide +kernel
set_option maxRecDepth 100000 in
theorem e_55_117 : xlk xFL (xmo 55) 117 = some (1, 0, true, 364) := by decide +kernel
set_option maxRecDepth 100000 in
theorem h_55_49 : xlk xCL (xmo 55) 49 = some (88, 0, 195, 196, 0) := by decide +kernel
set_option maxRecDepth 100000 in
theorem h_55_120 : xlk xCL (xmo 55) 120 = some (16, 1, 458, 459, 460) := by decide +kernel
set_option maxRecDepth 100000 in
theorem mo_16 : xmo 16 = 1 := by decide +kernel
set_option maxRecDepth 100000 in
theorem q_55_57 : xlk xKL (xmo 55) 57 = some (9, 266) := by decide +kernel
set_option maxRecDepth 100000 in
theorem u_55_124 : xlk xSL (xmo 55) 124 = some "it is too near to another hole" := by decide +kernel
set_option maxRecDepth 100000 in
theorem v_55_61 : xlk xIL (xmo 55) 61 = some 9 := by decide +kernel
set_option maxRecDepth 100000 in
theorem w_55 : xmh 55 = [] := by decide +kernel
set_option maxRecDepth 100000 in
theorem e_55_112 : xlk xFL (xmo 55) 112 = some (1, 8, true, 378) := by decide +kernel
set_option maxRecDepth 100000 in
theorem h_55_126 : xlk xCL (xmo 55) 126 = some (20, 1, 463, 464, 465) := by decide +kernel
set_option maxRecDepth 100000 in
theorem e_55_130 : xlk xFL (xmo 55) 130 = some (1, 12, true, 390) := by decide +kernel
set_option maxRecDepth 100000 in
theorem u_55_134 : xlk xSL (xmo 55) 134 = some "it is in a seam, buckled, or broke" := by decide +kernel
set_option maxRecDepth 100000 in
theorem h_55_136 : xlk xCL (xmo 55) 136 = some (17, 1, 468, 469, 470) := by decide +kernel
set_option maxRecDepth 100000 in
theorem mo_17 : xmo 17 = 1 := by decide +kernel
set_option maxRecDepth 100000 in
theorem mr_55 : xmr 55 = some .int := by decide +kernel
set_option maxRecDepth 100000 in
theorem lm_56 : xml 56 = 5 := by decide +kernel
set_option maxRecDepth 100000 in
theorem jl_56 : 56 < xMs.length := by decide +kernel
set_option maxRecDepth 100000 in
theorem mn_56 : xmn 56 = 3 := by decide +kernel
set_option maxRecDepth 100000 in
theorem h_56_105 : xlk xCL (xmo 56) 105 = some (84, 1, 445, 447, 4) := by decide +kernel
set_option maxRecDepth 100000 in
theorem e_56_140 : xlk xFL (xmo 56) 140 = some (1, 3, true, 370) := by decide +kernel
set_option maxRecDepth 100000 in
theorem e_56_117 : xlk xFL (xmo 56) 117 = some (1, 0, true, 364) := by decide +kernel
set_option maxRecDepth 100000 in
theorem e_56_143 : xlk xFL (xmo 56) 143 = some (1, 1, true, 366) := by decide +kernel
set_option maxRecDepth 100000 in
theorem e_56_109 : xlk xFL (xmo 56) 109 = some (1, 5, true, 373) := by decide +kernel
set_option maxRecDepth 100000 in
theorem e_56_146 : xlk xFL (xmo 56) 146 = some (1, 2, true, 368) := by decide +kernel
set_option maxRecDepth 100000 in
theorem mr_56 : xmr 56 = some .boolean := by decide +kernel
set_option maxRecDepth 100000 in
theorem lm_57 : xml 57 = 4 := by decide +kernel
set_option maxRecDepth 100000 in
theorem jl_57 : 57 < xMs.length := by decide +kernel
set_option maxRecDepth 100000 in
theorem mn_57 : xmn 57 = 3 := by decide +kernel
set_option maxRecDepth 100000 in
theorem h_57_105 : xlk xCL (xmo 57) 105 = some (84, 1, 445, 447, 4) := by decide +kernel
set_option maxRecDepth 100000 in
theorem h_57_49 : xlk xCL (xmo 57) 49 = some (88, 0, 195, 196, 0) := by decide +kernel
set_option maxRecDepth 100000 in
theorem e_57_117 : xlk xFL (xmo 57) 117 = some (1, 0, true, 364) := by decide +kernel
set_option maxRecDepth 100000 in
theorem mr_57 : xmr 57 = some .int := by decide +kernel
set_option maxRecDepth 100000 in
theorem e_57_143 : xlk xFL (xmo 57) 143 = some (1, 1, true, 366) := by decide +kernel
set_option maxRecDepth 100000 in
theorem e_57_109 : xlk xFL (xmo 57) 109 = some (1, 5, true, 373) := by decide +kernel
set_option maxRecDepth 100000 in
theorem e_57_146 : xlk xFL (xmo 57) 146 = some (1, 2, true, 368) := by decide +kernel
set_option maxRecDepth 100000 in
theorem e_57_149 : xlk xFL (xmo 57) 149 = some (1, 6, true, 375) := by decide +kernel
set_option maxRecDepth 100000 in
theorem e_57_152 : xlk xFL (xmo 57) 152 = some (1, 7, true, 377) := by decide +kernel
set_option maxRecDepth 100000 in
theorem h_57_155 : xlk xCL (xmo 57) 155 = some (19, 1, 486, 487, 488) := by decide +kernel
set_option maxRecDepth 100000 in
theorem e_57_158 : xlk xFL (xmo 57) 158 = some (1, 9, true, 382) := by decide +kernel
set_option maxRecDepth 100000 in
theorem e_57_161 : xlk xFL (xmo 57) 161 = some (1, 10, true, 385) := by decide +kernel
set_option maxRecDepth 100000 in
theorem e_57_164 : xlk xFL (xmo 57) 164 = some (1, 11, true, 388) := by decide +kernel
set_option maxRecDepth 100000 in
theorem e_57_130 : xlk xFL (xmo 57) 130 = some (1, 12, true, 390) := by decide +kernel
set_option maxRecDepth 100000 in
theorem lm_58 : xml 58 = 6 := by decide +kernel
set_option maxRecDepth 100000 in
theorem jl_58 : 58 < xMs.length := by decide +kernel
set_option maxRecDepth 100000 in
theorem mn_58 : xmn 58 = 5 := by decide +kernel
set_option maxRecDepth 100000 in
theorem h_58_105 : xlk xCL (xmo 58) 105 = some (84, 1, 445, 447, 4) := by decide +kernel
set_option maxRecDepth 100000 in
theorem h_58_71 : xlk xCL (xmo 58) 71 = some (87, 0, 322, 323, 0) := by decide +kernel
set_option maxRecDepth 100000 in
theorem e_58_149 : xlk xFL (xmo 58) 149 = some (1, 6, true, 375) := by decide +kernel
set_option maxRecDepth 100000 in
theorem h_58_167 : xlk xCL (xmo 58) 167 = some (89, 0, 500, 501, 0) := by decide +kernel
set_option maxRecDepth 100000 in
theorem mn_89 : xmn 89 = 2 := by decide +kernel
set_option maxRecDepth 100000 in
theorem e_58_140 : xlk xFL (xmo 58) 140 = some (1, 3, true, 370) := by decide +kernel
set_option maxRecDepth 100000 in
theorem h_58_126 : xlk xCL (xmo 58) 126 = some (20, 1, 463, 464, 465) := by decide +kernel
set_option maxRecDepth 100000 in
theorem e_58_130 : xlk xFL (xmo 58) 130 = some (1, 12, true, 390) := by decide +kernel
set_option maxRecDepth 100000 in
theorem q_58_57 : xlk xKL (xmo 58) 57 = some (9, 266) := by decide +kernel
set_option maxRecDepth 100000 in
theorem u_58_170 : xlk xSL (xmo 58) 170 = some "it is no strap, is buckled, or broke" := by decide +kernel
set_option maxRecDepth 100000 in
theorem v_58_61 : xlk xIL (xmo 58) 61 = some 9 := by decide +kernel
set_option maxRecDepth 100000 in
theorem w_58 : xmh 58 = [] := by decide +kernel
set_option maxRecDepth 100000 in
theorem h_58_172 : xlk xCL (xmo 58) 172 = some (159, 0, 505, 506, 0) := by decide +kernel
set_option maxRecDepth 100000 in
theorem e_58_158 : xlk xFL (xmo 58) 158 = some (1, 9, true, 382) := by decide +kernel
set_option maxRecDepth 100000 in
theorem h_58_177 : xlk xCL (xmo 58) 177 = some (158, 0, 508, 491, 0) := by decide +kernel
set_option maxRecDepth 100000 in
theorem e_58_161 : xlk xFL (xmo 58) 161 = some (1, 10, true, 385) := by decide +kernel
set_option maxRecDepth 100000 in
theorem h_58_180 : xlk xCL (xmo 58) 180 = some (18, 1, 509, 510, 511) := by decide +kernel
set_option maxRecDepth 100000 in
theorem mo_18 : xmo 18 = 1 := by decide +kernel
set_option maxRecDepth 100000 in
theorem e_58_164 : xlk xFL (xmo 58) 164 = some (1, 11, true, 388) := by decide +kernel
set_option maxRecDepth 100000 in
theorem mr_58 : xmr 58 = some .int := by decide +kernel
set_option maxRecDepth 100000 in
theorem lm_59 : xml 59 = 4 := by decide +kernel
set_option maxRecDepth 100000 in
theorem jl_59 : 59 < xMs.length := by decide +kernel
set_option maxRecDepth 100000 in
theorem mn_59 : xmn 59 = 2 := by decide +kernel
set_option maxRecDepth 100000 in
theorem h_59_105 : xlk xCL (xmo 59) 105 = some (84, 1, 445, 447, 4) := by decide +kernel
set_option maxRecDepth 100000 in
theorem h_59_126 : xlk xCL (xmo 59) 126 = some (20, 1, 463, 464, 465) := by decide +kernel
set_option maxRecDepth 100000 in
theorem q_59_57 : xlk xKL (xmo 59) 57 = some (9, 266) := by decide +kernel
set_option maxRecDepth 100000 in
theorem u_59_183 : xlk xSL (xmo 59) 183 = some "it is not buckled" := by decide +kernel
set_option maxRecDepth 100000 in
theorem v_59_61 : xlk xIL (xmo 59) 61 = some 9 := by decide +kernel
set_option maxRecDepth 100000 in
theorem w_59 : xmh 59 = [] := by decide +kernel
set_option maxRecDepth 100000 in
theorem e_59_164 : xlk xFL (xmo 59) 164 = some (1, 11, true, 388) := by decide +kernel
set_option maxRecDepth 100000 in
theorem h_59_185 : xlk xCL (xmo 59) 185 = some (22, 1, 521, 522, 523) := by decide +kernel
set_option maxRecDepth 100000 in
theorem mr_59 : xmr 59 = some .int := by decide +kernel
set_option maxRecDepth 100000 in
theorem lm_60 : xml 60 = 6 := by decide +kernel
set_option maxRecDepth 100000 in
theorem jl_60 : 60 < xMs.length := by decide +kernel
set_option maxRecDepth 100000 in
theorem mn_60 : xmn 60 = 5 := by decide +kernel
set_option maxRecDepth 100000 in
theorem h_60_105 : xlk xCL (xmo 60) 105 = some (84, 1, 445, 447, 4) := by decide +kernel
set_option maxRecDepth 100000 in
theorem h_60_188 : xlk xCL (xmo 60) 188 = some (90, 0, 532, 533, 0) := by decide +kernel
set_option maxRecDepth 100000 in
theorem mn_90 : xmn 90 = 2 := by decide +kernel
set_option maxRecDepth 100000 in
theorem h_60_49 : xlk xCL (xmo 60) 49 = some (88, 0, 195, 196, 0) := by decide +kernel
set_option maxRecDepth 100000 in
theorem e_60_24 : xlk xFL (xmo 60) 24 = some (6, 4, false, 158) := by decide +kernel
set_option maxRecDepth 100000 in
theorem e_60_17 : xlk xFL (xmo 60) 17 = some (6, 2, false, 156) := by decide +kernel
set_option maxRecDepth 100000 in
theorem h_60_191 : xlk xCL (xmo 60) 191 = some (25, 1, 535, 536, 537) := by decide +kernel
set_option maxRecDepth 100000 in
theorem mo_25 : xmo 25 = 4 := by decide +kernel
set_option maxRecDepth 100000 in
theorem h_60_195 : xlk xCL (xmo 60) 195 = some (29, 1, 573, 574, 575) := by decide +kernel
set_option maxRecDepth 100000 in
theorem mo_29 : xmo 29 = 4 := by decide +kernel
set_option maxRecDepth 100000 in
theorem mr_60 : xmr 60 = some .int := by decide +kernel
set_option maxRecDepth 100000 in
theorem lm_61 : xml 61 = 4 := by decide +kernel
set_option maxRecDepth 100000 in
theorem jl_61 : 61 < xMs.length := by decide +kernel
set_option maxRecDepth 100000 in
theorem mn_61 : xmn 61 = 4 := by decide +kernel
set_option maxRecDepth 100000 in
theorem h_61_71 : xlk xCL (xmo 61) 71 = some (87, 0, 322, 323, 0) := by decide +kernel
set_option maxRecDepth 100000 in
theorem q_61_199 : xlk xKL (xmo 61) 199 = some (10, 306) := by decide +kernel
set_option maxRecDepth 100000 in
theorem u_61_201 : xlk xSL (xmo 61) 201 = some "place is below 0" := by decide +kernel
set_option maxRecDepth 100000 in
theorem v_61_203 : xlk xIL (xmo 61) 203 = some 10 := by decide +kernel
set_option maxRecDepth 100000 in
theorem w_61 : xmh 61 = [] := by decide +kernel
set_option maxRecDepth 100000 in
theorem h_61_167 : xlk xCL (xmo 61) 167 = some (89, 0, 500, 501, 0) := by decide +kernel
set_option maxRecDepth 100000 in
theorem e_61_24 : xlk xFL (xmo 61) 24 = some (6, 4, false, 158) := by decide +kernel
set_option maxRecDepth 100000 in
theorem e_61_17 : xlk xFL (xmo 61) 17 = some (6, 2, false, 156) := by decide +kernel
set_option maxRecDepth 100000 in
theorem h_61_191 : xlk xCL (xmo 61) 191 = some (25, 1, 535, 536, 537) := by decide +kernel
set_option maxRecDepth 100000 in
theorem h_61_204 : xlk xCL (xmo 61) 204 = some (27, 1, 589, 590, 591) := by decide +kernel
set_option maxRecDepth 100000 in
theorem mo_27 : xmo 27 = 4 := by decide +kernel
set_option maxRecDepth 100000 in
theorem mr_61 : xmr 61 = some .int := by decide +kernel
set_option maxRecDepth 100000 in
theorem lm_62 : xml 62 = 5 := by decide +kernel
set_option maxRecDepth 100000 in
theorem jl_62 : 62 < xMs.length := by decide +kernel
set_option maxRecDepth 100000 in
theorem mn_62 : xmn 62 = 4 := by decide +kernel
set_option maxRecDepth 100000 in
theorem h_62_188 : xlk xCL (xmo 62) 188 = some (90, 0, 532, 533, 0) := by decide +kernel
set_option maxRecDepth 100000 in
theorem h_62_49 : xlk xCL (xmo 62) 49 = some (88, 0, 195, 196, 0) := by decide +kernel
set_option maxRecDepth 100000 in
theorem e_62_24 : xlk xFL (xmo 62) 24 = some (6, 4, false, 158) := by decide +kernel
set_option maxRecDepth 100000 in
theorem e_62_17 : xlk xFL (xmo 62) 17 = some (6, 2, false, 156) := by decide +kernel
set_option maxRecDepth 100000 in
theorem h_62_191 : xlk xCL (xmo 62) 191 = some (25, 1, 535, 536, 537) := by decide +kernel
set_option maxRecDepth 100000 in
theorem h_62_207 : xlk xCL (xmo 62) 207 = some (26, 1, 600, 601, 602) := by decide +kernel
set_option maxRecDepth 100000 in
theorem mo_26 : xmo 26 = 4 := by decide +kernel
set_option maxRecDepth 100000 in
theorem q_62_57 : xlk xKL (xmo 62) 57 = some (9, 266) := by decide +kernel
set_option maxRecDepth 100000 in
theorem u_62_210 : xlk xSL (xmo 62) 210 = some "there is no way" := by decide +kernel
set_option maxRecDepth 100000 in
theorem v_62_61 : xlk xIL (xmo 62) 61 = some 9 := by decide +kernel
set_option maxRecDepth 100000 in
theorem w_62 : xmh 62 = [] := by decide +kernel
set_option maxRecDepth 100000 in
theorem h_62_212 : xlk xCL (xmo 62) 212 = some (79, 1, 605, 607, 12) := by decide +kernel
set_option maxRecDepth 100000 in
theorem mn_79 : xmn 79 = 4 := by decide +kernel
set_option maxRecDepth 100000 in
theorem mo_79 : xmo 79 = 6 := by decide +kernel
set_option maxRecDepth 100000 in
theorem h_62_216 : xlk xCL (xmo 62) 216 = some (81, 1, 618, 620, 14) := by decide +kernel
set_option maxRecDepth 100000 in
theorem mn_81 : xmn 81 = 2 := by decide +kernel
set_option maxRecDepth 100000 in
theorem mo_81 : xmo 81 = 6 := by decide +kernel
set_option maxRecDepth 100000 in
theorem mr_62 : xmr 62 = some .int := by decide +kernel
set_option maxRecDepth 100000 in
theorem lm_63 : xml 63 = 6 := by decide +kernel
set_option maxRecDepth 100000 in
theorem jl_63 : 63 < xMs.length := by decide +kernel
set_option maxRecDepth 100000 in
theorem mn_63 : xmn 63 = 3 := by decide +kernel
set_option maxRecDepth 100000 in
theorem h_63_188 : xlk xCL (xmo 63) 188 = some (90, 0, 532, 533, 0) := by decide +kernel
set_option maxRecDepth 100000 in
theorem e_63_24 : xlk xFL (xmo 63) 24 = some (6, 4, false, 158) := by decide +kernel
set_option maxRecDepth 100000 in
theorem e_63_17 : xlk xFL (xmo 63) 17 = some (6, 2, false, 156) := by decide +kernel
set_option maxRecDepth 100000 in
theorem h_63_191 : xlk xCL (xmo 63) 191 = some (25, 1, 535, 536, 537) := by decide +kernel
set_option maxRecDepth 100000 in
theorem h_63_207 : xlk xCL (xmo 63) 207 = some (26, 1, 600, 601, 602) := by decide +kernel
set_option maxRecDepth 100000 in
theorem mr_63 : xmr 63 = some .int := by decide +kernel
set_option maxRecDepth 100000 in
theorem e_63_89 : xlk xFL (xmo 63) 89 = some (6, 3, false, 157) := by decide +kernel
set_option maxRecDepth 100000 in
theorem h_63_219 : xlk xCL (xmo 63) 219 = some (28, 1, 629, 578, 579) := by decide +kernel
set_option maxRecDepth 100000 in
theorem h_63_223 : xlk xCL (xmo 63) 223 = some (30, 1, 630, 631, 632) := by decide +kernel
set_option maxRecDepth 100000 in
theorem mo_30 : xmo 30 = 4 := by decide +kernel
set_option maxRecDepth 100000 in
theorem h_63_172 : xlk xCL (xmo 63) 172 = some (159, 0, 505, 506, 0) := by decide +kernel
set_option maxRecDepth 100000 in
theorem lm_64 : xml 64 = 3 := by decide +kernel
set_option maxRecDepth 100000 in
theorem jl_64 : 64 < xMs.length := by decide +kernel
set_option maxRecDepth 100000 in
theorem mn_64 : xmn 64 = 2 := by decide +kernel
set_option maxRecDepth 100000 in
theorem h_64_105 : xlk xCL (xmo 64) 105 = some (84, 1, 445, 447, 4) := by decide +kernel
set_option maxRecDepth 100000 in
theorem e_64_152 : xlk xFL (xmo 64) 152 = some (1, 7, true, 377) := by decide +kernel
set_option maxRecDepth 100000 in
theorem mr_64 : xmr 64 = some .int := by decide +kernel
set_option maxRecDepth 100000 in
theorem lm_65 : xml 65 = 11 := by decide +kernel
set_option maxRecDepth 100000 in
theorem jl_65 : 65 < xMs.length := by decide +kernel
set_option maxRecDepth 100000 in
theorem mn_65 : xmn 65 = 5 := by decide +kernel
set_option maxRecDepth 100000 in
theorem h_65_105 : xlk xCL (xmo 65) 105 = some (84, 1, 445, 447, 4) := by decide +kernel
set_option maxRecDepth 100000 in
theorem h_65_167 : xlk xCL (xmo 65) 167 = some (89, 0, 500, 501, 0) := by decide +kernel
set_option maxRecDepth 100000 in
theorem h_65_49 : xlk xCL (xmo 65) 49 = some (88, 0, 195, 196, 0) := by decide +kernel
set_option maxRecDepth 100000 in
theorem h_65_227 : xlk xCL (xmo 65) 227 = some (21, 1, 649, 650, 651) := by decide +kernel
set_option maxRecDepth 100000 in
theorem mo_21 : xmo 21 = 1 := by decide +kernel
set_option maxRecDepth 100000 in
theorem q_65_57 : xlk xKL (xmo 65) 57 = some (9, 266) := by decide +kernel
set_option maxRecDepth 100000 in
theorem u_65_230 : xlk xSL (xmo 65) 230 = some "one has 4 seams, is buckled, or broke" := by decide +kernel
set_option maxRecDepth 100000 in
theorem v_65_61 : xlk xIL (xmo 65) 61 = some 9 := by decide +kernel
set_option maxRecDepth 100000 in
theorem w_65 : xmh 65 = [] := by decide +kernel
set_option maxRecDepth 100000 in
theorem e_65_112 : xlk xFL (xmo 65) 112 = some (1, 8, true, 378) := by decide +kernel
set_option maxRecDepth 100000 in
theorem e_65_117 : xlk xFL (xmo 65) 117 = some (1, 0, true, 364) := by decide +kernel
set_option maxRecDepth 100000 in
theorem h_65_172 : xlk xCL (xmo 65) 172 = some (159, 0, 505, 506, 0) := by decide +kernel
set_option maxRecDepth 100000 in
theorem e_65_109 : xlk xFL (xmo 65) 109 = some (1, 5, true, 373) := by decide +kernel
set_option maxRecDepth 100000 in
theorem mr_65 : xmr 65 = some .int := by decide +kernel
set_option maxRecDepth 100000 in
theorem lm_66 : xml 66 = 6 := by decide +kernel
set_option maxRecDepth 100000 in
theorem jl_66 : 66 < xMs.length := by decide +kernel
set_option maxRecDepth 100000 in
theorem mn_66 : xmn 66 = 4 := by decide +kernel
set_option maxRecDepth 100000 in
theorem h_66_232 : xlk xCL (xmo 66) 232 = some (85, 1, 662, 664, 15) := by decide +kernel
set_option maxRecDepth 100000 in
theorem mn_85 : xmn 85 = 2 := by decide +kernel
set_option maxRecDepth 100000 in
theorem mo_85 : xmo 85 = 6 := by decide +kernel
set_option maxRecDepth 100000 in
theorem h_66_71 : xlk xCL (xmo 66) 71 = some (87, 0, 322, 323, 0) := by decide +kernel
set_option maxRecDepth 100000 in
theorem h_66_49 : xlk xCL (xmo 66) 49 = some (88, 0, 195, 196, 0) := by decide +kernel
set_option maxRecDepth 100000 in
theorem e_66_236 : xlk xFL (xmo 66) 236 = some (2, 0, true, 112) := by decide +kernel
set_option maxRecDepth 100000 in
theorem mr_66 : xmr 66 = some .int := by decide +kernel
set_option maxRecDepth 100000 in
theorem lm_67 : xml 67 = 6 := by decide +kernel
set_option maxRecDepth 100000 in
theorem jl_67 : 67 < xMs.length := by decide +kernel
set_option maxRecDepth 100000 in
theorem mn_67 : xmn 67 = 4 := by decide +kernel
set_option maxRecDepth 100000 in
theorem h_67_240 : xlk xCL (xmo 67) 240 = some (86, 1, 674, 676, 16) := by decide +kernel
set_option maxRecDepth 100000 in
theorem mn_86 : xmn 86 = 2 := by decide +kernel
set_option maxRecDepth 100000 in
theorem mo_86 : xmo 86 = 6 := by decide +kernel
set_option maxRecDepth 100000 in
theorem h_67_71 : xlk xCL (xmo 67) 71 = some (87, 0, 322, 323, 0) := by decide +kernel
set_option maxRecDepth 100000 in
theorem h_67_49 : xlk xCL (xmo 67) 49 = some (88, 0, 195, 196, 0) := by decide +kernel
set_option maxRecDepth 100000 in
theorem e_67_244 : xlk xFL (xmo 67) 244 = some (3, 0, true, 132) := by decide +kernel
set_option maxRecDepth 100000 in
theorem mr_67 : xmr 67 = some .int := by decide +kernel
set_option maxRecDepth 100000 in
theorem lm_68 : xml 68 = 6 := by decide +kernel
set_option maxRecDepth 100000 in
theorem jl_68 : 68 < xMs.length := by decide +kernel
set_option maxRecDepth 100000 in
theorem mn_68 : xmn 68 = 4 := by decide +kernel
set_option maxRecDepth 100000 in
theorem h_68_240 : xlk xCL (xmo 68) 240 = some (86, 1, 674, 676, 16) := by decide +kernel
set_option maxRecDepth 100000 in
theorem h_68_71 : xlk xCL (xmo 68) 71 = some (87, 0, 322, 323, 0) := by decide +kernel
set_option maxRecDepth 100000 in
theorem h_68_49 : xlk xCL (xmo 68) 49 = some (88, 0, 195, 196, 0) := by decide +kernel
set_option maxRecDepth 100000 in
theorem e_68_245 : xlk xFL (xmo 68) 245 = some (3, 1, true, 135) := by decide +kernel
set_option maxRecDepth 100000 in
theorem mr_68 : xmr 68 = some .int := by decide +kernel
set_option maxRecDepth 100000 in
theorem lm_69 : xml 69 = 4 := by decide +kernel
set_option maxRecDepth 100000 in
theorem jl_69 : 69 < xMs.length := by decide +kernel
set_option maxRecDepth 100000 in
theorem mn_69 : xmn 69 = 4 := by decide +kernel
set_option maxRecDepth 100000 in
theorem h_69_248 : xlk xCL (xmo 69) 248 = some (82, 1, 693, 695, 17) := by decide +kernel
set_option maxRecDepth 100000 in
theorem mn_82 : xmn 82 = 4 := by decide +kernel
set_option maxRecDepth 100000 in
theorem mo_82 : xmo 82 = 6 := by decide +kernel
set_option maxRecDepth 100000 in
theorem e_69_45 : xlk xFL (xmo 69) 45 = some (6, 7, false, 161) := by decide +kernel
set_option maxRecDepth 100000 in
theorem h_69_251 : xlk xCL (xmo 69) 251 = some (43, 1, 701, 702, 703) := by decide +kernel
set_option maxRecDepth 100000 in
theorem mo_43 : xmo 43 = 5 := by decide +kernel
set_option maxRecDepth 100000 in
theorem mr_69 : xmr 69 = some .int := by decide +kernel
set_option maxRecDepth 100000 in
theorem lm_70 : xml 70 = 4 := by decide +kernel
set_option maxRecDepth 100000 in
theorem jl_70 : 70 < xMs.length := by decide +kernel
set_option maxRecDepth 100000 in
theorem mn_70 : xmn 70 = 4 := by decide +kernel
set_option maxRecDepth 100000 in
theorem h_70_248 : xlk xCL (xmo 70) 248 = some (82, 1, 693, 695, 17) := by decide +kernel
set_option maxRecDepth 100000 in
theorem e_70_45 : xlk xFL (xmo 70) 45 = some (6, 7, false, 161) := by decide +kernel
set_option maxRecDepth 100000 in
theorem h_70_254 : xlk xCL (xmo 70) 254 = some (44, 1, 722, 723, 724) := by decide +kernel
set_option maxRecDepth 100000 in
theorem mo_44 : xmo 44 = 5 := by decide +kernel
set_option maxRecDepth 100000 in
theorem mr_70 : xmr 70 = some .int := by decide +kernel
set_option maxRecDepth 100000 in
theorem lm_71 : xml 71 = 5 := by decide +kernel
set_option maxRecDepth 100000 in
theorem jl_71 : 71 < xMs.length := by decide +kernel
set_option maxRecDepth 100000 in
theorem mn_71 : xmn 71 = 5 := by decide +kernel
set_option maxRecDepth 100000 in
theorem h_71_71 : xlk xCL (xmo 71) 71 = some (87, 0, 322, 323, 0) := by decide +kernel
set_option maxRecDepth 100000 in
theorem h_71_248 : xlk xCL (xmo 71) 248 = some (82, 1, 693, 695, 17) := by decide +kernel
set_option maxRecDepth 100000 in
theorem e_71_45 : xlk xFL (xmo 71) 45 = some (6, 7, false, 161) := by decide +kernel
set_option maxRecDepth 100000 in
theorem h_71_251 : xlk xCL (xmo 71) 251 = some (43, 1, 701, 702, 703) := by decide +kernel
set_option maxRecDepth 100000 in
theorem h_71_257 : xlk xCL (xmo 71) 257 = some (42, 1, 740, 711, 712) := by decide +kernel
set_option maxRecDepth 100000 in
theorem mr_71 : xmr 71 = some .int := by decide +kernel
set_option maxRecDepth 100000 in
theorem lm_72 : xml 72 = 4 := by decide +kernel
set_option maxRecDepth 100000 in
theorem jl_72 : 72 < xMs.length := by decide +kernel
set_option maxRecDepth 100000 in
theorem mn_72 : xmn 72 = 4 := by decide +kernel
set_option maxRecDepth 100000 in
theorem h_72_248 : xlk xCL (xmo 72) 248 = some (82, 1, 693, 695, 17) := by decide +kernel
set_option maxRecDepth 100000 in
theorem e_72_45 : xlk xFL (xmo 72) 45 = some (6, 7, false, 161) := by decide +kernel
set_option maxRecDepth 100000 in
theorem h_72_251 : xlk xCL (xmo 72) 251 = some (43, 1, 701, 702, 703) := by decide +kernel
set_option maxRecDepth 100000 in
theorem h_72_260 : xlk xCL (xmo 72) 260 = some (45, 1, 748, 749, 750) := by decide +kernel
set_option maxRecDepth 100000 in
theorem mo_45 : xmo 45 = 5 := by decide +kernel
set_option maxRecDepth 100000 in
theorem mr_72 : xmr 72 = some .int := by decide +kernel
set_option maxRecDepth 100000 in
theorem lm_73 : xml 73 = 14 := by decide +kernel
set_option maxRecDepth 100000 in
theorem jl_73 : 73 < xMs.length := by decide +kernel
set_option maxRecDepth 100000 in
theorem mn_73 : xmn 73 = 7 := by decide +kernel
set_option maxRecDepth 100000 in
theorem h_73_232 : xlk xCL (xmo 73) 232 = some (85, 1, 662, 664, 15) := by decide +kernel
set_option maxRecDepth 100000 in
theorem h_73_240 : xlk xCL (xmo 73) 240 = some (86, 1, 674, 676, 16) := by decide +kernel
set_option maxRecDepth 100000 in
theorem h_73_71 : xlk xCL (xmo 73) 71 = some (87, 0, 322, 323, 0) := by decide +kernel
set_option maxRecDepth 100000 in
theorem h_73_49 : xlk xCL (xmo 73) 49 = some (88, 0, 195, 196, 0) := by decide +kernel
set_option maxRecDepth 100000 in
theorem h_73_263 : xlk xCL (xmo 73) 263 = some (11, 1, 763, 764, 765) := by decide +kernel
set_option maxRecDepth 100000 in
theorem mo_11 : xmo 11 = 2 := by decide +kernel
set_option maxRecDepth 100000 in
theorem q_73_57 : xlk xKL (xmo 73) 57 = some (9, 266) := by decide +kernel
set_option maxRecDepth 100000 in
theorem u_73_266 : xlk xSL (xmo 73) 266 = some "the horse is lame" := by decide +kernel
set_option maxRecDepth 100000 in
theorem v_73_61 : xlk xIL (xmo 73) 61 = some 9 := by decide +kernel
set_option maxRecDepth 100000 in
theorem w_73 : xmh 73 = [] := by decide +kernel
set_option maxRecDepth 100000 in
theorem e_73_268 : xlk xFL (xmo 73) 268 = some (6, 8, false, 162) := by decide +kernel
set_option maxRecDepth 100000 in
theorem u_73_271 : xlk xSL (xmo 73) 271 = some "there were 60 rides" := by decide +kernel
set_option maxRecDepth 100000 in
theorem e_73_45 : xlk xFL (xmo 73) 45 = some (6, 7, false, 161) := by decide +kernel
set_option maxRecDepth 100000 in
theorem h_73_273 : xlk xCL (xmo 73) 273 = some (41, 1, 697, 698, 699) := by decide +kernel
set_option maxRecDepth 100000 in
theorem mo_41 : xmo 41 = 5 := by decide +kernel
set_option maxRecDepth 100000 in
theorem h_73_251 : xlk xCL (xmo 73) 251 = some (43, 1, 701, 702, 703) := by decide +kernel
set_option maxRecDepth 100000 in
theorem h_73_257 : xlk xCL (xmo 73) 257 = some (42, 1, 740, 711, 712) := by decide +kernel
set_option maxRecDepth 100000 in
theorem h_73_177 : xlk xCL (xmo 73) 177 = some (158, 0, 508, 491, 0) := by decide +kernel
set_option maxRecDepth 100000 in
theorem h_73_277 : xlk xCL (xmo 73) 277 = some (189, 1, 769, 770, 771) := by decide +kernel
set_option maxRecDepth 100000 in
theorem mn_189 : xmn 189 = 6 := by decide +kernel
set_option maxRecDepth 100000 in
theorem mo_189 : xmo 189 = 2 := by decide +kernel
set_option maxRecDepth 100000 in
theorem h_73_281 : xlk xCL (xmo 73) 281 = some (190, 1, 777, 778, 779) := by decide +kernel
set_option maxRecDepth 100000 in
theorem mn_190 : xmn 190 = 2 := by decide +kernel
set_option maxRecDepth 100000 in
theorem mo_190 : xmo 190 = 3 := by decide +kernel
set_option maxRecDepth 100000 in
theorem mr_73 : xmr 73 = some .int := by decide +kernel
set_option maxRecDepth 100000 in
theorem lm_74 : xml 74 = 7 := by decide +kernel
set_option maxRecDepth 100000 in
theorem jl_74 : 74 < xMs.length := by decide +kernel
set_option maxRecDepth 100000 in
theorem mn_74 : xmn 74 = 2 := by decide +kernel
set_option maxRecDepth 100000 in
theorem h_74_49 : xlk xCL (xmo 74) 49 = some (88, 0, 195, 196, 0) := by decide +kernel
set_option maxRecDepth 100000 in
theorem e_74_30 : xlk xFL (xmo 74) 30 = some (6, 5, false, 159) := by decide +kernel
set_option maxRecDepth 100000 in
theorem h_74_284 : xlk xCL (xmo 74) 284 = some (12, 1, 789, 790, 791) := by decide +kernel
set_option maxRecDepth 100000 in
theorem mo_12 : xmo 12 = 2 := by decide +kernel
set_option maxRecDepth 100000 in
theorem h_74_263 : xlk xCL (xmo 74) 263 = some (11, 1, 763, 764, 765) := by decide +kernel
set_option maxRecDepth 100000 in
theorem mr_74 : xmr 74 = some .int := by decide +kernel
set_option maxRecDepth 100000 in
theorem lm_75 : xml 75 = 5 := by decide +kernel
set_option maxRecDepth 100000 in
theorem jl_75 : 75 < xMs.length := by decide +kernel
set_option maxRecDepth 100000 in
theorem mn_75 : xmn 75 = 4 := by decide +kernel
set_option maxRecDepth 100000 in
theorem h_75_232 : xlk xCL (xmo 75) 232 = some (85, 1, 662, 664, 15) := by decide +kernel
set_option maxRecDepth 100000 in
theorem h_75_71 : xlk xCL (xmo 75) 71 = some (87, 0, 322, 323, 0) := by decide +kernel
set_option maxRecDepth 100000 in
theorem h_75_49 : xlk xCL (xmo 75) 49 = some (88, 0, 195, 196, 0) := by decide +kernel
set_option maxRecDepth 100000 in
theorem e_75_287 : xlk xFL (xmo 75) 287 = some (2, 1, true, 114) := by decide +kernel
set_option maxRecDepth 100000 in
theorem mr_75 : xmr 75 = some .int := by decide +kernel
set_option maxRecDepth 100000 in
theorem e_75_236 : xlk xFL (xmo 75) 236 = some (2, 0, true, 112) := by decide +kernel
set_option maxRecDepth 100000 in
theorem h_75_263 : xlk xCL (xmo 75) 263 = some (11, 1, 763, 764, 765) := by decide +kernel
set_option maxRecDepth 100000 in
theorem lm_76 : xml 76 = 6 := by decide +kernel
set_option maxRecDepth 100000 in
theorem jl_76 : 76 < xMs.length := by decide +kernel
set_option maxRecDepth 100000 in
theorem mn_76 : xmn 76 = 5 := by decide +kernel
set_option maxRecDepth 100000 in
theorem h_76_232 : xlk xCL (xmo 76) 232 = some (85, 1, 662, 664, 15) := by decide +kernel
set_option maxRecDepth 100000 in
theorem h_76_71 : xlk xCL (xmo 76) 71 = some (87, 0, 322, 323, 0) := by decide +kernel
set_option maxRecDepth 100000 in
theorem h_76_49 : xlk xCL (xmo 76) 49 = some (88, 0, 195, 196, 0) := by decide +kernel
set_option maxRecDepth 100000 in
theorem h_76_290 : xlk xCL (xmo 76) 290 = some (14, 1, 808, 809, 810) := by decide +kernel
set_option maxRecDepth 100000 in
theorem mo_14 : xmo 14 = 2 := by decide +kernel
set_option maxRecDepth 100000 in
theorem mr_76 : xmr 76 = some .int := by decide +kernel
set_option maxRecDepth 100000 in
theorem lm_77 : xml 77 = 9 := by decide +kernel
set_option maxRecDepth 100000 in
theorem jl_77 : 77 < xMs.length := by decide +kernel
set_option maxRecDepth 100000 in
theorem mn_77 : xmn 77 = 4 := by decide +kernel
set_option maxRecDepth 100000 in
theorem h_77_232 : xlk xCL (xmo 77) 232 = some (85, 1, 662, 664, 15) := by decide +kernel
set_option maxRecDepth 100000 in
theorem h_77_71 : xlk xCL (xmo 77) 71 = some (87, 0, 322, 323, 0) := by decide +kernel
set_option maxRecDepth 100000 in
theorem h_77_49 : xlk xCL (xmo 77) 49 = some (88, 0, 195, 196, 0) := by decide +kernel
set_option maxRecDepth 100000 in
theorem h_77_290 : xlk xCL (xmo 77) 290 = some (14, 1, 808, 809, 810) := by decide +kernel
set_option maxRecDepth 100000 in
theorem mr_77 : xmr 77 = some .int := by decide +kernel
set_option maxRecDepth 100000 in
theorem lm_78 : xml 78 = 1 := by decide +kernel
set_option maxRecDepth 100000 in
theorem jl_78 : 78 < xMs.length := by decide +kernel
set_option maxRecDepth 100000 in
theorem mn_78 : xmn 78 = 1 := by decide +kernel
set_option maxRecDepth 100000 in
theorem e_78_268 : xlk xFL (xmo 78) 268 = some (6, 8, false, 162) := by decide +kernel
set_option maxRecDepth 100000 in
theorem mr_78 : xmr 78 = some .int := by decide +kernel
set_option maxRecDepth 100000 in
theorem lm_79 : xml 79 = 7 := by decide +kernel
set_option maxRecDepth 100000 in
theorem jl_79 : 79 < xMs.length := by decide +kernel
set_option maxRecDepth 100000 in
theorem h_79_293 : xlk xCL (xmo 79) 293 = some (80, 1, 609, 611, 13) := by decide +kernel
set_option maxRecDepth 100000 in
theorem mn_80 : xmn 80 = 2 := by decide +kernel
set_option maxRecDepth 100000 in
theorem mo_80 : xmo 80 = 6 := by decide +kernel
set_option maxRecDepth 100000 in
theorem mr_79 : xmr 79 = some .int := by decide +kernel
set_option maxRecDepth 100000 in
theorem h_79_296 : xlk xCL (xmo 79) 296 = some (23, 1, 613, 614, 615) := by decide +kernel
set_option maxRecDepth 100000 in
theorem mo_23 : xmo 23 = 1 := by decide +kernel
set_option maxRecDepth 100000 in
theorem e_79_24 : xlk xFL (xmo 79) 24 = some (6, 4, false, 158) := by decide +kernel
set_option maxRecDepth 100000 in
theorem e_79_17 : xlk xFL (xmo 79) 17 = some (6, 2, false, 156) := by decide +kernel
set_option maxRecDepth 100000 in
theorem h_79_191 : xlk xCL (xmo 79) 191 = some (25, 1, 535, 536, 537) := by decide +kernel
set_option maxRecDepth 100000 in
theorem lm_80 : xml 80 = 4 := by decide +kernel
set_option maxRecDepth 100000 in
theorem jl_80 : 80 < xMs.length := by decide +kernel
set_option maxRecDepth 100000 in
theorem e_80_89 : xlk xFL (xmo 80) 89 = some (6, 3, false, 157) := by decide +kernel
set_option maxRecDepth 100000 in
theorem e_80_17 : xlk xFL (xmo 80) 17 = some (6, 2, false, 156) := by decide +kernel
set_option maxRecDepth 100000 in
theorem e_80_24 : xlk xFL (xmo 80) 24 = some (6, 4, false, 158) := by decide +kernel
set_option maxRecDepth 100000 in
theorem h_80_195 : xlk xCL (xmo 80) 195 = some (29, 1, 573, 574, 575) := by decide +kernel
set_option maxRecDepth 100000 in
theorem h_80_155 : xlk xCL (xmo 80) 155 = some (19, 1, 486, 487, 488) := by decide +kernel
set_option maxRecDepth 100000 in
theorem mr_80 : xmr 80 = some (.object "Saddletree$Part") := by decide +kernel
set_option maxRecDepth 100000 in
theorem lm_81 : xml 81 = 4 := by decide +kernel
set_option maxRecDepth 100000 in
theorem jl_81 : 81 < xMs.length := by decide +kernel
set_option maxRecDepth 100000 in
theorem e_81_89 : xlk xFL (xmo 81) 89 = some (6, 3, false, 157) := by decide +kernel
set_option maxRecDepth 100000 in
theorem e_81_17 : xlk xFL (xmo 81) 17 = some (6, 2, false, 156) := by decide +kernel
set_option maxRecDepth 100000 in
theorem e_81_152 : xlk xFL (xmo 81) 152 = some (1, 7, true, 377) := by decide +kernel
set_option maxRecDepth 100000 in
theorem e_81_24 : xlk xFL (xmo 81) 24 = some (6, 4, false, 158) := by decide +kernel
set_option maxRecDepth 100000 in
theorem h_81_195 : xlk xCL (xmo 81) 195 = some (29, 1, 573, 574, 575) := by decide +kernel
set_option maxRecDepth 100000 in
theorem mr_81 : xmr 81 = none := by decide +kernel
set_option maxRecDepth 100000 in
theorem lm_82 : xml 82 = 6 := by decide +kernel
set_option maxRecDepth 100000 in
theorem jl_82 : 82 < xMs.length := by decide +kernel
set_option maxRecDepth 100000 in
theorem h_82_232 : xlk xCL (xmo 82) 232 = some (85, 1, 662, 664, 15) := by decide +kernel
set_option maxRecDepth 100000 in
theorem h_82_240 : xlk xCL (xmo 82) 240 = some (86, 1, 674, 676, 16) := by decide +kernel
set_option maxRecDepth 100000 in
theorem h_82_49 : xlk xCL (xmo 82) 49 = some (88, 0, 195, 196, 0) := by decide +kernel
set_option maxRecDepth 100000 in
theorem e_82_45 : xlk xFL (xmo 82) 45 = some (6, 7, false, 161) := by decide +kernel
set_option maxRecDepth 100000 in
theorem h_82_273 : xlk xCL (xmo 82) 273 = some (41, 1, 697, 698, 699) := by decide +kernel
set_option maxRecDepth 100000 in
theorem mr_82 : xmr 82 = none := by decide +kernel
set_option maxRecDepth 100000 in
theorem lm_83 : xml 83 = 3 := by decide +kernel
set_option maxRecDepth 100000 in
theorem jl_83 : 83 < xMs.length := by decide +kernel
set_option maxRecDepth 100000 in
theorem e_83_11 : xlk xFL (xmo 83) 11 = some (6, 0, false, 154) := by decide +kernel
set_option maxRecDepth 100000 in
theorem q_83_199 : xlk xKL (xmo 83) 199 = some (10, 306) := by decide +kernel
set_option maxRecDepth 100000 in
theorem u_83_299 : xlk xSL (xmo 83) 299 = some "there is no such hide" := by decide +kernel
set_option maxRecDepth 100000 in
theorem v_83_203 : xlk xIL (xmo 83) 203 = some 10 := by decide +kernel
set_option maxRecDepth 100000 in
theorem w_83 : xmh 83 = [] := by decide +kernel
set_option maxRecDepth 100000 in
theorem mr_83 : xmr 83 = some (.object "Saddletree$Hide") := by decide +kernel
set_option maxRecDepth 100000 in
theorem lm_84 : xml 84 = 3 := by decide +kernel
set_option maxRecDepth 100000 in
theorem jl_84 : 84 < xMs.length := by decide +kernel
set_option maxRecDepth 100000 in
theorem e_84_17 : xlk xFL (xmo 84) 17 = some (6, 2, false, 156) := by decide +kernel
set_option maxRecDepth 100000 in
theorem q_84_199 : xlk xKL (xmo 84) 199 = some (10, 306) := by decide +kernel
set_option maxRecDepth 100000 in
theorem u_84_301 : xlk xSL (xmo 84) 301 = some "there is no such part" := by decide +kernel
set_option maxRecDepth 100000 in
theorem v_84_203 : xlk xIL (xmo 84) 203 = some 10 := by decide +kernel
set_option maxRecDepth 100000 in
theorem w_84 : xmh 84 = [] := by decide +kernel
set_option maxRecDepth 100000 in
theorem mr_84 : xmr 84 = some (.object "Saddletree$Part") := by decide +kernel
set_option maxRecDepth 100000 in
theorem lm_85 : xml 85 = 3 := by decide +kernel
set_option maxRecDepth 100000 in
theorem jl_85 : 85 < xMs.length := by decide +kernel
set_option maxRecDepth 100000 in
theorem e_85_30 : xlk xFL (xmo 85) 30 = some (6, 5, false, 159) := by decide +kernel
set_option maxRecDepth 100000 in
theorem q_85_199 : xlk xKL (xmo 85) 199 = some (10, 306) := by decide +kernel
set_option maxRecDepth 100000 in
theorem u_85_303 : xlk xSL (xmo 85) 303 = some "there is no such horse" := by decide +kernel
set_option maxRecDepth 100000 in
theorem v_85_203 : xlk xIL (xmo 85) 203 = some 10 := by decide +kernel
set_option maxRecDepth 100000 in
theorem w_85 : xmh 85 = [] := by decide +kernel
set_option maxRecDepth 100000 in
theorem mr_85 : xmr 85 = some (.object "Saddletree$Horse") := by decide +kernel
set_option maxRecDepth 100000 in
theorem lm_86 : xml 86 = 3 := by decide +kernel
set_option maxRecDepth 100000 in
theorem jl_86 : 86 < xMs.length := by decide +kernel
set_option maxRecDepth 100000 in
theorem e_86_37 : xlk xFL (xmo 86) 37 = some (6, 6, false, 160) := by decide +kernel
set_option maxRecDepth 100000 in
theorem q_86_199 : xlk xKL (xmo 86) 199 = some (10, 306) := by decide +kernel
set_option maxRecDepth 100000 in
theorem u_86_305 : xlk xSL (xmo 86) 305 = some "there is no such saddle" := by decide +kernel
set_option maxRecDepth 100000 in
theorem v_86_203 : xlk xIL (xmo 86) 203 = some 10 := by decide +kernel
set_option maxRecDepth 100000 in
theorem w_86 : xmh 86 = [] := by decide +kernel
set_option maxRecDepth 100000 in
theorem mr_86 : xmr 86 = some (.object "Saddletree$Saddle") := by decide +kernel
set_option maxRecDepth 100000 in
theorem lm_87 : xml 87 = 2 := by decide +kernel
set_option maxRecDepth 100000 in
theorem jl_87 : 87 < xMs.length := by decide +kernel
set_option maxRecDepth 100000 in
theorem q_87_199 : xlk xKL (xmo 87) 199 = some (10, 306) := by decide +kernel
set_option maxRecDepth 100000 in
theorem u_87_307 : xlk xSL (xmo 87) 307 = some "there is no such number" := by decide +kernel
set_option maxRecDepth 100000 in
theorem v_87_203 : xlk xIL (xmo 87) 203 = some 10 := by decide +kernel
set_option maxRecDepth 100000 in
theorem w_87 : xmh 87 = [] := by decide +kernel
set_option maxRecDepth 100000 in
theorem mr_87 : xmr 87 = none := by decide +kernel
set_option maxRecDepth 100000 in
theorem lm_88 : xml 88 = 3 := by decide +kernel
set_option maxRecDepth 100000 in
theorem jl_88 : 88 < xMs.length := by decide +kernel
set_option maxRecDepth 100000 in
theorem q_88_309 : xlk xKL (xmo 88) 309 = some (8, 198) := by decide +kernel
set_option maxRecDepth 100000 in
theorem u_88_311 : xlk xSL (xmo 88) 311 = some "out of range" := by decide +kernel
set_option maxRecDepth 100000 in
theorem v_88_313 : xlk xIL (xmo 88) 313 = some 8 := by decide +kernel
set_option maxRecDepth 100000 in
theorem w_88 : xmh 88 = [] := by decide +kernel
set_option maxRecDepth 100000 in
theorem mr_88 : xmr 88 = none := by decide +kernel
set_option maxRecDepth 100000 in
theorem lm_89 : xml 89 = 2 := by decide +kernel
set_option maxRecDepth 100000 in
theorem jl_89 : 89 < xMs.length := by decide +kernel
set_option maxRecDepth 100000 in
theorem q_89_309 : xlk xKL (xmo 89) 309 = some (8, 198) := by decide +kernel
set_option maxRecDepth 100000 in
theorem u_89_314 : xlk xSL (xmo 89) 314 = some "both are one" := by decide +kernel
set_option maxRecDepth 100000 in
theorem v_89_313 : xlk xIL (xmo 89) 313 = some 8 := by decide +kernel
set_option maxRecDepth 100000 in
theorem w_89 : xmh 89 = [] := by decide +kernel
set_option maxRecDepth 100000 in
theorem mr_89 : xmr 89 = none := by decide +kernel
set_option maxRecDepth 100000 in
theorem lm_90 : xml 90 = 2 := by decide +kernel
set_option maxRecDepth 100000 in
theorem jl_90 : 90 < xMs.length := by decide +kernel
set_option maxRecDepth 100000 in
theorem h_90_71 : xlk xCL (xmo 90) 71 = some (87, 0, 322, 323, 0) := by decide +kernel
set_option maxRecDepth 100000 in
theorem h_90_167 : xlk xCL (xmo 90) 167 = some (89, 0, 500, 501, 0) := by decide +kernel
set_option maxRecDepth 100000 in
theorem mr_90 : xmr 90 = none := by decide +kernel
set_option maxRecDepth 100000 in
theorem lm_91 : xml 91 = 1 := by decide +kernel
set_option maxRecDepth 100000 in
theorem jl_91 : 91 < xMs.length := by decide +kernel
set_option maxRecDepth 100000 in
theorem mn_91 : xmn 91 = 1 := by decide +kernel
set_option maxRecDepth 100000 in
theorem r_91_1 : xlk xCL (xmo 91) 1 = none := by decide +kernel
set_option maxRecDepth 100000 in
theorem t_91_1 : xlk xOL (xmo 91) 1 = some 824 := by decide +kernel
set_option maxRecDepth 100000 in
theorem e_91_7 : xlk xFL (xmo 91) 7 = some (7, 1, false, 826) := by decide +kernel
set_option maxRecDepth 100000 in
theorem n_91 : (xmy 91).name = "<init>" ∧ xmo 91 = 7 ∧ false = false := by decide +kernel
set_option maxRecDepth 100000 in
theorem e_91_13 : xlk xFL (xmo 91) 13 = some (7, 2, false, 827) := by decide +kernel
set_option maxRecDepth 100000 in
theorem e_91_16 : xlk xFL (xmo 91) 16 = some (7, 4, false, 829) := by decide +kernel
set_option maxRecDepth 100000 in
theorem e_91_19 : xlk xFL (xmo 91) 19 = some (7, 5, false, 830) := by decide +kernel
set_option maxRecDepth 100000 in
theorem e_91_22 : xlk xFL (xmo 91) 22 = some (7, 6, false, 831) := by decide +kernel
set_option maxRecDepth 100000 in
theorem e_91_25 : xlk xFL (xmo 91) 25 = some (7, 7, false, 832) := by decide +kernel
set_option maxRecDepth 100000 in
theorem e_91_28 : xlk xFL (xmo 91) 28 = some (7, 8, false, 833) := by decide +kernel
set_option maxRecDepth 100000 in
theorem e_91_32 : xlk xFL (xmo 91) 32 = some (7, 9, false, 834) := by decide +kernel
set_option maxRecDepth 100000 in
theorem e_91_36 : xlk xFL (xmo 91) 36 = some (7, 10, false, 835) := by decide +kernel
set_option maxRecDepth 100000 in
theorem e_91_39 : xlk xFL (xmo 91) 39 = some (7, 11, false, 836) := by decide +kernel
set_option maxRecDepth 100000 in
theorem e_91_42 : xlk xFL (xmo 91) 42 = some (7, 12, false, 837) := by decide +kernel
set_option maxRecDepth 100000 in
theorem e_91_45 : xlk xFL (xmo 91) 45 = some (7, 13, false, 838) := by decide +kernel
set_option maxRecDepth 100000 in
theorem e_91_48 : xlk xFL (xmo 91) 48 = some (7, 14, false, 839) := by decide +kernel
set_option maxRecDepth 100000 in
theorem e_91_51 : xlk xFL (xmo 91) 51 = some (7, 15, false, 840) := by decide +kernel
set_option maxRecDepth 100000 in
theorem e_91_54 : xlk xFL (xmo 91) 54 = some (7, 16, false, 841) := by decide +kernel
set_option maxRecDepth 100000 in
theorem e_91_57 : xlk xFL (xmo 91) 57 = some (7, 18, false, 843) := by decide +kernel
set_option maxRecDepth 100000 in
theorem e_91_60 : xlk xFL (xmo 91) 60 = some (7, 19, false, 844) := by decide +kernel
set_option maxRecDepth 100000 in
theorem e_91_63 : xlk xFL (xmo 91) 63 = some (7, 20, false, 845) := by decide +kernel
set_option maxRecDepth 100000 in
theorem e_91_66 : xlk xFL (xmo 91) 66 = some (7, 21, false, 846) := by decide +kernel
set_option maxRecDepth 100000 in
theorem e_91_69 : xlk xFL (xmo 91) 69 = some (7, 22, false, 847) := by decide +kernel
set_option maxRecDepth 100000 in
theorem e_91_72 : xlk xFL (xmo 91) 72 = some (7, 23, false, 848) := by decide +kernel
set_option maxRecDepth 100000 in
theorem e_91_75 : xlk xFL (xmo 91) 75 = some (7, 25, false, 850) := by decide +kernel
set_option maxRecDepth 100000 in
theorem e_91_78 : xlk xFL (xmo 91) 78 = some (7, 26, false, 851) := by decide +kernel
set_option maxRecDepth 100000 in
theorem e_91_81 : xlk xFL (xmo 91) 81 = some (7, 27, false, 852) := by decide +kernel
set_option maxRecDepth 100000 in
theorem mr_91 : xmr 91 = none := by decide +kernel
set_option maxRecDepth 100000 in
theorem lm_92 : xml 92 = 1 := by decide +kernel
set_option maxRecDepth 100000 in
theorem jl_92 : 92 < xMs.length := by decide +kernel
set_option maxRecDepth 100000 in
theorem mn_92 : xmn 92 = 1 := by decide +kernel
set_option maxRecDepth 100000 in
theorem e_92_84 : xlk xFL (xmo 92) 84 = some (7, 28, false, 853) := by decide +kernel
set_option maxRecDepth 100000 in
theorem mr_92 : xmr 92 = some .int := by decide +kernel
set_option maxRecDepth 100000 in
theorem lm_93 : xml 93 = 2 := by decide +kernel
set_option maxRecDepth 100000 in
theorem jl_93 : 93 < xMs.length := by decide +kernel
set_option maxRecDepth 100000 in
theorem mn_93 : xmn 93 = 2 := by decide +kernel
set_option maxRecDepth 100000 in
theorem e_93_84 : xlk xFL (xmo 93) 84 = some (7, 28, false, 853) := by decide +kernel
set_option maxRecDepth 100000 in
theorem mr_93 : xmr 93 = some .boolean := by decide +kernel
set_option maxRecDepth 100000 in
theorem lm_94 : xml 94 = 3 := by decide +kernel
set_option maxRecDepth 100000 in
theorem jl_94 : 94 < xMs.length := by decide +kernel
set_option maxRecDepth 100000 in
theorem mn_94 : xmn 94 = 3 := by decide +kernel
set_option maxRecDepth 100000 in
theorem mr_94 : xmr 94 = some .boolean := by decide +kernel
set_option maxRecDepth 100000 in
theorem lm_95 : xml 95 = 2 := by decide +kernel
set_option maxRecDepth 100000 in
theorem jl_95 : 95 < xMs.length := by decide +kernel
set_option maxRecDepth 100000 in
theorem mn_95 : xmn 95 = 2 := by decide +kernel
set_option maxRecDepth 100000 in
theorem e_95_88 : xlk xFL (xmo 95) 88 = some (7, 0, false, 825) := by decide +kernel
set_option maxRecDepth 100000 in
theorem h_95_91 : xlk xCL (xmo 95) 91 = some (94, 0, 922, 923, 0) := by decide +kernel
set_option maxRecDepth 100000 in
theorem mr_95 : xmr 95 = some .boolean := by decide +kernel
set_option maxRecDepth 100000 in
theorem lm_96 : xml 96 = 2 := by decide +kernel
set_option maxRecDepth 100000 in
theorem jl_96 : 96 < xMs.length := by decide +kernel
set_option maxRecDepth 100000 in
theorem mn_96 : xmn 96 = 2 := by decide +kernel
set_option maxRecDepth 100000 in
theorem e_96_95 : xlk xFL (xmo 96) 95 = some (7, 3, false, 828) := by decide +kernel
set_option maxRecDepth 100000 in
theorem h_96_91 : xlk xCL (xmo 96) 91 = some (94, 0, 922, 923, 0) := by decide +kernel
set_option maxRecDepth 100000 in
theorem mr_96 : xmr 96 = some .boolean := by decide +kernel
set_option maxRecDepth 100000 in
theorem lm_97 : xml 97 = 1 := by decide +kernel
set_option maxRecDepth 100000 in
theorem jl_97 : 97 < xMs.length := by decide +kernel
set_option maxRecDepth 100000 in
theorem mn_97 : xmn 97 = 1 := by decide +kernel
set_option maxRecDepth 100000 in
theorem h_97_91 : xlk xCL (xmo 97) 91 = some (94, 0, 922, 923, 0) := by decide +kernel
set_option maxRecDepth 100000 in
theorem mr_97 : xmr 97 = some .boolean := by decide +kernel
set_option maxRecDepth 100000 in
theorem lm_98 : xml 98 = 2 := by decide +kernel
set_option maxRecDepth 100000 in
theorem jl_98 : 98 < xMs.length := by decide +kernel
set_option maxRecDepth 100000 in
theorem mn_98 : xmn 98 = 2 := by decide +kernel
set_option maxRecDepth 100000 in
theorem h_98_91 : xlk xCL (xmo 98) 91 = some (94, 0, 922, 923, 0) := by decide +kernel
set_option maxRecDepth 100000 in
theorem mr_98 : xmr 98 = some .boolean := by decide +kernel
set_option maxRecDepth 100000 in
theorem lm_99 : xml 99 = 2 := by decide +kernel
set_option maxRecDepth 100000 in
theorem jl_99 : 99 < xMs.length := by decide +kernel
set_option maxRecDepth 100000 in
theorem mn_99 : xmn 99 = 2 := by decide +kernel
set_option maxRecDepth 100000 in
theorem h_99_91 : xlk xCL (xmo 99) 91 = some (94, 0, 922, 923, 0) := by decide +kernel
set_option maxRecDepth 100000 in
theorem e_99_88 : xlk xFL (xmo 99) 88 = some (7, 0, false, 825) := by decide +kernel
set_option maxRecDepth 100000 in
theorem h_99_98 : xlk xCL (xmo 99) 98 = some (93, 1, 925, 927, 22) := by decide +kernel
set_option maxRecDepth 100000 in
theorem mo_93 : xmo 93 = 7 := by decide +kernel
set_option maxRecDepth 100000 in
theorem mr_99 : xmr 99 = some .int := by decide +kernel
set_option maxRecDepth 100000 in
theorem e_99_7 : xlk xFL (xmo 99) 7 = some (7, 1, false, 826) := by decide +kernel
set_option maxRecDepth 100000 in
theorem lm_100 : xml 100 = 6 := by decide +kernel
set_option maxRecDepth 100000 in
theorem jl_100 : 100 < xMs.length := by decide +kernel
set_option maxRecDepth 100000 in
theorem mn_100 : xmn 100 = 4 := by decide +kernel
set_option maxRecDepth 100000 in
theorem h_100_102 : xlk xCL (xmo 100) 102 = some (95, 1, 933, 935, 23) := by decide +kernel
set_option maxRecDepth 100000 in
theorem mo_95 : xmo 95 = 7 := by decide +kernel
set_option maxRecDepth 100000 in
theorem h_100_105 : xlk xCL (xmo 100) 105 = some (98, 0, 937, 938, 0) := by decide +kernel
set_option maxRecDepth 100000 in
theorem h_100_98 : xlk xCL (xmo 100) 98 = some (93, 1, 925, 927, 22) := by decide +kernel
set_option maxRecDepth 100000 in
theorem mr_100 : xmr 100 = some .int := by decide +kernel
set_option maxRecDepth 100000 in
theorem e_100_13 : xlk xFL (xmo 100) 13 = some (7, 2, false, 827) := by decide +kernel
set_option maxRecDepth 100000 in
theorem lm_101 : xml 101 = 2 := by decide +kernel
set_option maxRecDepth 100000 in
theorem jl_101 : 101 < xMs.length := by decide +kernel
set_option maxRecDepth 100000 in
theorem mn_101 : xmn 101 = 2 := by decide +kernel
set_option maxRecDepth 100000 in
theorem h_101_91 : xlk xCL (xmo 101) 91 = some (94, 0, 922, 923, 0) := by decide +kernel
set_option maxRecDepth 100000 in
theorem mr_101 : xmr 101 = some .boolean := by decide +kernel
set_option maxRecDepth 100000 in
theorem lm_102 : xml 102 = 10 := by decide +kernel
set_option maxRecDepth 100000 in
theorem jl_102 : 102 < xMs.length := by decide +kernel
set_option maxRecDepth 100000 in
theorem mn_102 : xmn 102 = 7 := by decide +kernel
set_option maxRecDepth 100000 in
theorem e_102_13 : xlk xFL (xmo 102) 13 = some (7, 2, false, 827) := by decide +kernel
set_option maxRecDepth 100000 in
theorem mr_102 : xmr 102 = some .boolean := by decide +kernel
set_option maxRecDepth 100000 in
theorem lm_103 : xml 103 = 4 := by decide +kernel
set_option maxRecDepth 100000 in
theorem jl_103 : 103 < xMs.length := by decide +kernel
set_option maxRecDepth 100000 in
theorem mn_103 : xmn 103 = 4 := by decide +kernel
set_option maxRecDepth 100000 in
theorem e_103_7 : xlk xFL (xmo 103) 7 = some (7, 1, false, 826) := by decide +kernel
set_option maxRecDepth 100000 in
theorem mr_103 : xmr 103 = some .int := by decide +kernel
set_option maxRecDepth 100000 in
theorem lm_104 : xml 104 = 11 := by decide +kernel
set_option maxRecDepth 100000 in
theorem jl_104 : 104 < xMs.length := by decide +kernel
set_option maxRecDepth 100000 in
theorem mn_104 : xmn 104 = 7 := by decide +kernel
set_option maxRecDepth 100000 in
theorem h_104_102 : xlk xCL (xmo 104) 102 = some (95, 1, 933, 935, 23) := by decide +kernel
set_option maxRecDepth 100000 in
theorem h_104_105 : xlk xCL (xmo 104) 105 = some (98, 0, 937, 938, 0) := by decide +kernel
set_option maxRecDepth 100000 in
theorem h_104_109 : xlk xCL (xmo 104) 109 = some (101, 0, 944, 945, 0) := by decide +kernel
set_option maxRecDepth 100000 in
theorem h_104_112 : xlk xCL (xmo 104) 112 = some (102, 1, 947, 949, 24) := by decide +kernel
set_option maxRecDepth 100000 in
theorem mo_102 : xmo 102 = 7 := by decide +kernel
set_option maxRecDepth 100000 in
theorem e_104_95 : xlk xFL (xmo 104) 95 = some (7, 3, false, 828) := by decide +kernel
set_option maxRecDepth 100000 in
theorem h_104_98 : xlk xCL (xmo 104) 98 = some (93, 1, 925, 927, 22) := by decide +kernel
set_option maxRecDepth 100000 in
theorem mr_104 : xmr 104 = some .int := by decide +kernel
set_option maxRecDepth 100000 in
theorem e_104_13 : xlk xFL (xmo 104) 13 = some (7, 2, false, 827) := by decide +kernel
set_option maxRecDepth 100000 in
theorem e_104_16 : xlk xFL (xmo 104) 16 = some (7, 4, false, 829) := by decide +kernel
set_option maxRecDepth 100000 in
theorem e_104_19 : xlk xFL (xmo 104) 19 = some (7, 5, false, 830) := by decide +kernel
set_option maxRecDepth 100000 in
theorem e_104_22 : xlk xFL (xmo 104) 22 = some (7, 6, false, 831) := by decide +kernel
set_option maxRecDepth 100000 in
theorem h_104_116 : xlk xCL (xmo 104) 116 = some (103, 1, 951, 953, 25) := by decide +kernel
set_option maxRecDepth 100000 in
theorem mo_103 : xmo 103 = 7 := by decide +kernel
set_option maxRecDepth 100000 in
theorem e_104_25 : xlk xFL (xmo 104) 25 = some (7, 7, false, 832) := by decide +kernel
set_option maxRecDepth 100000 in
theorem e_104_28 : xlk xFL (xmo 104) 28 = some (7, 8, false, 833) := by decide +kernel
set_option maxRecDepth 100000 in
theorem e_104_45 : xlk xFL (xmo 104) 45 = some (7, 13, false, 838) := by decide +kernel
set_option maxRecDepth 100000 in
theorem e_104_48 : xlk xFL (xmo 104) 48 = some (7, 14, false, 839) := by decide +kernel
set_option maxRecDepth 100000 in
theorem e_104_51 : xlk xFL (xmo 104) 51 = some (7, 15, false, 840) := by decide +kernel
set_option maxRecDepth 100000 in
theorem lm_105 : xml 105 = 5 := by decide +kernel
set_option maxRecDepth 100000 in
theorem jl_105 : 105 < xMs.length := by decide +kernel
set_option maxRecDepth 100000 in
theorem mn_105 : xmn 105 = 3 := by decide +kernel
set_option maxRecDepth 100000 in
theorem mr_105 : xmr 105 = some .int := by decide +kernel
set_option maxRecDepth 100000 in
theorem lm_106 : xml 106 = 12 := by decide +kernel
set_option maxRecDepth 100000 in
theorem jl_106 : 106 < xMs.length := by decide +kernel
set_option maxRecDepth 100000 in
theorem mn_106 : xmn 106 = 6 := by decide +kernel
set_option maxRecDepth 100000 in
theorem h_106_109 : xlk xCL (xmo 106) 109 = some (101, 0, 944, 945, 0) := by decide +kernel
set_option maxRecDepth 100000 in
theorem h_106_91 : xlk xCL (xmo 106) 91 = some (94, 0, 922, 923, 0) := by decide +kernel
set_option maxRecDepth 100000 in
theorem h_106_102 : xlk xCL (xmo 106) 102 = some (95, 1, 933, 935, 23) := by decide +kernel
set_option maxRecDepth 100000 in
theorem h_106_98 : xlk xCL (xmo 106) 98 = some (93, 1, 925, 927, 22) := by decide +kernel
set_option maxRecDepth 100000 in
theorem mr_106 : xmr 106 = some .int := by decide +kernel
set_option maxRecDepth 100000 in
theorem h_106_112 : xlk xCL (xmo 106) 112 = some (102, 1, 947, 949, 24) := by decide +kernel
set_option maxRecDepth 100000 in
theorem h_106_116 : xlk xCL (xmo 106) 116 = some (103, 1, 951, 953, 25) := by decide +kernel
set_option maxRecDepth 100000 in
theorem h_106_120 : xlk xCL (xmo 106) 120 = some (105, 0, 959, 960, 0) := by decide +kernel
set_option maxRecDepth 100000 in
theorem lm_107 : xml 107 = 4 := by decide +kernel
set_option maxRecDepth 100000 in
theorem jl_107 : 107 < xMs.length := by decide +kernel
set_option maxRecDepth 100000 in
theorem mn_107 : xmn 107 = 3 := by decide +kernel
set_option maxRecDepth 100000 in
theorem h_107_123 : xlk xCL (xmo 107) 123 = some (96, 1, 966, 968, 26) := by decide +kernel
set_option maxRecDepth 100000 in
theorem mo_96 : xmo 96 = 7 := by decide +kernel
set_option maxRecDepth 100000 in
theorem h_107_91 : xlk xCL (xmo 107) 91 = some (94, 0, 922, 923, 0) := by decide +kernel
set_option maxRecDepth 100000 in
theorem e_107_22 : xlk xFL (xmo 107) 22 = some (7, 6, false, 831) := by decide +kernel
set_option maxRecDepth 100000 in
theorem e_107_39 : xlk xFL (xmo 107) 39 = some (7, 11, false, 836) := by decide +kernel
set_option maxRecDepth 100000 in
theorem h_107_98 : xlk xCL (xmo 107) 98 = some (93, 1, 925, 927, 22) := by decide +kernel
set_option maxRecDepth 100000 in
theorem mr_107 : xmr 107 = some .int := by decide +kernel
set_option maxRecDepth 100000 in
theorem lm_108 : xml 108 = 2 := by decide +kernel
set_option maxRecDepth 100000 in
theorem jl_108 : 108 < xMs.length := by decide +kernel
set_option maxRecDepth 100000 in
theorem mn_108 : xmn 108 = 2 := by decide +kernel
set_option maxRecDepth 100000 in
theorem e_108_45 : xlk xFL (xmo 108) 45 = some (7, 13, false, 838) := by decide +kernel
set_option maxRecDepth 100000 in
theorem mr_108 : xmr 108 = some .boolean := by decide +kernel
set_option maxRecDepth 100000 in
theorem lm_109 : xml 109 = 8 := by decide +kernel
set_option maxRecDepth 100000 in
theorem jl_109 : 109 < xMs.length := by decide +kernel
set_option maxRecDepth 100000 in
theorem mn_109 : xmn 109 = 3 := by decide +kernel
set_option maxRecDepth 100000 in
theorem h_109_123 : xlk xCL (xmo 109) 123 = some (96, 1, 966, 968, 26) := by decide +kernel
set_option maxRecDepth 100000 in
theorem e_109_16 : xlk xFL (xmo 109) 16 = some (7, 4, false, 829) := by decide +kernel
set_option maxRecDepth 100000 in
theorem h_109_91 : xlk xCL (xmo 109) 91 = some (94, 0, 922, 923, 0) := by decide +kernel
set_option maxRecDepth 100000 in
theorem e_109_32 : xlk xFL (xmo 109) 32 = some (7, 9, false, 834) := by decide +kernel
set_option maxRecDepth 100000 in
theorem k_109_126 : xlk xJC (xmo 109) 126 = some ((7 : Int64), 974) := by decide +kernel
set_option maxRecDepth 100000 in
theorem e_109_39 : xlk xFL (xmo 109) 39 = some (7, 11, false, 836) := by decide +kernel
set_option maxRecDepth 100000 in
theorem h_109_128 : xlk xCL (xmo 109) 128 = some (108, 1, 975, 977, 27) := by decide +kernel
set_option maxRecDepth 100000 in
theorem mo_108 : xmo 108 = 7 := by decide +kernel
set_option maxRecDepth 100000 in
theorem e_109_42 : xlk xFL (xmo 109) 42 = some (7, 12, false, 837) := by decide +kernel
set_option maxRecDepth 100000 in
theorem h_109_98 : xlk xCL (xmo 109) 98 = some (93, 1, 925, 927, 22) := by decide +kernel
set_option maxRecDepth 100000 in
theorem mr_109 : xmr 109 = some .int := by decide +kernel
set_option maxRecDepth 100000 in
theorem lm_110 : xml 110 = 4 := by decide +kernel
set_option maxRecDepth 100000 in
theorem jl_110 : 110 < xMs.length := by decide +kernel
set_option maxRecDepth 100000 in
theorem mn_110 : xmn 110 = 2 := by decide +kernel
set_option maxRecDepth 100000 in
theorem e_110_16 : xlk xFL (xmo 110) 16 = some (7, 4, false, 829) := by decide +kernel
set_option maxRecDepth 100000 in
theorem e_110_32 : xlk xFL (xmo 110) 32 = some (7, 9, false, 834) := by decide +kernel
set_option maxRecDepth 100000 in
theorem mr_110 : xmr 110 = some .int := by decide +kernel
set_option maxRecDepth 100000 in
theorem lm_111 : xml 111 = 4 := by decide +kernel
set_option maxRecDepth 100000 in
theorem jl_111 : 111 < xMs.length := by decide +kernel
set_option maxRecDepth 100000 in
theorem mn_111 : xmn 111 = 3 := by decide +kernel
set_option maxRecDepth 100000 in
theorem h_111_123 : xlk xCL (xmo 111) 123 = some (96, 1, 966, 968, 26) := by decide +kernel
set_option maxRecDepth 100000 in
theorem h_111_98 : xlk xCL (xmo 111) 98 = some (93, 1, 925, 927, 22) := by decide +kernel
set_option maxRecDepth 100000 in
theorem e_111_28 : xlk xFL (xmo 111) 28 = some (7, 8, false, 833) := by decide +kernel
set_option maxRecDepth 100000 in
theorem e_111_16 : xlk xFL (xmo 111) 16 = some (7, 4, false, 829) := by decide +kernel
set_option maxRecDepth 100000 in
theorem e_111_19 : xlk xFL (xmo 111) 19 = some (7, 5, false, 830) := by decide +kernel
set_option maxRecDepth 100000 in
theorem e_111_22 : xlk xFL (xmo 111) 22 = some (7, 6, false, 831) := by decide +kernel
set_option maxRecDepth 100000 in
theorem e_111_25 : xlk xFL (xmo 111) 25 = some (7, 7, false, 832) := by decide +kernel
set_option maxRecDepth 100000 in
theorem mr_111 : xmr 111 = some .boolean := by decide +kernel
set_option maxRecDepth 100000 in
theorem lm_112 : xml 112 = 3 := by decide +kernel
set_option maxRecDepth 100000 in
theorem jl_112 : 112 < xMs.length := by decide +kernel
set_option maxRecDepth 100000 in
theorem mn_112 : xmn 112 = 2 := by decide +kernel
set_option maxRecDepth 100000 in
theorem e_112_19 : xlk xFL (xmo 112) 19 = some (7, 5, false, 830) := by decide +kernel
set_option maxRecDepth 100000 in
theorem e_112_22 : xlk xFL (xmo 112) 22 = some (7, 6, false, 831) := by decide +kernel
set_option maxRecDepth 100000 in
theorem e_112_32 : xlk xFL (xmo 112) 32 = some (7, 9, false, 834) := by decide +kernel
set_option maxRecDepth 100000 in
theorem e_112_36 : xlk xFL (xmo 112) 36 = some (7, 10, false, 835) := by decide +kernel
set_option maxRecDepth 100000 in
theorem mr_112 : xmr 112 = some .int := by decide +kernel
set_option maxRecDepth 100000 in
theorem lm_113 : xml 113 = 3 := by decide +kernel
set_option maxRecDepth 100000 in
theorem jl_113 : 113 < xMs.length := by decide +kernel
set_option maxRecDepth 100000 in
theorem mn_113 : xmn 113 = 3 := by decide +kernel
set_option maxRecDepth 100000 in
theorem h_113_123 : xlk xCL (xmo 113) 123 = some (96, 1, 966, 968, 26) := by decide +kernel
set_option maxRecDepth 100000 in
theorem h_113_91 : xlk xCL (xmo 113) 91 = some (94, 0, 922, 923, 0) := by decide +kernel
set_option maxRecDepth 100000 in
theorem h_113_98 : xlk xCL (xmo 113) 98 = some (93, 1, 925, 927, 22) := by decide +kernel
set_option maxRecDepth 100000 in
theorem mr_113 : xmr 113 = some .int := by decide +kernel
set_option maxRecDepth 100000 in
theorem e_113_16 : xlk xFL (xmo 113) 16 = some (7, 4, false, 829) := by decide +kernel
set_option maxRecDepth 100000 in
theorem e_113_19 : xlk xFL (xmo 113) 19 = some (7, 5, false, 830) := by decide +kernel
set_option maxRecDepth 100000 in
theorem e_113_22 : xlk xFL (xmo 113) 22 = some (7, 6, false, 831) := by decide +kernel
set_option maxRecDepth 100000 in
theorem e_113_25 : xlk xFL (xmo 113) 25 = some (7, 7, false, 832) := by decide +kernel
set_option maxRecDepth 100000 in
theorem h_113_131 : xlk xCL (xmo 113) 131 = some (110, 1, 987, 989, 28) := by decide +kernel
set_option maxRecDepth 100000 in
theorem mo_110 : xmo 110 = 7 := by decide +kernel
set_option maxRecDepth 100000 in
theorem e_113_36 : xlk xFL (xmo 113) 36 = some (7, 10, false, 835) := by decide +kernel
set_option maxRecDepth 100000 in
theorem h_113_135 : xlk xCL (xmo 113) 135 = some (112, 1, 991, 993, 29) := by decide +kernel
set_option maxRecDepth 100000 in
theorem mo_112 : xmo 112 = 7 := by decide +kernel
set_option maxRecDepth 100000 in
theorem e_113_45 : xlk xFL (xmo 113) 45 = some (7, 13, false, 838) := by decide +kernel
set_option maxRecDepth 100000 in
theorem e_113_48 : xlk xFL (xmo 113) 48 = some (7, 14, false, 839) := by decide +kernel
set_option maxRecDepth 100000 in
theorem e_113_51 : xlk xFL (xmo 113) 51 = some (7, 15, false, 840) := by decide +kernel
set_option maxRecDepth 100000 in
theorem e_113_42 : xlk xFL (xmo 113) 42 = some (7, 12, false, 837) := by decide +kernel
set_option maxRecDepth 100000 in
theorem lm_114 : xml 114 = 6 := by decide +kernel
set_option maxRecDepth 100000 in
theorem jl_114 : 114 < xMs.length := by decide +kernel
set_option maxRecDepth 100000 in
theorem mn_114 : xmn 114 = 3 := by decide +kernel
set_option maxRecDepth 100000 in
theorem e_114_16 : xlk xFL (xmo 114) 16 = some (7, 4, false, 829) := by decide +kernel
set_option maxRecDepth 100000 in
theorem e_114_32 : xlk xFL (xmo 114) 32 = some (7, 9, false, 834) := by decide +kernel
set_option maxRecDepth 100000 in
theorem mr_114 : xmr 114 = some .int := by decide +kernel
set_option maxRecDepth 100000 in
theorem lm_115 : xml 115 = 2 := by decide +kernel
set_option maxRecDepth 100000 in
theorem jl_115 : 115 < xMs.length := by decide +kernel
set_option maxRecDepth 100000 in
theorem mn_115 : xmn 115 = 2 := by decide +kernel
set_option maxRecDepth 100000 in
theorem e_115_45 : xlk xFL (xmo 115) 45 = some (7, 13, false, 838) := by decide +kernel
set_option maxRecDepth 100000 in
theorem e_115_48 : xlk xFL (xmo 115) 48 = some (7, 14, false, 839) := by decide +kernel
set_option maxRecDepth 100000 in
theorem e_115_51 : xlk xFL (xmo 115) 51 = some (7, 15, false, 840) := by decide +kernel
set_option maxRecDepth 100000 in
theorem mr_115 : xmr 115 = none := by decide +kernel
set_option maxRecDepth 100000 in
theorem lm_116 : xml 116 = 7 := by decide +kernel
set_option maxRecDepth 100000 in
theorem jl_116 : 116 < xMs.length := by decide +kernel
set_option maxRecDepth 100000 in
theorem mn_116 : xmn 116 = 5 := by decide +kernel
set_option maxRecDepth 100000 in
theorem h_116_123 : xlk xCL (xmo 116) 123 = some (96, 1, 966, 968, 26) := by decide +kernel
set_option maxRecDepth 100000 in
theorem h_116_138 : xlk xCL (xmo 116) 138 = some (97, 0, 999, 1000, 0) := by decide +kernel
set_option maxRecDepth 100000 in
theorem h_116_141 : xlk xCL (xmo 116) 141 = some (114, 1, 1002, 1004, 30) := by decide +kernel
set_option maxRecDepth 100000 in
theorem mo_114 : xmo 114 = 7 := by decide +kernel
set_option maxRecDepth 100000 in
theorem e_116_28 : xlk xFL (xmo 116) 28 = some (7, 8, false, 833) := by decide +kernel
set_option maxRecDepth 100000 in
theorem h_116_128 : xlk xCL (xmo 116) 128 = some (108, 1, 975, 977, 27) := by decide +kernel
set_option maxRecDepth 100000 in
theorem e_116_42 : xlk xFL (xmo 116) 42 = some (7, 12, false, 837) := by decide +kernel
set_option maxRecDepth 100000 in
theorem h_116_98 : xlk xCL (xmo 116) 98 = some (93, 1, 925, 927, 22) := by decide +kernel
set_option maxRecDepth 100000 in
theorem mr_116 : xmr 116 = some .int := by decide +kernel
set_option maxRecDepth 100000 in
theorem e_116_45 : xlk xFL (xmo 116) 45 = some (7, 13, false, 838) := by decide +kernel
set_option maxRecDepth 100000 in
theorem e_116_48 : xlk xFL (xmo 116) 48 = some (7, 14, false, 839) := by decide +kernel
set_option maxRecDepth 100000 in
theorem e_116_51 : xlk xFL (xmo 116) 51 = some (7, 15, false, 840) := by decide +kernel
set_option maxRecDepth 100000 in
theorem lm_117 : xml 117 = 3 := by decide +kernel
set_option maxRecDepth 100000 in
theorem jl_117 : 117 < xMs.length := by decide +kernel
set_option maxRecDepth 100000 in
theorem mn_117 : xmn 117 = 2 := by decide +kernel
set_option maxRecDepth 100000 in
theorem h_117_123 : xlk xCL (xmo 117) 123 = some (96, 1, 966, 968, 26) := by decide +kernel
set_option maxRecDepth 100000 in
theorem h_117_128 : xlk xCL (xmo 117) 128 = some (108, 1, 975, 977, 27) := by decide +kernel
set_option maxRecDepth 100000 in
theorem h_117_98 : xlk xCL (xmo 117) 98 = some (93, 1, 925, 927, 22) := by decide +kernel
set_option maxRecDepth 100000 in
theorem mr_117 : xmr 117 = some .int := by decide +kernel
set_option maxRecDepth 100000 in
theorem e_117_51 : xlk xFL (xmo 117) 51 = some (7, 15, false, 840) := by decide +kernel
set_option maxRecDepth 100000 in
theorem h_117_145 : xlk xCL (xmo 117) 145 = some (115, 1, 1010, 1012, 31) := by decide +kernel
set_option maxRecDepth 100000 in
theorem mo_115 : xmo 115 = 7 := by decide +kernel
set_option maxRecDepth 100000 in
theorem lm_118 : xml 118 = 4 := by decide +kernel
set_option maxRecDepth 100000 in
theorem jl_118 : 118 < xMs.length := by decide +kernel
set_option maxRecDepth 100000 in
theorem mn_118 : xmn 118 = 4 := by decide +kernel
set_option maxRecDepth 100000 in
theorem e_118_45 : xlk xFL (xmo 118) 45 = some (7, 13, false, 838) := by decide +kernel
set_option maxRecDepth 100000 in
theorem e_118_48 : xlk xFL (xmo 118) 48 = some (7, 14, false, 839) := by decide +kernel
set_option maxRecDepth 100000 in
theorem mr_118 : xmr 118 = some .boolean := by decide +kernel
set_option maxRecDepth 100000 in
theorem lm_119 : xml 119 = 5 := by decide +kernel
set_option maxRecDepth 100000 in
theorem jl_119 : 119 < xMs.length := by decide +kernel
set_option maxRecDepth 100000 in
theorem mn_119 : xmn 119 = 3 := by decide +kernel
set_option maxRecDepth 100000 in
theorem k_119_149 : xlk xIC (xmo 119) 149 = some ((100000000 : Int32), 1022) := by decide +kernel
set_option maxRecDepth 100000 in
theorem e_119_95 : xlk xFL (xmo 119) 95 = some (7, 3, false, 828) := by decide +kernel
set_option maxRecDepth 100000 in
theorem h_119_150 : xlk xCL (xmo 119) 150 = some (118, 1, 1027, 1029, 34) := by decide +kernel
set_option maxRecDepth 100000 in
theorem mo_118 : xmo 118 = 7 := by decide +kernel
set_option maxRecDepth 100000 in
theorem e_119_51 : xlk xFL (xmo 119) 51 = some (7, 15, false, 840) := by decide +kernel
set_option maxRecDepth 100000 in
theorem mr_119 : xmr 119 = some .int := by decide +kernel
set_option maxRecDepth 100000 in
theorem lm_120 : xml 120 = 8 := by decide +kernel
set_option maxRecDepth 100000 in
theorem jl_120 : 120 < xMs.length := by decide +kernel
set_option maxRecDepth 100000 in
theorem mn_120 : xmn 120 = 3 := by decide +kernel
set_option maxRecDepth 100000 in
theorem e_120_54 : xlk xFL (xmo 120) 54 = some (7, 16, false, 841) := by decide +kernel
set_option maxRecDepth 100000 in
theorem k_120_149 : xlk xIC (xmo 120) 149 = some ((100000000 : Int32), 1022) := by decide +kernel
set_option maxRecDepth 100000 in
theorem h_120_153 : xlk xCL (xmo 120) 153 = some (119, 1, 1023, 1025, 33) := by decide +kernel
set_option maxRecDepth 100000 in
theorem mo_119 : xmo 119 = 7 := by decide +kernel
set_option maxRecDepth 100000 in
theorem e_120_156 : xlk xFL (xmo 120) 156 = some (7, 17, false, 842) := by decide +kernel
set_option maxRecDepth 100000 in
theorem e_120_57 : xlk xFL (xmo 120) 57 = some (7, 18, false, 843) := by decide +kernel
set_option maxRecDepth 100000 in
theorem mr_120 : xmr 120 = some .boolean := by decide +kernel
set_option maxRecDepth 100000 in
theorem lm_121 : xml 121 = 4 := by decide +kernel
set_option maxRecDepth 100000 in
theorem jl_121 : 121 < xMs.length := by decide +kernel
set_option maxRecDepth 100000 in
theorem mn_121 : xmn 121 = 2 := by decide +kernel
set_option maxRecDepth 100000 in
theorem e_121_95 : xlk xFL (xmo 121) 95 = some (7, 3, false, 828) := by decide +kernel
set_option maxRecDepth 100000 in
theorem h_121_159 : xlk xCL (xmo 121) 159 = some (122, 1, 1039, 1041, 37) := by decide +kernel
set_option maxRecDepth 100000 in
theorem mn_122 : xmn 122 = 3 := by decide +kernel
set_option maxRecDepth 100000 in
theorem mo_122 : xmo 122 = 7 := by decide +kernel
set_option maxRecDepth 100000 in
theorem mr_121 : xmr 121 = some .int := by decide +kernel
set_option maxRecDepth 100000 in
theorem lm_122 : xml 122 = 3 := by decide +kernel
set_option maxRecDepth 100000 in
theorem jl_122 : 122 < xMs.length := by decide +kernel
set_option maxRecDepth 100000 in
theorem e_122_57 : xlk xFL (xmo 122) 57 = some (7, 18, false, 843) := by decide +kernel
set_option maxRecDepth 100000 in
theorem h_122_150 : xlk xCL (xmo 122) 150 = some (118, 1, 1027, 1029, 34) := by decide +kernel
set_option maxRecDepth 100000 in
theorem e_122_51 : xlk xFL (xmo 122) 51 = some (7, 15, false, 840) := by decide +kernel
set_option maxRecDepth 100000 in
theorem h_122_153 : xlk xCL (xmo 122) 153 = some (119, 1, 1023, 1025, 33) := by decide +kernel
set_option maxRecDepth 100000 in
theorem mr_122 : xmr 122 = some .boolean := by decide +kernel
set_option maxRecDepth 100000 in
theorem lm_123 : xml 123 = 5 := by decide +kernel
set_option maxRecDepth 100000 in
theorem jl_123 : 123 < xMs.length := by decide +kernel
set_option maxRecDepth 100000 in
theorem mn_123 : xmn 123 = 2 := by decide +kernel
set_option maxRecDepth 100000 in
theorem e_123_95 : xlk xFL (xmo 123) 95 = some (7, 3, false, 828) := by decide +kernel
set_option maxRecDepth 100000 in
theorem e_123_60 : xlk xFL (xmo 123) 60 = some (7, 19, false, 844) := by decide +kernel
set_option maxRecDepth 100000 in
theorem e_123_156 : xlk xFL (xmo 123) 156 = some (7, 17, false, 842) := by decide +kernel
set_option maxRecDepth 100000 in
theorem h_123_162 : xlk xCL (xmo 123) 162 = some (121, 1, 1035, 1037, 36) := by decide +kernel
set_option maxRecDepth 100000 in
theorem mo_121 : xmo 121 = 7 := by decide +kernel
set_option maxRecDepth 100000 in
theorem h_123_159 : xlk xCL (xmo 123) 159 = some (122, 1, 1039, 1041, 37) := by decide +kernel
set_option maxRecDepth 100000 in
theorem mr_123 : xmr 123 = none := by decide +kernel
set_option maxRecDepth 100000 in
theorem lm_124 : xml 124 = 6 := by decide +kernel
set_option maxRecDepth 100000 in
theorem jl_124 : 124 < xMs.length := by decide +kernel
set_option maxRecDepth 100000 in
theorem mn_124 : xmn 124 = 5 := by decide +kernel
set_option maxRecDepth 100000 in
theorem h_124_123 : xlk xCL (xmo 124) 123 = some (96, 1, 966, 968, 26) := by decide +kernel
set_option maxRecDepth 100000 in
theorem h_124_138 : xlk xCL (xmo 124) 138 = some (97, 0, 999, 1000, 0) := by decide +kernel
set_option maxRecDepth 100000 in
theorem h_124_91 : xlk xCL (xmo 124) 91 = some (94, 0, 922, 923, 0) := by decide +kernel
set_option maxRecDepth 100000 in
theorem h_124_98 : xlk xCL (xmo 124) 98 = some (93, 1, 925, 927, 22) := by decide +kernel
set_option maxRecDepth 100000 in
theorem mr_124 : xmr 124 = some .int := by decide +kernel
set_option maxRecDepth 100000 in
theorem h_124_165 : xlk xCL (xmo 124) 165 = some (120, 1, 1018, 1020, 32) := by decide +kernel
set_option maxRecDepth 100000 in
theorem mo_120 : xmo 120 = 7 := by decide +kernel
set_option maxRecDepth 100000 in
theorem h_124_168 : xlk xCL (xmo 124) 168 = some (123, 1, 1031, 1033, 35) := by decide +kernel
set_option maxRecDepth 100000 in
theorem mo_123 : xmo 123 = 7 := by decide +kernel
set_option maxRecDepth 100000 in
theorem e_124_60 : xlk xFL (xmo 124) 60 = some (7, 19, false, 844) := by decide +kernel
set_option maxRecDepth 100000 in
theorem lm_125 : xml 125 = 5 := by decide +kernel
set_option maxRecDepth 100000 in
theorem jl_125 : 125 < xMs.length := by decide +kernel
set_option maxRecDepth 100000 in
theorem mn_125 : xmn 125 = 4 := by decide +kernel
set_option maxRecDepth 100000 in
theorem h_125_138 : xlk xCL (xmo 125) 138 = some (97, 0, 999, 1000, 0) := by decide +kernel
set_option maxRecDepth 100000 in
theorem h_125_98 : xlk xCL (xmo 125) 98 = some (93, 1, 925, 927, 22) := by decide +kernel
set_option maxRecDepth 100000 in
theorem mr_125 : xmr 125 = some .int := by decide +kernel
set_option maxRecDepth 100000 in
theorem h_125_165 : xlk xCL (xmo 125) 165 = some (120, 1, 1018, 1020, 32) := by decide +kernel
set_option maxRecDepth 100000 in
theorem e_125_156 : xlk xFL (xmo 125) 156 = some (7, 17, false, 842) := by decide +kernel
set_option maxRecDepth 100000 in
theorem e_125_57 : xlk xFL (xmo 125) 57 = some (7, 18, false, 843) := by decide +kernel
set_option maxRecDepth 100000 in
theorem lm_126 : xml 126 = 3 := by decide +kernel
set_option maxRecDepth 100000 in
theorem jl_126 : 126 < xMs.length := by decide +kernel
set_option maxRecDepth 100000 in
theorem mn_126 : xmn 126 = 1 := by decide +kernel
set_option maxRecDepth 100000 in
theorem e_126_95 : xlk xFL (xmo 126) 95 = some (7, 3, false, 828) := by decide +kernel
set_option maxRecDepth 100000 in
theorem e_126_60 : xlk xFL (xmo 126) 60 = some (7, 19, false, 844) := by decide +kernel
set_option maxRecDepth 100000 in
theorem h_126_135 : xlk xCL (xmo 126) 135 = some (112, 1, 991, 993, 29) := by decide +kernel
set_option maxRecDepth 100000 in
theorem mr_126 : xmr 126 = some .int := by decide +kernel
set_option maxRecDepth 100000 in
theorem lm_127 : xml 127 = 10 := by decide +kernel
set_option maxRecDepth 100000 in
theorem jl_127 : 127 < xMs.length := by decide +kernel
set_option maxRecDepth 100000 in
theorem mn_127 : xmn 127 = 4 := by decide +kernel
set_option maxRecDepth 100000 in
theorem h_127_138 : xlk xCL (xmo 127) 138 = some (97, 0, 999, 1000, 0) := by decide +kernel
set_option maxRecDepth 100000 in
theorem h_127_91 : xlk xCL (xmo 127) 91 = some (94, 0, 922, 923, 0) := by decide +kernel
set_option maxRecDepth 100000 in
theorem h_127_165 : xlk xCL (xmo 127) 165 = some (120, 1, 1018, 1020, 32) := by decide +kernel
set_option maxRecDepth 100000 in
theorem h_127_98 : xlk xCL (xmo 127) 98 = some (93, 1, 925, 927, 22) := by decide +kernel
set_option maxRecDepth 100000 in
theorem mr_127 : xmr 127 = some .int := by decide +kernel
set_option maxRecDepth 100000 in
theorem h_127_168 : xlk xCL (xmo 127) 168 = some (123, 1, 1031, 1033, 35) := by decide +kernel
set_option maxRecDepth 100000 in
theorem h_127_171 : xlk xCL (xmo 127) 171 = some (126, 1, 1051, 1053, 38) := by decide +kernel
set_option maxRecDepth 100000 in
theorem mo_126 : xmo 126 = 7 := by decide +kernel
set_option maxRecDepth 100000 in
theorem e_127_42 : xlk xFL (xmo 127) 42 = some (7, 12, false, 837) := by decide +kernel
set_option maxRecDepth 100000 in
theorem h_127_145 : xlk xCL (xmo 127) 145 = some (115, 1, 1010, 1012, 31) := by decide +kernel
set_option maxRecDepth 100000 in
theorem e_127_95 : xlk xFL (xmo 127) 95 = some (7, 3, false, 828) := by decide +kernel
set_option maxRecDepth 100000 in
theorem e_127_36 : xlk xFL (xmo 127) 36 = some (7, 10, false, 835) := by decide +kernel
set_option maxRecDepth 100000 in
theorem e_127_60 : xlk xFL (xmo 127) 60 = some (7, 19, false, 844) := by decide +kernel
set_option maxRecDepth 100000 in
theorem lm_128 : xml 128 = 9 := by decide +kernel
set_option maxRecDepth 100000 in
theorem jl_128 : 128 < xMs.length := by decide +kernel
set_option maxRecDepth 100000 in
theorem mn_128 : xmn 128 = 3 := by decide +kernel
set_option maxRecDepth 100000 in
theorem h_128_138 : xlk xCL (xmo 128) 138 = some (97, 0, 999, 1000, 0) := by decide +kernel
set_option maxRecDepth 100000 in
theorem h_128_98 : xlk xCL (xmo 128) 98 = some (93, 1, 925, 927, 22) := by decide +kernel
set_option maxRecDepth 100000 in
theorem mr_128 : xmr 128 = some .int := by decide +kernel
set_option maxRecDepth 100000 in
theorem h_128_165 : xlk xCL (xmo 128) 165 = some (120, 1, 1018, 1020, 32) := by decide +kernel
set_option maxRecDepth 100000 in
theorem e_128_156 : xlk xFL (xmo 128) 156 = some (7, 17, false, 842) := by decide +kernel
set_option maxRecDepth 100000 in
theorem h_128_162 : xlk xCL (xmo 128) 162 = some (121, 1, 1035, 1037, 36) := by decide +kernel
set_option maxRecDepth 100000 in
theorem e_128_95 : xlk xFL (xmo 128) 95 = some (7, 3, false, 828) := by decide +kernel
set_option maxRecDepth 100000 in
theorem h_128_159 : xlk xCL (xmo 128) 159 = some (122, 1, 1039, 1041, 37) := by decide +kernel
set_option maxRecDepth 100000 in
theorem h_128_135 : xlk xCL (xmo 128) 135 = some (112, 1, 991, 993, 29) := by decide +kernel
set_option maxRecDepth 100000 in
theorem lm_129 : xml 129 = 2 := by decide +kernel
set_option maxRecDepth 100000 in
theorem jl_129 : 129 < xMs.length := by decide +kernel
set_option maxRecDepth 100000 in
theorem mn_129 : xmn 129 = 2 := by decide +kernel
set_option maxRecDepth 100000 in
theorem h_129_123 : xlk xCL (xmo 129) 123 = some (96, 1, 966, 968, 26) := by decide +kernel
set_option maxRecDepth 100000 in
theorem h_129_98 : xlk xCL (xmo 129) 98 = some (93, 1, 925, 927, 22) := by decide +kernel
set_option maxRecDepth 100000 in
theorem mr_129 : xmr 129 = some .int := by decide +kernel
set_option maxRecDepth 100000 in
theorem e_129_36 : xlk xFL (xmo 129) 36 = some (7, 10, false, 835) := by decide +kernel
set_option maxRecDepth 100000 in
theorem lm_130 : xml 130 = 2 := by decide +kernel
set_option maxRecDepth 100000 in
theorem jl_130 : 130 < xMs.length := by decide +kernel
set_option maxRecDepth 100000 in
theorem mn_130 : xmn 130 = 2 := by decide +kernel
set_option maxRecDepth 100000 in
theorem e_130_39 : xlk xFL (xmo 130) 39 = some (7, 11, false, 836) := by decide +kernel
set_option maxRecDepth 100000 in
theorem h_130_128 : xlk xCL (xmo 130) 128 = some (108, 1, 975, 977, 27) := by decide +kernel
set_option maxRecDepth 100000 in
theorem e_130_42 : xlk xFL (xmo 130) 42 = some (7, 12, false, 837) := by decide +kernel
set_option maxRecDepth 100000 in
theorem mr_130 : xmr 130 = some .boolean := by decide +kernel
set_option maxRecDepth 100000 in
theorem lm_131 : xml 131 = 11 := by decide +kernel
set_option maxRecDepth 100000 in
theorem jl_131 : 131 < xMs.length := by decide +kernel
set_option maxRecDepth 100000 in
theorem mn_131 : xmn 131 = 5 := by decide +kernel
set_option maxRecDepth 100000 in
theorem h_131_123 : xlk xCL (xmo 131) 123 = some (96, 1, 966, 968, 26) := by decide +kernel
set_option maxRecDepth 100000 in
theorem h_131_91 : xlk xCL (xmo 131) 91 = some (94, 0, 922, 923, 0) := by decide +kernel
set_option maxRecDepth 100000 in
theorem h_131_175 : xlk xCL (xmo 131) 175 = some (130, 1, 1067, 1069, 39) := by decide +kernel
set_option maxRecDepth 100000 in
theorem mo_130 : xmo 130 = 7 := by decide +kernel
set_option maxRecDepth 100000 in
theorem h_131_98 : xlk xCL (xmo 131) 98 = some (93, 1, 925, 927, 22) := by decide +kernel
set_option maxRecDepth 100000 in
theorem mr_131 : xmr 131 = some .int := by decide +kernel
set_option maxRecDepth 100000 in
theorem e_131_39 : xlk xFL (xmo 131) 39 = some (7, 11, false, 836) := by decide +kernel
set_option maxRecDepth 100000 in
theorem e_131_16 : xlk xFL (xmo 131) 16 = some (7, 4, false, 829) := by decide +kernel
set_option maxRecDepth 100000 in
theorem e_131_22 : xlk xFL (xmo 131) 22 = some (7, 6, false, 831) := by decide +kernel
set_option maxRecDepth 100000 in
theorem lm_132 : xml 132 = 1 := by decide +kernel
set_option maxRecDepth 100000 in
theorem jl_132 : 132 < xMs.length := by decide +kernel
set_option maxRecDepth 100000 in
theorem mn_132 : xmn 132 = 1 := by decide +kernel
set_option maxRecDepth 100000 in
theorem h_132_91 : xlk xCL (xmo 132) 91 = some (94, 0, 922, 923, 0) := by decide +kernel
set_option maxRecDepth 100000 in
theorem mr_132 : xmr 132 = some .boolean := by decide +kernel
set_option maxRecDepth 100000 in
theorem lm_133 : xml 133 = 1 := by decide +kernel
set_option maxRecDepth 100000 in
theorem jl_133 : 133 < xMs.length := by decide +kernel
set_option maxRecDepth 100000 in
theorem mn_133 : xmn 133 = 1 := by decide +kernel
set_option maxRecDepth 100000 in
theorem h_133_91 : xlk xCL (xmo 133) 91 = some (94, 0, 922, 923, 0) := by decide +kernel
set_option maxRecDepth 100000 in
theorem mr_133 : xmr 133 = some .boolean := by decide +kernel
set_option maxRecDepth 100000 in
theorem lm_134 : xml 134 = 1 := by decide +kernel
set_option maxRecDepth 100000 in
theorem jl_134 : 134 < xMs.length := by decide +kernel
set_option maxRecDepth 100000 in
theorem mn_134 : xmn 134 = 1 := by decide +kernel
set_option maxRecDepth 100000 in
theorem h_134_91 : xlk xCL (xmo 134) 91 = some (94, 0, 922, 923, 0) := by decide +kernel
set_option maxRecDepth 100000 in
theorem mr_134 : xmr 134 = some .boolean := by decide +kernel
set_option maxRecDepth 100000 in
theorem lm_135 : xml 135 = 8 := by decide +kernel
set_option maxRecDepth 100000 in
theorem jl_135 : 135 < xMs.length := by decide +kernel
set_option maxRecDepth 100000 in
theorem mn_135 : xmn 135 = 7 := by decide +kernel
set_option maxRecDepth 100000 in
theorem h_135_91 : xlk xCL (xmo 135) 91 = some (94, 0, 922, 923, 0) := by decide +kernel
set_option maxRecDepth 100000 in
theorem h_135_98 : xlk xCL (xmo 135) 98 = some (93, 1, 925, 927, 22) := by decide +kernel
set_option maxRecDepth 100000 in
theorem mr_135 : xmr 135 = some .int := by decide +kernel
set_option maxRecDepth 100000 in
theorem lm_136 : xml 136 = 4 := by decide +kernel
set_option maxRecDepth 100000 in
theorem jl_136 : 136 < xMs.length := by decide +kernel
set_option maxRecDepth 100000 in
theorem mn_136 : xmn 136 = 4 := by decide +kernel
set_option maxRecDepth 100000 in
theorem e_136_63 : xlk xFL (xmo 136) 63 = some (7, 20, false, 845) := by decide +kernel
set_option maxRecDepth 100000 in
theorem h_136_178 : xlk xCL (xmo 136) 178 = some (132, 0, 1075, 1076, 0) := by decide +kernel
set_option maxRecDepth 100000 in
theorem h_136_181 : xlk xCL (xmo 136) 181 = some (134, 0, 1078, 1079, 0) := by decide +kernel
set_option maxRecDepth 100000 in
theorem h_136_184 : xlk xCL (xmo 136) 184 = some (135, 1, 1081, 1083, 40) := by decide +kernel
set_option maxRecDepth 100000 in
theorem mo_135 : xmo 135 = 7 := by decide +kernel
set_option maxRecDepth 100000 in
theorem mr_136 : xmr 136 = some .int := by decide +kernel
set_option maxRecDepth 100000 in
theorem lm_137 : xml 137 = 4 := by decide +kernel
set_option maxRecDepth 100000 in
theorem jl_137 : 137 < xMs.length := by decide +kernel
set_option maxRecDepth 100000 in
theorem mn_137 : xmn 137 = 4 := by decide +kernel
set_option maxRecDepth 100000 in
theorem e_137_66 : xlk xFL (xmo 137) 66 = some (7, 21, false, 846) := by decide +kernel
set_option maxRecDepth 100000 in
theorem h_137_188 : xlk xCL (xmo 137) 188 = some (133, 0, 1089, 1090, 0) := by decide +kernel
set_option maxRecDepth 100000 in
theorem h_137_181 : xlk xCL (xmo 137) 181 = some (134, 0, 1078, 1079, 0) := by decide +kernel
set_option maxRecDepth 100000 in
theorem h_137_184 : xlk xCL (xmo 137) 184 = some (135, 1, 1081, 1083, 40) := by decide +kernel
set_option maxRecDepth 100000 in
theorem mr_137 : xmr 137 = some .int := by decide +kernel
set_option maxRecDepth 100000 in
theorem lm_138 : xml 138 = 4 := by decide +kernel
set_option maxRecDepth 100000 in
theorem jl_138 : 138 < xMs.length := by decide +kernel
set_option maxRecDepth 100000 in
theorem mn_138 : xmn 138 = 4 := by decide +kernel
set_option maxRecDepth 100000 in
theorem e_138_69 : xlk xFL (xmo 138) 69 = some (7, 22, false, 847) := by decide +kernel
set_option maxRecDepth 100000 in
theorem h_138_188 : xlk xCL (xmo 138) 188 = some (133, 0, 1089, 1090, 0) := by decide +kernel
set_option maxRecDepth 100000 in
theorem h_138_181 : xlk xCL (xmo 138) 181 = some (134, 0, 1078, 1079, 0) := by decide +kernel
set_option maxRecDepth 100000 in
theorem h_138_184 : xlk xCL (xmo 138) 184 = some (135, 1, 1081, 1083, 40) := by decide +kernel
set_option maxRecDepth 100000 in
theorem mr_138 : xmr 138 = some .int := by decide +kernel
set_option maxRecDepth 100000 in
theorem lm_139 : xml 139 = 4 := by decide +kernel
set_option maxRecDepth 100000 in
theorem jl_139 : 139 < xMs.length := by decide +kernel
set_option maxRecDepth 100000 in
theorem mn_139 : xmn 139 = 4 := by decide +kernel
set_option maxRecDepth 100000 in
theorem e_139_66 : xlk xFL (xmo 139) 66 = some (7, 21, false, 846) := by decide +kernel
set_option maxRecDepth 100000 in
theorem e_139_69 : xlk xFL (xmo 139) 69 = some (7, 22, false, 847) := by decide +kernel
set_option maxRecDepth 100000 in
theorem e_139_63 : xlk xFL (xmo 139) 63 = some (7, 20, false, 845) := by decide +kernel
set_option maxRecDepth 100000 in
theorem mr_139 : xmr 139 = some .int := by decide +kernel
set_option maxRecDepth 100000 in
theorem lm_140 : xml 140 = 6 := by decide +kernel
set_option maxRecDepth 100000 in
theorem jl_140 : 140 < xMs.length := by decide +kernel
set_option maxRecDepth 100000 in
theorem mn_140 : xmn 140 = 5 := by decide +kernel
set_option maxRecDepth 100000 in
theorem h_140_191 : xlk xCL (xmo 140) 191 = some (139, 1, 1115, 1117, 44) := by decide +kernel
set_option maxRecDepth 100000 in
theorem mo_139 : xmo 139 = 7 := by decide +kernel
set_option maxRecDepth 100000 in
theorem mr_140 : xmr 140 = some .int := by decide +kernel
set_option maxRecDepth 100000 in
theorem lm_141 : xml 141 = 7 := by decide +kernel
set_option maxRecDepth 100000 in
theorem jl_141 : 141 < xMs.length := by decide +kernel
set_option maxRecDepth 100000 in
theorem mn_141 : xmn 141 = 4 := by decide +kernel
set_option maxRecDepth 100000 in
theorem h_141_194 : xlk xCL (xmo 141) 194 = some (140, 1, 1111, 1113, 43) := by decide +kernel
set_option maxRecDepth 100000 in
theorem mo_140 : xmo 140 = 7 := by decide +kernel
set_option maxRecDepth 100000 in
theorem mr_141 : xmr 141 = some .int := by decide +kernel
set_option maxRecDepth 100000 in
theorem lm_142 : xml 142 = 5 := by decide +kernel
set_option maxRecDepth 100000 in
theorem jl_142 : 142 < xMs.length := by decide +kernel
set_option maxRecDepth 100000 in
theorem mn_142 : xmn 142 = 5 := by decide +kernel
set_option maxRecDepth 100000 in
theorem h_142_178 : xlk xCL (xmo 142) 178 = some (132, 0, 1075, 1076, 0) := by decide +kernel
set_option maxRecDepth 100000 in
theorem h_142_188 : xlk xCL (xmo 142) 188 = some (133, 0, 1089, 1090, 0) := by decide +kernel
set_option maxRecDepth 100000 in
theorem h_142_98 : xlk xCL (xmo 142) 98 = some (93, 1, 925, 927, 22) := by decide +kernel
set_option maxRecDepth 100000 in
theorem mr_142 : xmr 142 = some .boolean := by decide +kernel
set_option maxRecDepth 100000 in
theorem lm_143 : xml 143 = 1 := by decide +kernel
set_option maxRecDepth 100000 in
theorem jl_143 : 143 < xMs.length := by decide +kernel
set_option maxRecDepth 100000 in
theorem mn_143 : xmn 143 = 1 := by decide +kernel
set_option maxRecDepth 100000 in
theorem h_143_91 : xlk xCL (xmo 143) 91 = some (94, 0, 922, 923, 0) := by decide +kernel
set_option maxRecDepth 100000 in
theorem mr_143 : xmr 143 = some .boolean := by decide +kernel
set_option maxRecDepth 100000 in
theorem lm_144 : xml 144 = 4 := by decide +kernel
set_option maxRecDepth 100000 in
theorem jl_144 : 144 < xMs.length := by decide +kernel
set_option maxRecDepth 100000 in
theorem mn_144 : xmn 144 = 4 := by decide +kernel
set_option maxRecDepth 100000 in
theorem h_144_198 : xlk xCL (xmo 144) 198 = some (143, 0, 1100, 1101, 0) := by decide +kernel
set_option maxRecDepth 100000 in
theorem h_144_201 : xlk xCL (xmo 144) 201 = some (142, 1, 1103, 1105, 41) := by decide +kernel
set_option maxRecDepth 100000 in
theorem mo_142 : xmo 142 = 7 := by decide +kernel
set_option maxRecDepth 100000 in
theorem h_144_205 : xlk xCL (xmo 144) 205 = some (141, 1, 1107, 1109, 42) := by decide +kernel
set_option maxRecDepth 100000 in
theorem mo_141 : xmo 141 = 7 := by decide +kernel
set_option maxRecDepth 100000 in
theorem mr_144 : xmr 144 = some .int := by decide +kernel
set_option maxRecDepth 100000 in
theorem lm_145 : xml 145 = 4 := by decide +kernel
set_option maxRecDepth 100000 in
theorem jl_145 : 145 < xMs.length := by decide +kernel
set_option maxRecDepth 100000 in
theorem mn_145 : xmn 145 = 4 := by decide +kernel
set_option maxRecDepth 100000 in
theorem h_145_208 : xlk xCL (xmo 145) 208 = some (144, 1, 1123, 1097, 1098) := by decide +kernel
set_option maxRecDepth 100000 in
theorem mo_144 : xmo 144 = 7 := by decide +kernel
set_option maxRecDepth 100000 in
theorem mr_145 : xmr 145 = some .int := by decide +kernel
set_option maxRecDepth 100000 in
theorem lm_146 : xml 146 = 5 := by decide +kernel
set_option maxRecDepth 100000 in
theorem jl_146 : 146 < xMs.length := by decide +kernel
set_option maxRecDepth 100000 in
theorem mn_146 : xmn 146 = 5 := by decide +kernel
set_option maxRecDepth 100000 in
theorem h_146_198 : xlk xCL (xmo 146) 198 = some (143, 0, 1100, 1101, 0) := by decide +kernel
set_option maxRecDepth 100000 in
theorem h_146_181 : xlk xCL (xmo 146) 181 = some (134, 0, 1078, 1079, 0) := by decide +kernel
set_option maxRecDepth 100000 in
theorem h_146_201 : xlk xCL (xmo 146) 201 = some (142, 1, 1103, 1105, 41) := by decide +kernel
set_option maxRecDepth 100000 in
theorem h_146_205 : xlk xCL (xmo 146) 205 = some (141, 1, 1107, 1109, 42) := by decide +kernel
set_option maxRecDepth 100000 in
theorem h_146_194 : xlk xCL (xmo 146) 194 = some (140, 1, 1111, 1113, 43) := by decide +kernel
set_option maxRecDepth 100000 in
theorem mr_146 : xmr 146 = some .int := by decide +kernel
set_option maxRecDepth 100000 in
theorem lm_147 : xml 147 = 9 := by decide +kernel
set_option maxRecDepth 100000 in
theorem jl_147 : 147 < xMs.length := by decide +kernel
set_option maxRecDepth 100000 in
theorem mn_147 : xmn 147 = 4 := by decide +kernel
set_option maxRecDepth 100000 in
theorem h_147_198 : xlk xCL (xmo 147) 198 = some (143, 0, 1100, 1101, 0) := by decide +kernel
set_option maxRecDepth 100000 in
theorem h_147_201 : xlk xCL (xmo 147) 201 = some (142, 1, 1103, 1105, 41) := by decide +kernel
set_option maxRecDepth 100000 in
theorem mr_147 : xmr 147 = some .int := by decide +kernel
set_option maxRecDepth 100000 in
theorem h_147_205 : xlk xCL (xmo 147) 205 = some (141, 1, 1107, 1109, 42) := by decide +kernel
set_option maxRecDepth 100000 in
theorem h_147_194 : xlk xCL (xmo 147) 194 = some (140, 1, 1111, 1113, 43) := by decide +kernel
set_option maxRecDepth 100000 in
theorem lm_148 : xml 148 = 4 := by decide +kernel
set_option maxRecDepth 100000 in
theorem jl_148 : 148 < xMs.length := by decide +kernel
set_option maxRecDepth 100000 in
theorem mn_148 : xmn 148 = 2 := by decide +kernel
set_option maxRecDepth 100000 in
theorem e_148_72 : xlk xFL (xmo 148) 72 = some (7, 23, false, 848) := by decide +kernel
set_option maxRecDepth 100000 in
theorem mr_148 : xmr 148 = some .boolean := by decide +kernel
set_option maxRecDepth 100000 in
theorem lm_149 : xml 149 = 15 := by decide +kernel
set_option maxRecDepth 100000 in
theorem jl_149 : 149 < xMs.length := by decide +kernel
set_option maxRecDepth 100000 in
theorem mn_149 : xmn 149 = 7 := by decide +kernel
set_option maxRecDepth 100000 in
theorem h_149_91 : xlk xCL (xmo 149) 91 = some (94, 0, 922, 923, 0) := by decide +kernel
set_option maxRecDepth 100000 in
theorem h_149_178 : xlk xCL (xmo 149) 178 = some (132, 0, 1075, 1076, 0) := by decide +kernel
set_option maxRecDepth 100000 in
theorem h_149_188 : xlk xCL (xmo 149) 188 = some (133, 0, 1089, 1090, 0) := by decide +kernel
set_option maxRecDepth 100000 in
theorem h_149_211 : xlk xCL (xmo 149) 211 = some (148, 1, 1136, 1138, 45) := by decide +kernel
set_option maxRecDepth 100000 in
theorem mo_148 : xmo 148 = 7 := by decide +kernel
set_option maxRecDepth 100000 in
theorem e_149_214 : xlk xFL (xmo 149) 214 = some (7, 24, false, 849) := by decide +kernel
set_option maxRecDepth 100000 in
theorem h_149_98 : xlk xCL (xmo 149) 98 = some (93, 1, 925, 927, 22) := by decide +kernel
set_option maxRecDepth 100000 in
theorem mr_149 : xmr 149 = some .int := by decide +kernel
set_option maxRecDepth 100000 in
theorem h_149_205 : xlk xCL (xmo 149) 205 = some (141, 1, 1107, 1109, 42) := by decide +kernel
set_option maxRecDepth 100000 in
theorem h_149_194 : xlk xCL (xmo 149) 194 = some (140, 1, 1111, 1113, 43) := by decide +kernel
set_option maxRecDepth 100000 in
theorem e_149_72 : xlk xFL (xmo 149) 72 = some (7, 23, false, 848) := by decide +kernel
set_option maxRecDepth 100000 in
theorem e_149_75 : xlk xFL (xmo 149) 75 = some (7, 25, false, 850) := by decide +kernel
set_option maxRecDepth 100000 in
theorem e_149_78 : xlk xFL (xmo 149) 78 = some (7, 26, false, 851) := by decide +kernel
set_option maxRecDepth 100000 in
theorem e_149_81 : xlk xFL (xmo 149) 81 = some (7, 27, false, 852) := by decide +kernel
set_option maxRecDepth 100000 in
theorem e_149_69 : xlk xFL (xmo 149) 69 = some (7, 22, false, 847) := by decide +kernel
set_option maxRecDepth 100000 in
theorem lm_150 : xml 150 = 4 := by decide +kernel
set_option maxRecDepth 100000 in
theorem jl_150 : 150 < xMs.length := by decide +kernel
set_option maxRecDepth 100000 in
theorem mn_150 : xmn 150 = 2 := by decide +kernel
set_option maxRecDepth 100000 in
theorem h_150_91 : xlk xCL (xmo 150) 91 = some (94, 0, 922, 923, 0) := by decide +kernel
set_option maxRecDepth 100000 in
theorem h_150_98 : xlk xCL (xmo 150) 98 = some (93, 1, 925, 927, 22) := by decide +kernel
set_option maxRecDepth 100000 in
theorem mr_150 : xmr 150 = some .int := by decide +kernel
set_option maxRecDepth 100000 in
theorem e_150_72 : xlk xFL (xmo 150) 72 = some (7, 23, false, 848) := by decide +kernel
set_option maxRecDepth 100000 in
theorem h_150_211 : xlk xCL (xmo 150) 211 = some (148, 1, 1136, 1138, 45) := by decide +kernel
set_option maxRecDepth 100000 in
theorem lm_151 : xml 151 = 4 := by decide +kernel
set_option maxRecDepth 100000 in
theorem jl_151 : 151 < xMs.length := by decide +kernel
set_option maxRecDepth 100000 in
theorem mn_151 : xmn 151 = 4 := by decide +kernel
set_option maxRecDepth 100000 in
theorem h_151_178 : xlk xCL (xmo 151) 178 = some (132, 0, 1075, 1076, 0) := by decide +kernel
set_option maxRecDepth 100000 in
theorem h_151_181 : xlk xCL (xmo 151) 181 = some (134, 0, 1078, 1079, 0) := by decide +kernel
set_option maxRecDepth 100000 in
theorem h_151_91 : xlk xCL (xmo 151) 91 = some (94, 0, 922, 923, 0) := by decide +kernel
set_option maxRecDepth 100000 in
theorem h_151_98 : xlk xCL (xmo 151) 98 = some (93, 1, 925, 927, 22) := by decide +kernel
set_option maxRecDepth 100000 in
theorem mr_151 : xmr 151 = some .int := by decide +kernel
set_option maxRecDepth 100000 in
theorem e_151_72 : xlk xFL (xmo 151) 72 = some (7, 23, false, 848) := by decide +kernel
set_option maxRecDepth 100000 in
theorem e_151_63 : xlk xFL (xmo 151) 63 = some (7, 20, false, 845) := by decide +kernel
set_option maxRecDepth 100000 in
theorem h_151_211 : xlk xCL (xmo 151) 211 = some (148, 1, 1136, 1138, 45) := by decide +kernel
set_option maxRecDepth 100000 in
theorem lm_152 : xml 152 = 5 := by decide +kernel
set_option maxRecDepth 100000 in
theorem jl_152 : 152 < xMs.length := by decide +kernel
set_option maxRecDepth 100000 in
theorem mn_152 : xmn 152 = 4 := by decide +kernel
set_option maxRecDepth 100000 in
theorem h_152_188 : xlk xCL (xmo 152) 188 = some (133, 0, 1089, 1090, 0) := by decide +kernel
set_option maxRecDepth 100000 in
theorem e_152_75 : xlk xFL (xmo 152) 75 = some (7, 25, false, 850) := by decide +kernel
set_option maxRecDepth 100000 in
theorem mr_152 : xmr 152 = some .int := by decide +kernel
set_option maxRecDepth 100000 in
theorem h_152_91 : xlk xCL (xmo 152) 91 = some (94, 0, 922, 923, 0) := by decide +kernel
set_option maxRecDepth 100000 in
theorem e_152_78 : xlk xFL (xmo 152) 78 = some (7, 26, false, 851) := by decide +kernel
set_option maxRecDepth 100000 in
theorem e_152_81 : xlk xFL (xmo 152) 81 = some (7, 27, false, 852) := by decide +kernel
set_option maxRecDepth 100000 in
theorem lm_153 : xml 153 = 4 := by decide +kernel
set_option maxRecDepth 100000 in
theorem jl_153 : 153 < xMs.length := by decide +kernel
set_option maxRecDepth 100000 in
theorem mn_153 : xmn 153 = 4 := by decide +kernel
set_option maxRecDepth 100000 in
theorem h_153_178 : xlk xCL (xmo 153) 178 = some (132, 0, 1075, 1076, 0) := by decide +kernel
set_option maxRecDepth 100000 in
theorem h_153_181 : xlk xCL (xmo 153) 181 = some (134, 0, 1078, 1079, 0) := by decide +kernel
set_option maxRecDepth 100000 in
theorem h_153_91 : xlk xCL (xmo 153) 91 = some (94, 0, 922, 923, 0) := by decide +kernel
set_option maxRecDepth 100000 in
theorem h_153_98 : xlk xCL (xmo 153) 98 = some (93, 1, 925, 927, 22) := by decide +kernel
set_option maxRecDepth 100000 in
theorem mr_153 : xmr 153 = some .boolean := by decide +kernel
set_option maxRecDepth 100000 in
theorem lm_154 : xml 154 = 5 := by decide +kernel
set_option maxRecDepth 100000 in
theorem jl_154 : 154 < xMs.length := by decide +kernel
set_option maxRecDepth 100000 in
theorem mn_154 : xmn 154 = 5 := by decide +kernel
set_option maxRecDepth 100000 in
theorem h_154_217 : xlk xCL (xmo 154) 217 = some (153, 1, 1152, 1154, 46) := by decide +kernel
set_option maxRecDepth 100000 in
theorem mo_153 : xmo 153 = 7 := by decide +kernel
set_option maxRecDepth 100000 in
theorem h_154_220 : xlk xCL (xmo 154) 220 = some (152, 1, 1156, 1158, 47) := by decide +kernel
set_option maxRecDepth 100000 in
theorem mo_152 : xmo 152 = 7 := by decide +kernel
set_option maxRecDepth 100000 in
theorem mr_154 : xmr 154 = some .int := by decide +kernel
set_option maxRecDepth 100000 in
theorem lm_155 : xml 155 = 7 := by decide +kernel
set_option maxRecDepth 100000 in
theorem jl_155 : 155 < xMs.length := by decide +kernel
set_option maxRecDepth 100000 in
theorem mn_155 : xmn 155 = 4 := by decide +kernel
set_option maxRecDepth 100000 in
theorem h_155_217 : xlk xCL (xmo 155) 217 = some (153, 1, 1152, 1154, 46) := by decide +kernel
set_option maxRecDepth 100000 in
theorem mr_155 : xmr 155 = some .int := by decide +kernel
set_option maxRecDepth 100000 in
theorem h_155_220 : xlk xCL (xmo 155) 220 = some (152, 1, 1156, 1158, 47) := by decide +kernel
set_option maxRecDepth 100000 in
theorem lm_156 : xml 156 = 1 := by decide +kernel
set_option maxRecDepth 100000 in
theorem jl_156 : 156 < xMs.length := by decide +kernel
set_option maxRecDepth 100000 in
theorem mn_156 : xmn 156 = 1 := by decide +kernel
set_option maxRecDepth 100000 in
theorem e_156_84 : xlk xFL (xmo 156) 84 = some (7, 28, false, 853) := by decide +kernel
set_option maxRecDepth 100000 in
theorem e_156_214 : xlk xFL (xmo 156) 214 = some (7, 24, false, 849) := by decide +kernel
set_option maxRecDepth 100000 in
theorem mr_156 : xmr 156 = some .int := by decide +kernel
set_option maxRecDepth 100000 in
theorem lm_157 : xml 157 = 3 := by decide +kernel
set_option maxRecDepth 100000 in
theorem jl_157 : 157 < xMs.length := by decide +kernel
set_option maxRecDepth 100000 in
theorem mr_157 : xmr 157 = some .int := by decide +kernel
set_option maxRecDepth 100000 in
theorem lm_158 : xml 158 = 2 := by decide +kernel
set_option maxRecDepth 100000 in
theorem jl_158 : 158 < xMs.length := by decide +kernel
set_option maxRecDepth 100000 in
theorem mr_158 : xmr 158 = some .int := by decide +kernel
set_option maxRecDepth 100000 in
theorem lm_159 : xml 159 = 2 := by decide +kernel
set_option maxRecDepth 100000 in
theorem jl_159 : 159 < xMs.length := by decide +kernel
set_option maxRecDepth 100000 in
theorem mr_159 : xmr 159 = some .int := by decide +kernel
set_option maxRecDepth 100000 in
theorem lm_160 : xml 160 = 4 := by decide +kernel
set_option maxRecDepth 100000 in
theorem jl_160 : 160 < xMs.length := by decide +kernel
set_option maxRecDepth 100000 in
theorem mn_160 : xmn 160 = 3 := by decide +kernel
set_option maxRecDepth 100000 in
theorem h_160_7 : xlk xCL (xmo 160) 7 = some (50, 1, 191, 192, 193) := by decide +kernel
set_option maxRecDepth 100000 in
theorem mo_50 : xmo 50 = 6 := by decide +kernel
set_option maxRecDepth 100000 in
theorem mr_160 : xmr 160 = some .int := by decide +kernel
set_option maxRecDepth 100000 in
theorem lm_161 : xml 161 = 6 := by decide +kernel
set_option maxRecDepth 100000 in
theorem jl_161 : 161 < xMs.length := by decide +kernel
set_option maxRecDepth 100000 in
theorem mn_161 : xmn 161 = 5 := by decide +kernel
set_option maxRecDepth 100000 in
theorem h_161_17 : xlk xCL (xmo 161) 17 = some (51, 1, 298, 299, 300) := by decide +kernel
set_option maxRecDepth 100000 in
theorem mo_51 : xmo 51 = 6 := by decide +kernel
set_option maxRecDepth 100000 in
theorem mr_161 : xmr 161 = some .int := by decide +kernel
set_option maxRecDepth 100000 in
theorem lm_162 : xml 162 = 9 := by decide +kernel
set_option maxRecDepth 100000 in
theorem jl_162 : 162 < xMs.length := by decide +kernel
set_option maxRecDepth 100000 in
theorem mn_162 : xmn 162 = 8 := by decide +kernel
set_option maxRecDepth 100000 in
theorem h_162_23 : xlk xCL (xmo 162) 23 = some (52, 1, 337, 338, 339) := by decide +kernel
set_option maxRecDepth 100000 in
theorem mo_52 : xmo 52 = 6 := by decide +kernel
set_option maxRecDepth 100000 in
theorem mr_162 : xmr 162 = some .int := by decide +kernel
set_option maxRecDepth 100000 in
theorem lm_163 : xml 163 = 8 := by decide +kernel
set_option maxRecDepth 100000 in
theorem jl_163 : 163 < xMs.length := by decide +kernel
set_option maxRecDepth 100000 in
theorem mn_163 : xmn 163 = 7 := by decide +kernel
set_option maxRecDepth 100000 in
theorem h_163_27 : xlk xCL (xmo 163) 27 = some (53, 1, 421, 422, 423) := by decide +kernel
set_option maxRecDepth 100000 in
theorem mo_53 : xmo 53 = 6 := by decide +kernel
set_option maxRecDepth 100000 in
theorem mr_163 : xmr 163 = some .int := by decide +kernel
set_option maxRecDepth 100000 in
theorem lm_164 : xml 164 = 5 := by decide +kernel
set_option maxRecDepth 100000 in
theorem jl_164 : 164 < xMs.length := by decide +kernel
set_option maxRecDepth 100000 in
theorem mn_164 : xmn 164 = 4 := by decide +kernel
set_option maxRecDepth 100000 in
theorem h_164_31 : xlk xCL (xmo 164) 31 = some (54, 1, 441, 442, 443) := by decide +kernel
set_option maxRecDepth 100000 in
theorem mo_54 : xmo 54 = 6 := by decide +kernel
set_option maxRecDepth 100000 in
theorem mr_164 : xmr 164 = some .int := by decide +kernel
set_option maxRecDepth 100000 in
theorem lm_165 : xml 165 = 5 := by decide +kernel
set_option maxRecDepth 100000 in
theorem jl_165 : 165 < xMs.length := by decide +kernel
set_option maxRecDepth 100000 in
theorem mn_165 : xmn 165 = 4 := by decide +kernel
set_option maxRecDepth 100000 in
theorem h_165_35 : xlk xCL (xmo 165) 35 = some (55, 1, 454, 455, 456) := by decide +kernel
set_option maxRecDepth 100000 in
theorem mo_55 : xmo 55 = 6 := by decide +kernel
set_option maxRecDepth 100000 in
theorem mr_165 : xmr 165 = some .int := by decide +kernel
set_option maxRecDepth 100000 in
theorem lm_166 : xml 166 = 5 := by decide +kernel
set_option maxRecDepth 100000 in
theorem jl_166 : 166 < xMs.length := by decide +kernel
set_option maxRecDepth 100000 in
theorem mn_166 : xmn 166 = 4 := by decide +kernel
set_option maxRecDepth 100000 in
theorem h_166_38 : xlk xCL (xmo 166) 38 = some (56, 1, 475, 476, 477) := by decide +kernel
set_option maxRecDepth 100000 in
theorem mo_56 : xmo 56 = 6 := by decide +kernel
set_option maxRecDepth 100000 in
theorem mr_166 : xmr 166 = some .int := by decide +kernel
set_option maxRecDepth 100000 in
theorem lm_167 : xml 167 = 5 := by decide +kernel
set_option maxRecDepth 100000 in
theorem jl_167 : 167 < xMs.length := by decide +kernel
set_option maxRecDepth 100000 in
theorem mn_167 : xmn 167 = 4 := by decide +kernel
set_option maxRecDepth 100000 in
theorem h_167_42 : xlk xCL (xmo 167) 42 = some (57, 1, 482, 483, 484) := by decide +kernel
set_option maxRecDepth 100000 in
theorem mo_57 : xmo 57 = 6 := by decide +kernel
set_option maxRecDepth 100000 in
theorem mr_167 : xmr 167 = some .int := by decide +kernel
set_option maxRecDepth 100000 in
theorem lm_168 : xml 168 = 7 := by decide +kernel
set_option maxRecDepth 100000 in
theorem jl_168 : 168 < xMs.length := by decide +kernel
set_option maxRecDepth 100000 in
theorem mn_168 : xmn 168 = 6 := by decide +kernel
set_option maxRecDepth 100000 in
theorem h_168_45 : xlk xCL (xmo 168) 45 = some (58, 1, 496, 497, 498) := by decide +kernel
set_option maxRecDepth 100000 in
theorem mo_58 : xmo 58 = 6 := by decide +kernel
set_option maxRecDepth 100000 in
theorem mr_168 : xmr 168 = some .int := by decide +kernel
set_option maxRecDepth 100000 in
theorem lm_169 : xml 169 = 4 := by decide +kernel
set_option maxRecDepth 100000 in
theorem jl_169 : 169 < xMs.length := by decide +kernel
set_option maxRecDepth 100000 in
theorem mn_169 : xmn 169 = 3 := by decide +kernel
set_option maxRecDepth 100000 in
theorem h_169_49 : xlk xCL (xmo 169) 49 = some (59, 1, 516, 517, 518) := by decide +kernel
set_option maxRecDepth 100000 in
theorem mo_59 : xmo 59 = 6 := by decide +kernel
set_option maxRecDepth 100000 in
theorem mr_169 : xmr 169 = some .int := by decide +kernel
set_option maxRecDepth 100000 in
theorem lm_170 : xml 170 = 7 := by decide +kernel
set_option maxRecDepth 100000 in
theorem jl_170 : 170 < xMs.length := by decide +kernel
set_option maxRecDepth 100000 in
theorem mn_170 : xmn 170 = 6 := by decide +kernel
set_option maxRecDepth 100000 in
theorem h_170_52 : xlk xCL (xmo 170) 52 = some (60, 1, 528, 529, 530) := by decide +kernel
set_option maxRecDepth 100000 in
theorem mo_60 : xmo 60 = 6 := by decide +kernel
set_option maxRecDepth 100000 in
theorem mr_170 : xmr 170 = some .int := by decide +kernel
set_option maxRecDepth 100000 in
theorem lm_171 : xml 171 = 6 := by decide +kernel
set_option maxRecDepth 100000 in
theorem jl_171 : 171 < xMs.length := by decide +kernel
set_option maxRecDepth 100000 in
theorem mn_171 : xmn 171 = 5 := by decide +kernel
set_option maxRecDepth 100000 in
theorem h_171_55 : xlk xCL (xmo 171) 55 = some (61, 1, 584, 585, 586) := by decide +kernel
set_option maxRecDepth 100000 in
theorem mo_61 : xmo 61 = 6 := by decide +kernel
set_option maxRecDepth 100000 in
theorem mr_171 : xmr 171 = some .int := by decide +kernel
set_option maxRecDepth 100000 in
theorem lm_172 : xml 172 = 6 := by decide +kernel
set_option maxRecDepth 100000 in
theorem jl_172 : 172 < xMs.length := by decide +kernel
set_option maxRecDepth 100000 in
theorem mn_172 : xmn 172 = 5 := by decide +kernel
set_option maxRecDepth 100000 in
theorem h_172_58 : xlk xCL (xmo 172) 58 = some (62, 1, 596, 597, 598) := by decide +kernel
set_option maxRecDepth 100000 in
theorem mo_62 : xmo 62 = 6 := by decide +kernel
set_option maxRecDepth 100000 in
theorem mr_172 : xmr 172 = some .int := by decide +kernel
set_option maxRecDepth 100000 in
theorem lm_173 : xml 173 = 5 := by decide +kernel
set_option maxRecDepth 100000 in
theorem jl_173 : 173 < xMs.length := by decide +kernel
set_option maxRecDepth 100000 in
theorem mn_173 : xmn 173 = 4 := by decide +kernel
set_option maxRecDepth 100000 in
theorem h_173_61 : xlk xCL (xmo 173) 61 = some (63, 1, 625, 626, 627) := by decide +kernel
set_option maxRecDepth 100000 in
theorem mo_63 : xmo 63 = 6 := by decide +kernel
set_option maxRecDepth 100000 in
theorem mr_173 : xmr 173 = some .int := by decide +kernel
set_option maxRecDepth 100000 in
theorem lm_174 : xml 174 = 4 := by decide +kernel
set_option maxRecDepth 100000 in
theorem jl_174 : 174 < xMs.length := by decide +kernel
set_option maxRecDepth 100000 in
theorem mn_174 : xmn 174 = 3 := by decide +kernel
set_option maxRecDepth 100000 in
theorem h_174_64 : xlk xCL (xmo 174) 64 = some (64, 1, 638, 639, 640) := by decide +kernel
set_option maxRecDepth 100000 in
theorem mo_64 : xmo 64 = 6 := by decide +kernel
set_option maxRecDepth 100000 in
theorem mr_174 : xmr 174 = some .int := by decide +kernel
set_option maxRecDepth 100000 in
theorem lm_175 : xml 175 = 7 := by decide +kernel
set_option maxRecDepth 100000 in
theorem jl_175 : 175 < xMs.length := by decide +kernel
set_option maxRecDepth 100000 in
theorem mn_175 : xmn 175 = 6 := by decide +kernel
set_option maxRecDepth 100000 in
theorem h_175_67 : xlk xCL (xmo 175) 67 = some (65, 1, 645, 646, 647) := by decide +kernel
set_option maxRecDepth 100000 in
theorem mo_65 : xmo 65 = 6 := by decide +kernel
set_option maxRecDepth 100000 in
theorem mr_175 : xmr 175 = some .int := by decide +kernel
set_option maxRecDepth 100000 in
theorem lm_176 : xml 176 = 6 := by decide +kernel
set_option maxRecDepth 100000 in
theorem jl_176 : 176 < xMs.length := by decide +kernel
set_option maxRecDepth 100000 in
theorem mn_176 : xmn 176 = 5 := by decide +kernel
set_option maxRecDepth 100000 in
theorem h_176_70 : xlk xCL (xmo 176) 70 = some (66, 1, 658, 659, 660) := by decide +kernel
set_option maxRecDepth 100000 in
theorem mo_66 : xmo 66 = 6 := by decide +kernel
set_option maxRecDepth 100000 in
theorem mr_176 : xmr 176 = some .int := by decide +kernel
set_option maxRecDepth 100000 in
theorem lm_177 : xml 177 = 6 := by decide +kernel
set_option maxRecDepth 100000 in
theorem jl_177 : 177 < xMs.length := by decide +kernel
set_option maxRecDepth 100000 in
theorem mn_177 : xmn 177 = 5 := by decide +kernel
set_option maxRecDepth 100000 in
theorem h_177_73 : xlk xCL (xmo 177) 73 = some (67, 1, 670, 671, 672) := by decide +kernel
set_option maxRecDepth 100000 in
theorem mo_67 : xmo 67 = 6 := by decide +kernel
set_option maxRecDepth 100000 in
theorem mr_177 : xmr 177 = some .int := by decide +kernel
set_option maxRecDepth 100000 in
theorem lm_178 : xml 178 = 6 := by decide +kernel
set_option maxRecDepth 100000 in
theorem jl_178 : 178 < xMs.length := by decide +kernel
set_option maxRecDepth 100000 in
theorem mn_178 : xmn 178 = 5 := by decide +kernel
set_option maxRecDepth 100000 in
theorem h_178_76 : xlk xCL (xmo 178) 76 = some (68, 1, 682, 683, 684) := by decide +kernel
set_option maxRecDepth 100000 in
theorem mo_68 : xmo 68 = 6 := by decide +kernel
set_option maxRecDepth 100000 in
theorem mr_178 : xmr 178 = some .int := by decide +kernel
set_option maxRecDepth 100000 in
theorem lm_179 : xml 179 = 6 := by decide +kernel
set_option maxRecDepth 100000 in
theorem jl_179 : 179 < xMs.length := by decide +kernel
set_option maxRecDepth 100000 in
theorem mn_179 : xmn 179 = 5 := by decide +kernel
set_option maxRecDepth 100000 in
theorem h_179_79 : xlk xCL (xmo 179) 79 = some (69, 1, 689, 690, 691) := by decide +kernel
set_option maxRecDepth 100000 in
theorem mo_69 : xmo 69 = 6 := by decide +kernel
set_option maxRecDepth 100000 in
theorem mr_179 : xmr 179 = some .int := by decide +kernel
set_option maxRecDepth 100000 in
theorem lm_180 : xml 180 = 6 := by decide +kernel
set_option maxRecDepth 100000 in
theorem jl_180 : 180 < xMs.length := by decide +kernel
set_option maxRecDepth 100000 in
theorem mn_180 : xmn 180 = 5 := by decide +kernel
set_option maxRecDepth 100000 in
theorem h_180_82 : xlk xCL (xmo 180) 82 = some (70, 1, 718, 719, 720) := by decide +kernel
set_option maxRecDepth 100000 in
theorem mo_70 : xmo 70 = 6 := by decide +kernel
set_option maxRecDepth 100000 in
theorem mr_180 : xmr 180 = some .int := by decide +kernel
set_option maxRecDepth 100000 in
theorem lm_181 : xml 181 = 7 := by decide +kernel
set_option maxRecDepth 100000 in
theorem jl_181 : 181 < xMs.length := by decide +kernel
set_option maxRecDepth 100000 in
theorem mn_181 : xmn 181 = 6 := by decide +kernel
set_option maxRecDepth 100000 in
theorem h_181_85 : xlk xCL (xmo 181) 85 = some (71, 1, 736, 737, 738) := by decide +kernel
set_option maxRecDepth 100000 in
theorem mo_71 : xmo 71 = 6 := by decide +kernel
set_option maxRecDepth 100000 in
theorem mr_181 : xmr 181 = some .int := by decide +kernel
set_option maxRecDepth 100000 in
theorem lm_182 : xml 182 = 6 := by decide +kernel
set_option maxRecDepth 100000 in
theorem jl_182 : 182 < xMs.length := by decide +kernel
set_option maxRecDepth 100000 in
theorem mn_182 : xmn 182 = 5 := by decide +kernel
set_option maxRecDepth 100000 in
theorem h_182_88 : xlk xCL (xmo 182) 88 = some (72, 1, 744, 745, 746) := by decide +kernel
set_option maxRecDepth 100000 in
theorem mo_72 : xmo 72 = 6 := by decide +kernel
set_option maxRecDepth 100000 in
theorem mr_182 : xmr 182 = some .int := by decide +kernel
set_option maxRecDepth 100000 in
theorem lm_183 : xml 183 = 9 := by decide +kernel
set_option maxRecDepth 100000 in
theorem jl_183 : 183 < xMs.length := by decide +kernel
set_option maxRecDepth 100000 in
theorem mn_183 : xmn 183 = 8 := by decide +kernel
set_option maxRecDepth 100000 in
theorem h_183_91 : xlk xCL (xmo 183) 91 = some (73, 1, 759, 760, 761) := by decide +kernel
set_option maxRecDepth 100000 in
theorem mo_73 : xmo 73 = 6 := by decide +kernel
set_option maxRecDepth 100000 in
theorem mr_183 : xmr 183 = some .int := by decide +kernel
set_option maxRecDepth 100000 in
theorem lm_184 : xml 184 = 4 := by decide +kernel
set_option maxRecDepth 100000 in
theorem jl_184 : 184 < xMs.length := by decide +kernel
set_option maxRecDepth 100000 in
theorem mn_184 : xmn 184 = 3 := by decide +kernel
set_option maxRecDepth 100000 in
theorem h_184_95 : xlk xCL (xmo 184) 95 = some (74, 1, 785, 786, 787) := by decide +kernel
set_option maxRecDepth 100000 in
theorem mo_74 : xmo 74 = 6 := by decide +kernel
set_option maxRecDepth 100000 in
theorem mr_184 : xmr 184 = some .int := by decide +kernel
set_option maxRecDepth 100000 in
theorem lm_185 : xml 185 = 6 := by decide +kernel
set_option maxRecDepth 100000 in
theorem jl_185 : 185 < xMs.length := by decide +kernel
set_option maxRecDepth 100000 in
theorem mn_185 : xmn 185 = 5 := by decide +kernel
set_option maxRecDepth 100000 in
theorem h_185_98 : xlk xCL (xmo 185) 98 = some (75, 1, 797, 798, 799) := by decide +kernel
set_option maxRecDepth 100000 in
theorem mo_75 : xmo 75 = 6 := by decide +kernel
set_option maxRecDepth 100000 in
theorem mr_185 : xmr 185 = some .int := by decide +kernel
set_option maxRecDepth 100000 in
theorem lm_186 : xml 186 = 7 := by decide +kernel
set_option maxRecDepth 100000 in
theorem jl_186 : 186 < xMs.length := by decide +kernel
set_option maxRecDepth 100000 in
theorem mn_186 : xmn 186 = 6 := by decide +kernel
set_option maxRecDepth 100000 in
theorem h_186_101 : xlk xCL (xmo 186) 101 = some (76, 1, 804, 805, 806) := by decide +kernel
set_option maxRecDepth 100000 in
theorem mo_76 : xmo 76 = 6 := by decide +kernel
set_option maxRecDepth 100000 in
theorem mr_186 : xmr 186 = some .int := by decide +kernel
set_option maxRecDepth 100000 in
theorem lm_187 : xml 187 = 6 := by decide +kernel
set_option maxRecDepth 100000 in
theorem jl_187 : 187 < xMs.length := by decide +kernel
set_option maxRecDepth 100000 in
theorem mn_187 : xmn 187 = 5 := by decide +kernel
set_option maxRecDepth 100000 in
theorem h_187_104 : xlk xCL (xmo 187) 104 = some (77, 1, 815, 816, 817) := by decide +kernel
set_option maxRecDepth 100000 in
theorem mo_77 : xmo 77 = 6 := by decide +kernel
set_option maxRecDepth 100000 in
theorem mr_187 : xmr 187 = some .int := by decide +kernel
set_option maxRecDepth 100000 in
theorem lm_188 : xml 188 = 7 := by decide +kernel
set_option maxRecDepth 100000 in
theorem jl_188 : 188 < xMs.length := by decide +kernel
set_option maxRecDepth 100000 in
theorem mn_188 : xmn 188 = 1 := by decide +kernel
set_option maxRecDepth 100000 in
theorem q_188_8 : xlk xKL (xmo 188) 8 = some (6, 64) := by decide +kernel
set_option maxRecDepth 100000 in
theorem h_188_107 : xlk xCL (xmo 188) 107 = some (49, 2, 66, 67, 0) := by decide +kernel
set_option maxRecDepth 100000 in
theorem mo_49 : xmo 49 = 6 := by decide +kernel
set_option maxRecDepth 100000 in
theorem q_188_108 : xlk xKL (xmo 188) 108 = some (7, 819) := by decide +kernel
set_option maxRecDepth 100000 in
theorem h_188_110 : xlk xCL (xmo 188) 110 = some (91, 2, 821, 822, 0) := by decide +kernel
set_option maxRecDepth 100000 in
theorem mo_91 : xmo 91 = 7 := by decide +kernel
set_option maxRecDepth 100000 in
theorem h_188_111 : xlk xCL (xmo 188) 111 = some (160, 0, 186, 187, 0) := by decide +kernel
set_option maxRecDepth 100000 in
theorem h_188_116 : xlk xCL (xmo 188) 116 = some (99, 1, 918, 919, 920) := by decide +kernel
set_option maxRecDepth 100000 in
theorem mo_99 : xmo 99 = 7 := by decide +kernel
set_option maxRecDepth 100000 in
theorem h_188_117 : xlk xCL (xmo 188) 117 = some (92, 1, 914, 915, 916) := by decide +kernel
set_option maxRecDepth 100000 in
theorem mo_92 : xmo 92 = 7 := by decide +kernel
set_option maxRecDepth 100000 in
theorem mr_188 : xmr 188 = some .boolean := by decide +kernel
set_option maxRecDepth 100000 in
theorem h_188_121 : xlk xCL (xmo 188) 121 = some (161, 0, 294, 295, 0) := by decide +kernel
set_option maxRecDepth 100000 in
theorem h_188_124 : xlk xCL (xmo 188) 124 = some (100, 1, 929, 930, 931) := by decide +kernel
set_option maxRecDepth 100000 in
theorem mo_100 : xmo 100 = 7 := by decide +kernel
set_option maxRecDepth 100000 in
theorem h_188_125 : xlk xCL (xmo 188) 125 = some (162, 0, 334, 335, 0) := by decide +kernel
set_option maxRecDepth 100000 in
theorem h_188_128 : xlk xCL (xmo 188) 128 = some (104, 1, 940, 941, 942) := by decide +kernel
set_option maxRecDepth 100000 in
theorem mo_104 : xmo 104 = 7 := by decide +kernel
set_option maxRecDepth 100000 in
theorem h_188_129 : xlk xCL (xmo 188) 129 = some (163, 0, 418, 419, 0) := by decide +kernel
set_option maxRecDepth 100000 in
theorem h_188_132 : xlk xCL (xmo 188) 132 = some (106, 1, 955, 956, 957) := by decide +kernel
set_option maxRecDepth 100000 in
theorem mo_106 : xmo 106 = 7 := by decide +kernel
set_option maxRecDepth 100000 in
theorem h_188_133 : xlk xCL (xmo 188) 133 = some (164, 0, 438, 439, 0) := by decide +kernel
set_option maxRecDepth 100000 in
theorem h_188_136 : xlk xCL (xmo 188) 136 = some (107, 1, 962, 963, 964) := by decide +kernel
set_option maxRecDepth 100000 in
theorem mo_107 : xmo 107 = 7 := by decide +kernel
set_option maxRecDepth 100000 in
theorem h_188_137 : xlk xCL (xmo 188) 137 = some (165, 0, 451, 452, 0) := by decide +kernel
set_option maxRecDepth 100000 in
theorem h_188_139 : xlk xCL (xmo 188) 139 = some (109, 1, 970, 971, 972) := by decide +kernel
set_option maxRecDepth 100000 in
theorem mo_109 : xmo 109 = 7 := by decide +kernel
set_option maxRecDepth 100000 in
theorem h_188_140 : xlk xCL (xmo 188) 140 = some (166, 0, 472, 473, 0) := by decide +kernel
set_option maxRecDepth 100000 in
theorem h_188_142 : xlk xCL (xmo 188) 142 = some (111, 1, 979, 980, 981) := by decide +kernel
set_option maxRecDepth 100000 in
theorem mo_111 : xmo 111 = 7 := by decide +kernel
set_option maxRecDepth 100000 in
theorem h_188_143 : xlk xCL (xmo 188) 143 = some (167, 0, 479, 480, 0) := by decide +kernel
set_option maxRecDepth 100000 in
theorem h_188_145 : xlk xCL (xmo 188) 145 = some (113, 1, 983, 984, 985) := by decide +kernel
set_option maxRecDepth 100000 in
theorem mo_113 : xmo 113 = 7 := by decide +kernel
set_option maxRecDepth 100000 in
theorem h_188_146 : xlk xCL (xmo 188) 146 = some (168, 0, 493, 494, 0) := by decide +kernel
set_option maxRecDepth 100000 in
theorem h_188_149 : xlk xCL (xmo 188) 149 = some (116, 1, 995, 996, 997) := by decide +kernel
set_option maxRecDepth 100000 in
theorem mo_116 : xmo 116 = 7 := by decide +kernel
set_option maxRecDepth 100000 in
theorem h_188_150 : xlk xCL (xmo 188) 150 = some (169, 0, 513, 514, 0) := by decide +kernel
set_option maxRecDepth 100000 in
theorem h_188_152 : xlk xCL (xmo 188) 152 = some (117, 1, 1006, 1007, 1008) := by decide +kernel
set_option maxRecDepth 100000 in
theorem mo_117 : xmo 117 = 7 := by decide +kernel
set_option maxRecDepth 100000 in
theorem h_188_153 : xlk xCL (xmo 188) 153 = some (170, 0, 525, 526, 0) := by decide +kernel
set_option maxRecDepth 100000 in
theorem h_188_155 : xlk xCL (xmo 188) 155 = some (124, 1, 1014, 1015, 1016) := by decide +kernel
set_option maxRecDepth 100000 in
theorem mo_124 : xmo 124 = 7 := by decide +kernel
set_option maxRecDepth 100000 in
theorem h_188_156 : xlk xCL (xmo 188) 156 = some (171, 0, 581, 582, 0) := by decide +kernel
set_option maxRecDepth 100000 in
theorem h_188_158 : xlk xCL (xmo 188) 158 = some (125, 1, 1043, 1044, 1045) := by decide +kernel
set_option maxRecDepth 100000 in
theorem mo_125 : xmo 125 = 7 := by decide +kernel
set_option maxRecDepth 100000 in
theorem h_188_159 : xlk xCL (xmo 188) 159 = some (172, 0, 593, 594, 0) := by decide +kernel
set_option maxRecDepth 100000 in
theorem h_188_161 : xlk xCL (xmo 188) 161 = some (127, 1, 1047, 1048, 1049) := by decide +kernel
set_option maxRecDepth 100000 in
theorem mo_127 : xmo 127 = 7 := by decide +kernel
set_option maxRecDepth 100000 in
theorem h_188_162 : xlk xCL (xmo 188) 162 = some (173, 0, 622, 623, 0) := by decide +kernel
set_option maxRecDepth 100000 in
theorem h_188_164 : xlk xCL (xmo 188) 164 = some (128, 1, 1055, 1056, 1057) := by decide +kernel
set_option maxRecDepth 100000 in
theorem mo_128 : xmo 128 = 7 := by decide +kernel
set_option maxRecDepth 100000 in
theorem h_188_165 : xlk xCL (xmo 188) 165 = some (174, 0, 635, 636, 0) := by decide +kernel
set_option maxRecDepth 100000 in
theorem h_188_167 : xlk xCL (xmo 188) 167 = some (129, 1, 1059, 1060, 1061) := by decide +kernel
set_option maxRecDepth 100000 in
theorem mo_129 : xmo 129 = 7 := by decide +kernel
set_option maxRecDepth 100000 in
theorem h_188_168 : xlk xCL (xmo 188) 168 = some (175, 0, 642, 643, 0) := by decide +kernel
set_option maxRecDepth 100000 in
theorem h_188_170 : xlk xCL (xmo 188) 170 = some (131, 1, 1063, 1064, 1065) := by decide +kernel
set_option maxRecDepth 100000 in
theorem mo_131 : xmo 131 = 7 := by decide +kernel
set_option maxRecDepth 100000 in
theorem h_188_171 : xlk xCL (xmo 188) 171 = some (176, 0, 655, 656, 0) := by decide +kernel
set_option maxRecDepth 100000 in
theorem h_188_173 : xlk xCL (xmo 188) 173 = some (136, 1, 1071, 1072, 1073) := by decide +kernel
set_option maxRecDepth 100000 in
theorem mo_136 : xmo 136 = 7 := by decide +kernel
set_option maxRecDepth 100000 in
theorem h_188_174 : xlk xCL (xmo 188) 174 = some (177, 0, 667, 668, 0) := by decide +kernel
set_option maxRecDepth 100000 in
theorem h_188_176 : xlk xCL (xmo 188) 176 = some (137, 1, 1085, 1086, 1087) := by decide +kernel
set_option maxRecDepth 100000 in
theorem mo_137 : xmo 137 = 7 := by decide +kernel
set_option maxRecDepth 100000 in
theorem h_188_177 : xlk xCL (xmo 188) 177 = some (178, 0, 679, 680, 0) := by decide +kernel
set_option maxRecDepth 100000 in
theorem h_188_179 : xlk xCL (xmo 188) 179 = some (138, 1, 1092, 1093, 1094) := by decide +kernel
set_option maxRecDepth 100000 in
theorem mo_138 : xmo 138 = 7 := by decide +kernel
set_option maxRecDepth 100000 in
theorem h_188_180 : xlk xCL (xmo 188) 180 = some (179, 0, 686, 687, 0) := by decide +kernel
set_option maxRecDepth 100000 in
theorem h_188_182 : xlk xCL (xmo 188) 182 = some (144, 1, 1096, 1097, 1098) := by decide +kernel
set_option maxRecDepth 100000 in
theorem h_188_183 : xlk xCL (xmo 188) 183 = some (180, 0, 715, 716, 0) := by decide +kernel
set_option maxRecDepth 100000 in
theorem h_188_185 : xlk xCL (xmo 188) 185 = some (145, 1, 1119, 1120, 1121) := by decide +kernel
set_option maxRecDepth 100000 in
theorem mo_145 : xmo 145 = 7 := by decide +kernel
set_option maxRecDepth 100000 in
theorem h_188_186 : xlk xCL (xmo 188) 186 = some (181, 0, 733, 734, 0) := by decide +kernel
set_option maxRecDepth 100000 in
theorem h_188_188 : xlk xCL (xmo 188) 188 = some (146, 1, 1124, 1125, 1126) := by decide +kernel
set_option maxRecDepth 100000 in
theorem mo_146 : xmo 146 = 7 := by decide +kernel
set_option maxRecDepth 100000 in
theorem h_188_189 : xlk xCL (xmo 188) 189 = some (182, 0, 741, 742, 0) := by decide +kernel
set_option maxRecDepth 100000 in
theorem h_188_191 : xlk xCL (xmo 188) 191 = some (147, 1, 1128, 1129, 1130) := by decide +kernel
set_option maxRecDepth 100000 in
theorem mo_147 : xmo 147 = 7 := by decide +kernel
set_option maxRecDepth 100000 in
theorem h_188_192 : xlk xCL (xmo 188) 192 = some (183, 0, 756, 757, 0) := by decide +kernel
set_option maxRecDepth 100000 in
theorem h_188_195 : xlk xCL (xmo 188) 195 = some (149, 1, 1132, 1133, 1134) := by decide +kernel
set_option maxRecDepth 100000 in
theorem mo_149 : xmo 149 = 7 := by decide +kernel
set_option maxRecDepth 100000 in
theorem h_188_196 : xlk xCL (xmo 188) 196 = some (184, 0, 782, 783, 0) := by decide +kernel
set_option maxRecDepth 100000 in
theorem h_188_198 : xlk xCL (xmo 188) 198 = some (150, 1, 1140, 1141, 1142) := by decide +kernel
set_option maxRecDepth 100000 in
theorem mo_150 : xmo 150 = 7 := by decide +kernel
set_option maxRecDepth 100000 in
theorem h_188_199 : xlk xCL (xmo 188) 199 = some (185, 0, 794, 795, 0) := by decide +kernel
set_option maxRecDepth 100000 in
theorem h_188_201 : xlk xCL (xmo 188) 201 = some (151, 1, 1144, 1145, 1146) := by decide +kernel
set_option maxRecDepth 100000 in
theorem mo_151 : xmo 151 = 7 := by decide +kernel
set_option maxRecDepth 100000 in
theorem h_188_202 : xlk xCL (xmo 188) 202 = some (186, 0, 801, 802, 0) := by decide +kernel
set_option maxRecDepth 100000 in
theorem h_188_204 : xlk xCL (xmo 188) 204 = some (154, 1, 1148, 1149, 1150) := by decide +kernel
set_option maxRecDepth 100000 in
theorem mo_154 : xmo 154 = 7 := by decide +kernel
set_option maxRecDepth 100000 in
theorem h_188_205 : xlk xCL (xmo 188) 205 = some (187, 0, 812, 813, 0) := by decide +kernel
set_option maxRecDepth 100000 in
theorem h_188_207 : xlk xCL (xmo 188) 207 = some (155, 1, 1160, 1161, 1162) := by decide +kernel
set_option maxRecDepth 100000 in
theorem mo_155 : xmo 155 = 7 := by decide +kernel
set_option maxRecDepth 100000 in
theorem h_188_208 : xlk xCL (xmo 188) 208 = some (78, 1, 182, 183, 184) := by decide +kernel
set_option maxRecDepth 100000 in
theorem mo_78 : xmo 78 = 6 := by decide +kernel
set_option maxRecDepth 100000 in
theorem h_188_211 : xlk xCL (xmo 188) 211 = some (156, 1, 1164, 1165, 1166) := by decide +kernel
set_option maxRecDepth 100000 in
theorem mo_156 : xmo 156 = 7 := by decide +kernel
set_option maxRecDepth 100000 in
theorem lm_189 : xml 189 = 6 := by decide +kernel
set_option maxRecDepth 100000 in
theorem jl_189 : 189 < xMs.length := by decide +kernel
set_option maxRecDepth 100000 in
theorem e_189_15 : xlk xFL (xmo 189) 15 = some (2, 1, false, 113) := by decide +kernel
set_option maxRecDepth 100000 in
theorem h_189_27 : xlk xCL (xmo 189) 27 = some (13, 1, 773, 775, 21) := by decide +kernel
set_option maxRecDepth 100000 in
theorem mo_13 : xmo 13 = 2 := by decide +kernel
set_option maxRecDepth 100000 in
theorem mr_189 : xmr 189 = none := by decide +kernel
set_option maxRecDepth 100000 in
theorem lm_190 : xml 190 = 2 := by decide +kernel
set_option maxRecDepth 100000 in
theorem jl_190 : 190 < xMs.length := by decide +kernel
set_option maxRecDepth 100000 in
theorem e_190_15 : xlk xFL (xmo 190) 15 = some (3, 1, false, 133) := by decide +kernel
set_option maxRecDepth 100000 in
theorem h_190_18 : xlk xCL (xmo 190) 18 = some (158, 0, 781, 491, 0) := by decide +kernel
set_option maxRecDepth 100000 in
theorem mr_190 : xmr 190 = none := by decide +kernel
