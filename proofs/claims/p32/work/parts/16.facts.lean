/-! constants and links, by program (gen2.py) -/
theorem c8_m121 : (Int8.ofInt (-121)).toInt32 = Int32.ofInt (-121) := by decide
theorem c8_m51 : (Int8.ofInt (-51)).toInt32 = Int32.ofInt (-51) := by decide
theorem c8_m50 : (Int8.ofInt (-50)).toInt32 = Int32.ofInt (-50) := by decide
theorem c8_6 : (Int8.ofInt (6)).toInt32 = Int32.ofInt (6) := by decide
theorem c8_7 : (Int8.ofInt (7)).toInt32 = Int32.ofInt (7) := by decide
theorem c8_8 : (Int8.ofInt (8)).toInt32 = Int32.ofInt (8) := by decide
theorem c8_9 : (Int8.ofInt (9)).toInt32 = Int32.ofInt (9) := by decide
theorem c8_10 : (Int8.ofInt (10)).toInt32 = Int32.ofInt (10) := by decide
theorem c8_11 : (Int8.ofInt (11)).toInt32 = Int32.ofInt (11) := by decide
theorem c8_12 : (Int8.ofInt (12)).toInt32 = Int32.ofInt (12) := by decide
theorem c8_13 : (Int8.ofInt (13)).toInt32 = Int32.ofInt (13) := by decide
theorem c8_14 : (Int8.ofInt (14)).toInt32 = Int32.ofInt (14) := by decide
theorem c8_15 : (Int8.ofInt (15)).toInt32 = Int32.ofInt (15) := by decide
theorem c8_16 : (Int8.ofInt (16)).toInt32 = Int32.ofInt (16) := by decide
theorem c8_17 : (Int8.ofInt (17)).toInt32 = Int32.ofInt (17) := by decide
theorem c8_18 : (Int8.ofInt (18)).toInt32 = Int32.ofInt (18) := by decide
theorem c8_19 : (Int8.ofInt (19)).toInt32 = Int32.ofInt (19) := by decide
theorem c8_20 : (Int8.ofInt (20)).toInt32 = Int32.ofInt (20) := by decide
theorem c8_21 : (Int8.ofInt (21)).toInt32 = Int32.ofInt (21) := by decide
theorem c8_22 : (Int8.ofInt (22)).toInt32 = Int32.ofInt (22) := by decide
theorem c8_24 : (Int8.ofInt (24)).toInt32 = Int32.ofInt (24) := by decide
theorem c8_27 : (Int8.ofInt (27)).toInt32 = Int32.ofInt (27) := by decide
theorem c8_28 : (Int8.ofInt (28)).toInt32 = Int32.ofInt (28) := by decide
theorem c8_30 : (Int8.ofInt (30)).toInt32 = Int32.ofInt (30) := by decide
theorem c8_35 : (Int8.ofInt (35)).toInt32 = Int32.ofInt (35) := by decide
theorem c8_36 : (Int8.ofInt (36)).toInt32 = Int32.ofInt (36) := by decide
theorem c8_38 : (Int8.ofInt (38)).toInt32 = Int32.ofInt (38) := by decide
theorem c8_39 : (Int8.ofInt (39)).toInt32 = Int32.ofInt (39) := by decide
theorem c8_40 : (Int8.ofInt (40)).toInt32 = Int32.ofInt (40) := by decide
theorem c8_41 : (Int8.ofInt (41)).toInt32 = Int32.ofInt (41) := by decide
theorem c8_42 : (Int8.ofInt (42)).toInt32 = Int32.ofInt (42) := by decide
theorem c8_44 : (Int8.ofInt (44)).toInt32 = Int32.ofInt (44) := by decide
theorem c8_46 : (Int8.ofInt (46)).toInt32 = Int32.ofInt (46) := by decide
theorem c8_49 : (Int8.ofInt (49)).toInt32 = Int32.ofInt (49) := by decide
theorem c8_50 : (Int8.ofInt (50)).toInt32 = Int32.ofInt (50) := by decide
theorem c8_51 : (Int8.ofInt (51)).toInt32 = Int32.ofInt (51) := by decide
theorem c8_52 : (Int8.ofInt (52)).toInt32 = Int32.ofInt (52) := by decide
theorem c8_56 : (Int8.ofInt (56)).toInt32 = Int32.ofInt (56) := by decide
theorem c8_57 : (Int8.ofInt (57)).toInt32 = Int32.ofInt (57) := by decide
theorem c8_60 : (Int8.ofInt (60)).toInt32 = Int32.ofInt (60) := by decide
theorem c8_61 : (Int8.ofInt (61)).toInt32 = Int32.ofInt (61) := by decide
theorem c8_64 : (Int8.ofInt (64)).toInt32 = Int32.ofInt (64) := by decide
theorem c8_68 : (Int8.ofInt (68)).toInt32 = Int32.ofInt (68) := by decide
theorem c8_81 : (Int8.ofInt (81)).toInt32 = Int32.ofInt (81) := by decide
theorem c8_95 : (Int8.ofInt (95)).toInt32 = Int32.ofInt (95) := by decide
theorem c8_96 : (Int8.ofInt (96)).toInt32 = Int32.ofInt (96) := by decide
theorem c8_99 : (Int8.ofInt (99)).toInt32 = Int32.ofInt (99) := by decide
theorem c8_100 : (Int8.ofInt (100)).toInt32 = Int32.ofInt (100) := by decide
theorem c8_101 : (Int8.ofInt (101)).toInt32 = Int32.ofInt (101) := by decide
theorem c8_102 : (Int8.ofInt (102)).toInt32 = Int32.ofInt (102) := by decide
theorem c8_117 : (Int8.ofInt (117)).toInt32 = Int32.ofInt (117) := by decide
theorem c8_126 : (Int8.ofInt (126)).toInt32 = Int32.ofInt (126) := by decide
theorem c16_162 : (Int16.ofInt (162)).toInt32 = Int32.ofInt (162) := by decide
theorem c16_256 : (Int16.ofInt (256)).toInt32 = Int32.ofInt (256) := by decide
theorem c16_351 : (Int16.ofInt (351)).toInt32 = Int32.ofInt (351) := by decide
theorem c16_400 : (Int16.ofInt (400)).toInt32 = Int32.ofInt (400) := by decide
theorem c16_500 : (Int16.ofInt (500)).toInt32 = Int32.ofInt (500) := by decide
theorem c16_702 : (Int16.ofInt (702)).toInt32 = Int32.ofInt (702) := by decide
theorem c16_911 : (Int16.ofInt (911)).toInt32 = Int32.ofInt (911) := by decide
theorem c16_1000 : (Int16.ofInt (1000)).toInt32 = Int32.ofInt (1000) := by decide
theorem c16_1001 : (Int16.ofInt (1001)).toInt32 = Int32.ofInt (1001) := by decide
theorem c16_1031 : (Int16.ofInt (1031)).toInt32 = Int32.ofInt (1031) := by decide
theorem c16_3000 : (Int16.ofInt (3000)).toInt32 = Int32.ofInt (3000) := by decide
theorem c16_4096 : (Int16.ofInt (4096)).toInt32 = Int32.ofInt (4096) := by decide
theorem c16_5040 : (Int16.ofInt (5040)).toInt32 = Int32.ofInt (5040) := by decide
theorem c16_9999 : (Int16.ofInt (9999)).toInt32 = Int32.ofInt (9999) := by decide
theorem c16_10000 : (Int16.ofInt (10000)).toInt32 = Int32.ofInt (10000) := by decide
set_option maxRecDepth 100000 in
theorem lm_0 : xml 0 = 2 := by decide +kernel
set_option maxRecDepth 100000 in
theorem jl_0 : 0 < xMs.length := by decide +kernel
set_option maxRecDepth 100000 in
theorem mn_0 : xmn 0 = 2 := by decide +kernel
set_option maxRecDepth 100000 in
theorem r_0_3 : xlk xCL (xmo 0) 3 = none := by decide +kernel
set_option maxRecDepth 100000 in
theorem t_0_3 : xlk xOL (xmo 0) 3 = some 354 := by decide +kernel
set_option maxRecDepth 100000 in
theorem e_0_9 : xlk xFL (xmo 0) 9 = some (0, 0, false, 355) := by decide +kernel
set_option maxRecDepth 100000 in
theorem n_0 : (xmy 0).name = "<init>" ∧ xmo 0 = 0 ∧ false = false := by decide +kernel
set_option maxRecDepth 100000 in
theorem e_0_15 : xlk xFL (xmo 0) 15 = some (0, 1, false, 356) := by decide +kernel
set_option maxRecDepth 100000 in
theorem mr_0 : xmr 0 = none := by decide +kernel
set_option maxRecDepth 100000 in
theorem lm_1 : xml 1 = 7 := by decide +kernel
set_option maxRecDepth 100000 in
theorem jl_1 : 1 < xMs.length := by decide +kernel
set_option maxRecDepth 100000 in
theorem mn_1 : xmn 1 = 5 := by decide +kernel
set_option maxRecDepth 100000 in
theorem e_1_15 : xlk xFL (xmo 1) 15 = some (0, 1, false, 356) := by decide +kernel
set_option maxRecDepth 100000 in
theorem mr_1 : xmr 1 = none := by decide +kernel
set_option maxRecDepth 100000 in
theorem lm_2 : xml 2 = 6 := by decide +kernel
set_option maxRecDepth 100000 in
theorem jl_2 : 2 < xMs.length := by decide +kernel
set_option maxRecDepth 100000 in
theorem mn_2 : xmn 2 = 1 := by decide +kernel
set_option maxRecDepth 100000 in
theorem e_2_15 : xlk xFL (xmo 2) 15 = some (0, 1, false, 356) := by decide +kernel
set_option maxRecDepth 100000 in
theorem mr_2 : xmr 2 = some .int := by decide +kernel
set_option maxRecDepth 100000 in
theorem lm_3 : xml 3 = 3 := by decide +kernel
set_option maxRecDepth 100000 in
theorem jl_3 : 3 < xMs.length := by decide +kernel
set_option maxRecDepth 100000 in
theorem mn_3 : xmn 3 = 3 := by decide +kernel
set_option maxRecDepth 100000 in
theorem h_3_19 : xlk xCL (xmo 3) 19 = some (8, 0, 387, 388, 0) := by decide +kernel
set_option maxRecDepth 100000 in
theorem mn_8 : xmn 8 = 2 := by decide +kernel
set_option maxRecDepth 100000 in
theorem e_3_9 : xlk xFL (xmo 3) 9 = some (0, 0, false, 355) := by decide +kernel
set_option maxRecDepth 100000 in
theorem mr_3 : xmr 3 = some .int := by decide +kernel
set_option maxRecDepth 100000 in
theorem lm_4 : xml 4 = 6 := by decide +kernel
set_option maxRecDepth 100000 in
theorem jl_4 : 4 < xMs.length := by decide +kernel
set_option maxRecDepth 100000 in
theorem mn_4 : xmn 4 = 6 := by decide +kernel
set_option maxRecDepth 100000 in
theorem h_4_19 : xlk xCL (xmo 4) 19 = some (8, 0, 387, 388, 0) := by decide +kernel
set_option maxRecDepth 100000 in
theorem h_4_23 : xlk xCL (xmo 4) 23 = some (7, 1, 390, 392, 9) := by decide +kernel
set_option maxRecDepth 100000 in
theorem mn_7 : xmn 7 = 5 := by decide +kernel
set_option maxRecDepth 100000 in
theorem mo_7 : xmo 7 = 0 := by decide +kernel
set_option maxRecDepth 100000 in
theorem mr_4 : xmr 4 = some .boolean := by decide +kernel
set_option maxRecDepth 100000 in
theorem lm_5 : xml 5 = 11 := by decide +kernel
set_option maxRecDepth 100000 in
theorem jl_5 : 5 < xMs.length := by decide +kernel
set_option maxRecDepth 100000 in
theorem mn_5 : xmn 5 = 5 := by decide +kernel
set_option maxRecDepth 100000 in
theorem h_5_27 : xlk xCL (xmo 5) 27 = some (9, 0, 468, 469, 0) := by decide +kernel
set_option maxRecDepth 100000 in
theorem mn_9 : xmn 9 = 3 := by decide +kernel
set_option maxRecDepth 100000 in
theorem h_5_31 : xlk xCL (xmo 5) 31 = some (3, 1, 471, 398, 399) := by decide +kernel
set_option maxRecDepth 100000 in
theorem mo_3 : xmo 3 = 0 := by decide +kernel
set_option maxRecDepth 100000 in
theorem h_5_35 : xlk xCL (xmo 5) 35 = some (6, 1, 472, 474, 10) := by decide +kernel
set_option maxRecDepth 100000 in
theorem mn_6 : xmn 6 = 5 := by decide +kernel
set_option maxRecDepth 100000 in
theorem mo_6 : xmo 6 = 0 := by decide +kernel
set_option maxRecDepth 100000 in
theorem mr_5 : xmr 5 = some .int := by decide +kernel
set_option maxRecDepth 100000 in
theorem lm_6 : xml 6 = 6 := by decide +kernel
set_option maxRecDepth 100000 in
theorem jl_6 : 6 < xMs.length := by decide +kernel
set_option maxRecDepth 100000 in
theorem h_6_39 : xlk xCL (xmo 6) 39 = some (4, 1, 476, 384, 385) := by decide +kernel
set_option maxRecDepth 100000 in
theorem mo_4 : xmo 4 = 0 := by decide +kernel
set_option maxRecDepth 100000 in
theorem mr_6 : xmr 6 = some .int := by decide +kernel
set_option maxRecDepth 100000 in
theorem lm_7 : xml 7 = 7 := by decide +kernel
set_option maxRecDepth 100000 in
theorem jl_7 : 7 < xMs.length := by decide +kernel
set_option maxRecDepth 100000 in
theorem e_7_15 : xlk xFL (xmo 7) 15 = some (0, 1, false, 356) := by decide +kernel
set_option maxRecDepth 100000 in
theorem mr_7 : xmr 7 = some .boolean := by decide +kernel
set_option maxRecDepth 100000 in
theorem lm_8 : xml 8 = 2 := by decide +kernel
set_option maxRecDepth 100000 in
theorem jl_8 : 8 < xMs.length := by decide +kernel
set_option maxRecDepth 100000 in
theorem mr_8 : xmr 8 = some .boolean := by decide +kernel
set_option maxRecDepth 100000 in
theorem lm_9 : xml 9 = 6 := by decide +kernel
set_option maxRecDepth 100000 in
theorem jl_9 : 9 < xMs.length := by decide +kernel
set_option maxRecDepth 100000 in
theorem mr_9 : xmr 9 = some .int := by decide +kernel
set_option maxRecDepth 100000 in
theorem lm_10 : xml 10 = 1 := by decide +kernel
set_option maxRecDepth 100000 in
theorem jl_10 : 10 < xMs.length := by decide +kernel
set_option maxRecDepth 100000 in
theorem mn_10 : xmn 10 = 1 := by decide +kernel
set_option maxRecDepth 100000 in
theorem r_10_3 : xlk xCL (xmo 10) 3 = none := by decide +kernel
set_option maxRecDepth 100000 in
theorem t_10_3 : xlk xOL (xmo 10) 3 = some 82 := by decide +kernel
set_option maxRecDepth 100000 in
theorem e_10_9 : xlk xFL (xmo 10) 9 = some (2, 0, false, 83) := by decide +kernel
set_option maxRecDepth 100000 in
theorem n_10 : (xmy 10).name = "<init>" ∧ xmo 10 = 2 ∧ false = false := by decide +kernel
set_option maxRecDepth 100000 in
theorem e_10_15 : xlk xFL (xmo 10) 15 = some (2, 1, false, 86) := by decide +kernel
set_option maxRecDepth 100000 in
theorem e_10_18 : xlk xFL (xmo 10) 18 = some (2, 2, false, 88) := by decide +kernel
set_option maxRecDepth 100000 in
theorem mr_10 : xmr 10 = none := by decide +kernel
set_option maxRecDepth 100000 in
theorem lm_11 : xml 11 = 5 := by decide +kernel
set_option maxRecDepth 100000 in
theorem jl_11 : 11 < xMs.length := by decide +kernel
set_option maxRecDepth 100000 in
theorem mn_11 : xmn 11 = 1 := by decide +kernel
set_option maxRecDepth 100000 in
theorem e_11_15 : xlk xFL (xmo 11) 15 = some (2, 1, false, 86) := by decide +kernel
set_option maxRecDepth 100000 in
theorem mr_11 : xmr 11 = some .boolean := by decide +kernel
set_option maxRecDepth 100000 in
theorem lm_12 : xml 12 = 3 := by decide +kernel
set_option maxRecDepth 100000 in
theorem jl_12 : 12 < xMs.length := by decide +kernel
set_option maxRecDepth 100000 in
theorem mn_12 : xmn 12 = 2 := by decide +kernel
set_option maxRecDepth 100000 in
theorem e_12_15 : xlk xFL (xmo 12) 15 = some (2, 1, false, 86) := by decide +kernel
set_option maxRecDepth 100000 in
theorem h_12_21 : xlk xCL (xmo 12) 21 = some (158, 0, 638, 313, 0) := by decide +kernel
set_option maxRecDepth 100000 in
theorem mn_158 : xmn 158 = 2 := by decide +kernel
set_option maxRecDepth 100000 in
theorem mr_12 : xmr 12 = none := by decide +kernel
set_option maxRecDepth 100000 in
theorem lm_13 : xml 13 = 5 := by decide +kernel
set_option maxRecDepth 100000 in
theorem jl_13 : 13 < xMs.length := by decide +kernel
set_option maxRecDepth 100000 in
theorem mn_13 : xmn 13 = 5 := by decide +kernel
set_option maxRecDepth 100000 in
theorem e_13_18 : xlk xFL (xmo 13) 18 = some (2, 2, false, 88) := by decide +kernel
set_option maxRecDepth 100000 in
theorem mr_13 : xmr 13 = none := by decide +kernel
set_option maxRecDepth 100000 in
theorem lm_14 : xml 14 = 4 := by decide +kernel
set_option maxRecDepth 100000 in
theorem jl_14 : 14 < xMs.length := by decide +kernel
set_option maxRecDepth 100000 in
theorem mn_14 : xmn 14 = 4 := by decide +kernel
set_option maxRecDepth 100000 in
theorem e_14_18 : xlk xFL (xmo 14) 18 = some (2, 2, false, 88) := by decide +kernel
set_option maxRecDepth 100000 in
theorem mr_14 : xmr 14 = some .int := by decide +kernel
set_option maxRecDepth 100000 in
theorem lm_15 : xml 15 = 6 := by decide +kernel
set_option maxRecDepth 100000 in
theorem jl_15 : 15 < xMs.length := by decide +kernel
set_option maxRecDepth 100000 in
theorem mn_15 : xmn 15 = 6 := by decide +kernel
set_option maxRecDepth 100000 in
theorem r_15_3 : xlk xCL (xmo 15) 3 = none := by decide +kernel
set_option maxRecDepth 100000 in
theorem t_15_3 : xlk xOL (xmo 15) 3 = some 404 := by decide +kernel
set_option maxRecDepth 100000 in
theorem e_15_9 : xlk xFL (xmo 15) 9 = some (1, 0, false, 405) := by decide +kernel
set_option maxRecDepth 100000 in
theorem n_15 : (xmy 15).name = "<init>" ∧ xmo 15 = 1 ∧ false = false := by decide +kernel
set_option maxRecDepth 100000 in
theorem e_15_15 : xlk xFL (xmo 15) 15 = some (1, 1, false, 407) := by decide +kernel
set_option maxRecDepth 100000 in
theorem e_15_18 : xlk xFL (xmo 15) 18 = some (1, 2, false, 409) := by decide +kernel
set_option maxRecDepth 100000 in
theorem e_15_21 : xlk xFL (xmo 15) 21 = some (1, 5, false, 414) := by decide +kernel
set_option maxRecDepth 100000 in
theorem e_15_24 : xlk xFL (xmo 15) 24 = some (1, 3, false, 411) := by decide +kernel
set_option maxRecDepth 100000 in
theorem e_15_28 : xlk xFL (xmo 15) 28 = some (1, 4, false, 413) := by decide +kernel
set_option maxRecDepth 100000 in
theorem e_15_32 : xlk xFL (xmo 15) 32 = some (1, 9, false, 422) := by decide +kernel
set_option maxRecDepth 100000 in
theorem e_15_35 : xlk xFL (xmo 15) 35 = some (1, 10, false, 425) := by decide +kernel
set_option maxRecDepth 100000 in
theorem e_15_38 : xlk xFL (xmo 15) 38 = some (1, 11, false, 428) := by decide +kernel
set_option maxRecDepth 100000 in
theorem mr_15 : xmr 15 = none := by decide +kernel
set_option maxRecDepth 100000 in
theorem lm_16 : xml 16 = 2 := by decide +kernel
set_option maxRecDepth 100000 in
theorem jl_16 : 16 < xMs.length := by decide +kernel
set_option maxRecDepth 100000 in
theorem mn_16 : xmn 16 = 2 := by decide +kernel
set_option maxRecDepth 100000 in
theorem e_16_28 : xlk xFL (xmo 16) 28 = some (1, 4, false, 413) := by decide +kernel
set_option maxRecDepth 100000 in
theorem mr_16 : xmr 16 = some .boolean := by decide +kernel
set_option maxRecDepth 100000 in
theorem lm_17 : xml 17 = 4 := by decide +kernel
set_option maxRecDepth 100000 in
theorem jl_17 : 17 < xMs.length := by decide +kernel
set_option maxRecDepth 100000 in
theorem mn_17 : xmn 17 = 2 := by decide +kernel
set_option maxRecDepth 100000 in
theorem e_17_28 : xlk xFL (xmo 17) 28 = some (1, 4, false, 413) := by decide +kernel
set_option maxRecDepth 100000 in
theorem e_17_41 : xlk xFL (xmo 17) 41 = some (1, 6, false, 416) := by decide +kernel
set_option maxRecDepth 100000 in
theorem mr_17 : xmr 17 = some .int := by decide +kernel
set_option maxRecDepth 100000 in
theorem lm_18 : xml 18 = 4 := by decide +kernel
set_option maxRecDepth 100000 in
theorem jl_18 : 18 < xMs.length := by decide +kernel
set_option maxRecDepth 100000 in
theorem mn_18 : xmn 18 = 2 := by decide +kernel
set_option maxRecDepth 100000 in
theorem e_18_28 : xlk xFL (xmo 18) 28 = some (1, 4, false, 413) := by decide +kernel
set_option maxRecDepth 100000 in
theorem mr_18 : xmr 18 = some .int := by decide +kernel
set_option maxRecDepth 100000 in
theorem lm_19 : xml 19 = 3 := by decide +kernel
set_option maxRecDepth 100000 in
theorem jl_19 : 19 < xMs.length := by decide +kernel
set_option maxRecDepth 100000 in
theorem mn_19 : xmn 19 = 1 := by decide +kernel
set_option maxRecDepth 100000 in
theorem e_19_15 : xlk xFL (xmo 19) 15 = some (1, 1, false, 407) := by decide +kernel
set_option maxRecDepth 100000 in
theorem e_19_21 : xlk xFL (xmo 19) 21 = some (1, 5, false, 414) := by decide +kernel
set_option maxRecDepth 100000 in
theorem e_19_41 : xlk xFL (xmo 19) 41 = some (1, 6, false, 416) := by decide +kernel
set_option maxRecDepth 100000 in
theorem e_19_44 : xlk xFL (xmo 19) 44 = some (1, 7, false, 418) := by decide +kernel
set_option maxRecDepth 100000 in
theorem h_19_47 : xlk xCL (xmo 19) 47 = some (158, 0, 312, 313, 0) := by decide +kernel
set_option maxRecDepth 100000 in
theorem mr_19 : xmr 19 = some .int := by decide +kernel
set_option maxRecDepth 100000 in
theorem lm_20 : xml 20 = 1 := by decide +kernel
set_option maxRecDepth 100000 in
theorem jl_20 : 20 < xMs.length := by decide +kernel
set_option maxRecDepth 100000 in
theorem mn_20 : xmn 20 = 1 := by decide +kernel
set_option maxRecDepth 100000 in
theorem e_20_38 : xlk xFL (xmo 20) 38 = some (1, 11, false, 428) := by decide +kernel
set_option maxRecDepth 100000 in
theorem mr_20 : xmr 20 = some .boolean := by decide +kernel
set_option maxRecDepth 100000 in
theorem lm_21 : xml 21 = 1 := by decide +kernel
set_option maxRecDepth 100000 in
theorem jl_21 : 21 < xMs.length := by decide +kernel
set_option maxRecDepth 100000 in
theorem mn_21 : xmn 21 = 1 := by decide +kernel
set_option maxRecDepth 100000 in
theorem e_21_53 : xlk xFL (xmo 21) 53 = some (1, 8, false, 421) := by decide +kernel
set_option maxRecDepth 100000 in
theorem h_21_56 : xlk xCL (xmo 21) 56 = some (20, 1, 564, 261, 262) := by decide +kernel
set_option maxRecDepth 100000 in
theorem mo_20 : xmo 20 = 1 := by decide +kernel
set_option maxRecDepth 100000 in
theorem e_21_60 : xlk xFL (xmo 21) 60 = some (1, 12, false, 431) := by decide +kernel
set_option maxRecDepth 100000 in
theorem mr_21 : xmr 21 = some .boolean := by decide +kernel
set_option maxRecDepth 100000 in
theorem lm_22 : xml 22 = 1 := by decide +kernel
set_option maxRecDepth 100000 in
theorem jl_22 : 22 < xMs.length := by decide +kernel
set_option maxRecDepth 100000 in
theorem mn_22 : xmn 22 = 1 := by decide +kernel
set_option maxRecDepth 100000 in
theorem e_22_32 : xlk xFL (xmo 22) 32 = some (1, 9, false, 422) := by decide +kernel
set_option maxRecDepth 100000 in
theorem e_22_35 : xlk xFL (xmo 22) 35 = some (1, 10, false, 425) := by decide +kernel
set_option maxRecDepth 100000 in
theorem e_22_38 : xlk xFL (xmo 22) 38 = some (1, 11, false, 428) := by decide +kernel
set_option maxRecDepth 100000 in
theorem mr_22 : xmr 22 = none := by decide +kernel
set_option maxRecDepth 100000 in
theorem lm_23 : xml 23 = 1 := by decide +kernel
set_option maxRecDepth 100000 in
theorem jl_23 : 23 < xMs.length := by decide +kernel
set_option maxRecDepth 100000 in
theorem mn_23 : xmn 23 = 1 := by decide +kernel
set_option maxRecDepth 100000 in
theorem e_23_60 : xlk xFL (xmo 23) 60 = some (1, 12, false, 431) := by decide +kernel
set_option maxRecDepth 100000 in
theorem h_23_63 : xlk xCL (xmo 23) 63 = some (22, 1, 547, 523, 524) := by decide +kernel
set_option maxRecDepth 100000 in
theorem mo_22 : xmo 22 = 1 := by decide +kernel
set_option maxRecDepth 100000 in
theorem mr_23 : xmr 23 = none := by decide +kernel
set_option maxRecDepth 100000 in
theorem lm_24 : xml 24 = 1 := by decide +kernel
set_option maxRecDepth 100000 in
theorem jl_24 : 24 < xMs.length := by decide +kernel
set_option maxRecDepth 100000 in
theorem mn_24 : xmn 24 = 1 := by decide +kernel
set_option maxRecDepth 100000 in
theorem r_24_3 : xlk xCL (xmo 24) 3 = none := by decide +kernel
set_option maxRecDepth 100000 in
theorem t_24_3 : xlk xOL (xmo 24) 3 = some 54 := by decide +kernel
set_option maxRecDepth 100000 in
theorem e_24_9 : xlk xFL (xmo 24) 9 = some (4, 0, false, 55) := by decide +kernel
set_option maxRecDepth 100000 in
theorem n_24 : (xmy 24).name = "<init>" ∧ xmo 24 = 4 ∧ false = false := by decide +kernel
set_option maxRecDepth 100000 in
theorem e_24_15 : xlk xFL (xmo 24) 15 = some (4, 1, false, 56) := by decide +kernel
set_option maxRecDepth 100000 in
theorem e_24_18 : xlk xFL (xmo 24) 18 = some (4, 2, false, 57) := by decide +kernel
set_option maxRecDepth 100000 in
theorem e_24_22 : xlk xFL (xmo 24) 22 = some (4, 3, false, 58) := by decide +kernel
set_option maxRecDepth 100000 in
theorem e_24_25 : xlk xFL (xmo 24) 25 = some (4, 4, false, 59) := by decide +kernel
set_option maxRecDepth 100000 in
theorem mr_24 : xmr 24 = none := by decide +kernel
set_option maxRecDepth 100000 in
theorem lm_25 : xml 25 = 8 := by decide +kernel
set_option maxRecDepth 100000 in
theorem jl_25 : 25 < xMs.length := by decide +kernel
set_option maxRecDepth 100000 in
theorem mn_25 : xmn 25 = 4 := by decide +kernel
set_option maxRecDepth 100000 in
theorem h_25_28 : xlk xCL (xmo 25) 28 = some (32, 1, 256, 258, 1) := by decide +kernel
set_option maxRecDepth 100000 in
theorem mn_32 : xmn 32 = 1 := by decide +kernel
set_option maxRecDepth 100000 in
theorem mo_32 : xmo 32 = 4 := by decide +kernel
set_option maxRecDepth 100000 in
theorem h_25_31 : xlk xCL (xmo 25) 31 = some (20, 1, 260, 261, 262) := by decide +kernel
set_option maxRecDepth 100000 in
theorem e_25_37 : xlk xFL (xmo 25) 37 = some (1, 9, true, 423) := by decide +kernel
set_option maxRecDepth 100000 in
theorem e_25_41 : xlk xFL (xmo 25) 41 = some (1, 10, true, 426) := by decide +kernel
set_option maxRecDepth 100000 in
theorem h_25_44 : xlk xCL (xmo 25) 44 = some (31, 0, 264, 265, 0) := by decide +kernel
set_option maxRecDepth 100000 in
theorem mn_31 : xmn 31 = 2 := by decide +kernel
set_option maxRecDepth 100000 in
theorem e_25_48 : xlk xFL (xmo 25) 48 = some (1, 11, true, 429) := by decide +kernel
set_option maxRecDepth 100000 in
theorem h_25_51 : xlk xCL (xmo 25) 51 = some (33, 1, 267, 269, 2) := by decide +kernel
set_option maxRecDepth 100000 in
theorem mn_33 : xmn 33 = 3 := by decide +kernel
set_option maxRecDepth 100000 in
theorem mo_33 : xmo 33 = 4 := by decide +kernel
set_option maxRecDepth 100000 in
theorem h_25_55 : xlk xCL (xmo 25) 55 = some (34, 1, 271, 273, 3) := by decide +kernel
set_option maxRecDepth 100000 in
theorem mn_34 : xmn 34 = 2 := by decide +kernel
set_option maxRecDepth 100000 in
theorem mo_34 : xmo 34 = 4 := by decide +kernel
set_option maxRecDepth 100000 in
theorem h_25_59 : xlk xCL (xmo 25) 59 = some (37, 1, 287, 289, 6) := by decide +kernel
set_option maxRecDepth 100000 in
theorem mn_37 : xmn 37 = 3 := by decide +kernel
set_option maxRecDepth 100000 in
theorem mo_37 : xmo 37 = 4 := by decide +kernel
set_option maxRecDepth 100000 in
theorem mr_25 : xmr 25 = none := by decide +kernel
set_option maxRecDepth 100000 in
theorem lm_26 : xml 26 = 1 := by decide +kernel
set_option maxRecDepth 100000 in
theorem jl_26 : 26 < xMs.length := by decide +kernel
set_option maxRecDepth 100000 in
theorem mn_26 : xmn 26 = 1 := by decide +kernel
set_option maxRecDepth 100000 in
theorem e_26_62 : xlk xFL (xmo 26) 62 = some (4, 5, false, 60) := by decide +kernel
set_option maxRecDepth 100000 in
theorem mr_26 : xmr 26 = some .boolean := by decide +kernel
set_option maxRecDepth 100000 in
theorem lm_27 : xml 27 = 2 := by decide +kernel
set_option maxRecDepth 100000 in
theorem jl_27 : 27 < xMs.length := by decide +kernel
set_option maxRecDepth 100000 in
theorem mn_27 : xmn 27 = 2 := by decide +kernel
set_option maxRecDepth 100000 in
theorem e_27_62 : xlk xFL (xmo 27) 62 = some (4, 5, false, 60) := by decide +kernel
set_option maxRecDepth 100000 in
theorem e_27_25 : xlk xFL (xmo 27) 25 = some (4, 4, false, 59) := by decide +kernel
set_option maxRecDepth 100000 in
theorem mr_27 : xmr 27 = some .int := by decide +kernel
set_option maxRecDepth 100000 in
theorem lm_28 : xml 28 = 3 := by decide +kernel
set_option maxRecDepth 100000 in
theorem jl_28 : 28 < xMs.length := by decide +kernel
set_option maxRecDepth 100000 in
theorem mn_28 : xmn 28 = 2 := by decide +kernel
set_option maxRecDepth 100000 in
theorem h_28_31 : xlk xCL (xmo 28) 31 = some (20, 1, 260, 261, 262) := by decide +kernel
set_option maxRecDepth 100000 in
theorem mr_28 : xmr 28 = some .boolean := by decide +kernel
set_option maxRecDepth 100000 in
theorem e_28_37 : xlk xFL (xmo 28) 37 = some (1, 9, true, 423) := by decide +kernel
set_option maxRecDepth 100000 in
theorem e_28_41 : xlk xFL (xmo 28) 41 = some (1, 10, true, 426) := by decide +kernel
set_option maxRecDepth 100000 in
theorem h_28_44 : xlk xCL (xmo 28) 44 = some (31, 0, 264, 265, 0) := by decide +kernel
set_option maxRecDepth 100000 in
theorem e_28_18 : xlk xFL (xmo 28) 18 = some (4, 2, false, 57) := by decide +kernel
set_option maxRecDepth 100000 in
theorem e_28_48 : xlk xFL (xmo 28) 48 = some (1, 11, true, 429) := by decide +kernel
set_option maxRecDepth 100000 in
theorem e_28_9 : xlk xFL (xmo 28) 9 = some (4, 0, false, 55) := by decide +kernel
set_option maxRecDepth 100000 in
theorem lm_29 : xml 29 = 4 := by decide +kernel
set_option maxRecDepth 100000 in
theorem jl_29 : 29 < xMs.length := by decide +kernel
set_option maxRecDepth 100000 in
theorem mn_29 : xmn 29 = 3 := by decide +kernel
set_option maxRecDepth 100000 in
theorem h_29_65 : xlk xCL (xmo 29) 65 = some (28, 1, 307, 300, 301) := by decide +kernel
set_option maxRecDepth 100000 in
theorem mo_28 : xmo 28 = 4 := by decide +kernel
set_option maxRecDepth 100000 in
theorem e_29_15 : xlk xFL (xmo 29) 15 = some (4, 1, false, 56) := by decide +kernel
set_option maxRecDepth 100000 in
theorem e_29_37 : xlk xFL (xmo 29) 37 = some (1, 9, true, 423) := by decide +kernel
set_option maxRecDepth 100000 in
theorem e_29_41 : xlk xFL (xmo 29) 41 = some (1, 10, true, 426) := by decide +kernel
set_option maxRecDepth 100000 in
theorem h_29_44 : xlk xCL (xmo 29) 44 = some (31, 0, 264, 265, 0) := by decide +kernel
set_option maxRecDepth 100000 in
theorem mr_29 : xmr 29 = some .int := by decide +kernel
set_option maxRecDepth 100000 in
theorem lm_30 : xml 30 = 3 := by decide +kernel
set_option maxRecDepth 100000 in
theorem jl_30 : 30 < xMs.length := by decide +kernel
set_option maxRecDepth 100000 in
theorem mn_30 : xmn 30 = 2 := by decide +kernel
set_option maxRecDepth 100000 in
theorem h_30_65 : xlk xCL (xmo 30) 65 = some (28, 1, 307, 300, 301) := by decide +kernel
set_option maxRecDepth 100000 in
theorem e_30_15 : xlk xFL (xmo 30) 15 = some (4, 1, false, 56) := by decide +kernel
set_option maxRecDepth 100000 in
theorem e_30_37 : xlk xFL (xmo 30) 37 = some (1, 9, true, 423) := by decide +kernel
set_option maxRecDepth 100000 in
theorem e_30_41 : xlk xFL (xmo 30) 41 = some (1, 10, true, 426) := by decide +kernel
set_option maxRecDepth 100000 in
theorem h_30_44 : xlk xCL (xmo 30) 44 = some (31, 0, 264, 265, 0) := by decide +kernel
set_option maxRecDepth 100000 in
theorem h_30_69 : xlk xCL (xmo 30) 69 = some (19, 1, 308, 309, 310) := by decide +kernel
set_option maxRecDepth 100000 in
theorem mo_19 : xmo 19 = 1 := by decide +kernel
set_option maxRecDepth 100000 in
theorem mr_30 : xmr 30 = some .int := by decide +kernel
set_option maxRecDepth 100000 in
theorem lm_31 : xml 31 = 2 := by decide +kernel
set_option maxRecDepth 100000 in
theorem jl_31 : 31 < xMs.length := by decide +kernel
set_option maxRecDepth 100000 in
theorem mr_31 : xmr 31 = some .int := by decide +kernel
set_option maxRecDepth 100000 in
theorem lm_32 : xml 32 = 2 := by decide +kernel
set_option maxRecDepth 100000 in
theorem jl_32 : 32 < xMs.length := by decide +kernel
set_option maxRecDepth 100000 in
theorem e_32_9 : xlk xFL (xmo 32) 9 = some (4, 0, false, 55) := by decide +kernel
set_option maxRecDepth 100000 in
theorem e_32_15 : xlk xFL (xmo 32) 15 = some (4, 1, false, 56) := by decide +kernel
set_option maxRecDepth 100000 in
theorem e_32_18 : xlk xFL (xmo 32) 18 = some (4, 2, false, 57) := by decide +kernel
set_option maxRecDepth 100000 in
theorem e_32_62 : xlk xFL (xmo 32) 62 = some (4, 5, false, 60) := by decide +kernel
set_option maxRecDepth 100000 in
theorem mr_32 : xmr 32 = none := by decide +kernel
set_option maxRecDepth 100000 in
theorem lm_33 : xml 33 = 3 := by decide +kernel
set_option maxRecDepth 100000 in
theorem jl_33 : 33 < xMs.length := by decide +kernel
set_option maxRecDepth 100000 in
theorem e_33_9 : xlk xFL (xmo 33) 9 = some (4, 0, false, 55) := by decide +kernel
set_option maxRecDepth 100000 in
theorem e_33_15 : xlk xFL (xmo 33) 15 = some (4, 1, false, 56) := by decide +kernel
set_option maxRecDepth 100000 in
theorem mr_33 : xmr 33 = none := by decide +kernel
set_option maxRecDepth 100000 in
theorem lm_34 : xml 34 = 6 := by decide +kernel
set_option maxRecDepth 100000 in
theorem jl_34 : 34 < xMs.length := by decide +kernel
set_option maxRecDepth 100000 in
theorem e_34_22 : xlk xFL (xmo 34) 22 = some (4, 3, false, 58) := by decide +kernel
set_option maxRecDepth 100000 in
theorem k_34_73 : xlk xIC (xmo 34) 73 = some ((1000000 : Int32), 275) := by decide +kernel
set_option maxRecDepth 100000 in
theorem h_34_74 : xlk xCL (xmo 34) 74 = some (35, 1, 276, 278, 4) := by decide +kernel
set_option maxRecDepth 100000 in
theorem mn_35 : xmn 35 = 2 := by decide +kernel
set_option maxRecDepth 100000 in
theorem mo_35 : xmo 35 = 4 := by decide +kernel
set_option maxRecDepth 100000 in
theorem mr_34 : xmr 34 = none := by decide +kernel
set_option maxRecDepth 100000 in
theorem lm_35 : xml 35 = 4 := by decide +kernel
set_option maxRecDepth 100000 in
theorem jl_35 : 35 < xMs.length := by decide +kernel
set_option maxRecDepth 100000 in
theorem k_35_73 : xlk xIC (xmo 35) 73 = some ((1000000 : Int32), 275) := by decide +kernel
set_option maxRecDepth 100000 in
theorem h_35_78 : xlk xCL (xmo 35) 78 = some (36, 1, 280, 282, 5) := by decide +kernel
set_option maxRecDepth 100000 in
theorem mn_36 : xmn 36 = 3 := by decide +kernel
set_option maxRecDepth 100000 in
theorem mo_36 : xmo 36 = 4 := by decide +kernel
set_option maxRecDepth 100000 in
theorem h_35_81 : xlk xCL (xmo 35) 81 = some (159, 0, 284, 285, 0) := by decide +kernel
set_option maxRecDepth 100000 in
theorem mn_159 : xmn 159 = 2 := by decide +kernel
set_option maxRecDepth 100000 in
theorem mr_35 : xmr 35 = some .int := by decide +kernel
set_option maxRecDepth 100000 in
theorem lm_36 : xml 36 = 4 := by decide +kernel
set_option maxRecDepth 100000 in
theorem jl_36 : 36 < xMs.length := by decide +kernel
set_option maxRecDepth 100000 in
theorem e_36_9 : xlk xFL (xmo 36) 9 = some (4, 0, false, 55) := by decide +kernel
set_option maxRecDepth 100000 in
theorem h_36_44 : xlk xCL (xmo 36) 44 = some (31, 0, 264, 265, 0) := by decide +kernel
set_option maxRecDepth 100000 in
theorem e_36_22 : xlk xFL (xmo 36) 22 = some (4, 3, false, 58) := by decide +kernel
set_option maxRecDepth 100000 in
theorem k_36_73 : xlk xIC (xmo 36) 73 = some ((1000000 : Int32), 275) := by decide +kernel
set_option maxRecDepth 100000 in
theorem mr_36 : xmr 36 = some .int := by decide +kernel
set_option maxRecDepth 100000 in
theorem lm_37 : xml 37 = 6 := by decide +kernel
set_option maxRecDepth 100000 in
theorem jl_37 : 37 < xMs.length := by decide +kernel
set_option maxRecDepth 100000 in
theorem e_37_22 : xlk xFL (xmo 37) 22 = some (4, 3, false, 58) := by decide +kernel
set_option maxRecDepth 100000 in
theorem k_37_73 : xlk xIC (xmo 37) 73 = some ((1000000 : Int32), 275) := by decide +kernel
set_option maxRecDepth 100000 in
theorem mr_37 : xmr 37 = none := by decide +kernel
set_option maxRecDepth 100000 in
theorem e_37_25 : xlk xFL (xmo 37) 25 = some (4, 4, false, 59) := by decide +kernel
set_option maxRecDepth 100000 in
theorem e_37_62 : xlk xFL (xmo 37) 62 = some (4, 5, false, 60) := by decide +kernel
set_option maxRecDepth 100000 in
theorem h_37_86 : xlk xCL (xmo 37) 86 = some (38, 1, 291, 293, 7) := by decide +kernel
set_option maxRecDepth 100000 in
theorem mn_38 : xmn 38 = 2 := by decide +kernel
set_option maxRecDepth 100000 in
theorem mo_38 : xmo 38 = 4 := by decide +kernel
set_option maxRecDepth 100000 in
theorem e_37_18 : xlk xFL (xmo 37) 18 = some (4, 2, false, 57) := by decide +kernel
set_option maxRecDepth 100000 in
theorem h_37_44 : xlk xCL (xmo 37) 44 = some (31, 0, 264, 265, 0) := by decide +kernel
set_option maxRecDepth 100000 in
theorem lm_38 : xml 38 = 3 := by decide +kernel
set_option maxRecDepth 100000 in
theorem jl_38 : 38 < xMs.length := by decide +kernel
set_option maxRecDepth 100000 in
theorem h_38_78 : xlk xCL (xmo 38) 78 = some (36, 1, 280, 282, 5) := by decide +kernel
set_option maxRecDepth 100000 in
theorem e_38_22 : xlk xFL (xmo 38) 22 = some (4, 3, false, 58) := by decide +kernel
set_option maxRecDepth 100000 in
theorem mr_38 : xmr 38 = some .int := by decide +kernel
set_option maxRecDepth 100000 in
theorem lm_39 : xml 39 = 1 := by decide +kernel
set_option maxRecDepth 100000 in
theorem jl_39 : 39 < xMs.length := by decide +kernel
set_option maxRecDepth 100000 in
theorem mn_39 : xmn 39 = 1 := by decide +kernel
set_option maxRecDepth 100000 in
theorem r_39_3 : xlk xCL (xmo 39) 3 = none := by decide +kernel
set_option maxRecDepth 100000 in
theorem t_39_3 : xlk xOL (xmo 39) 3 = some 102 := by decide +kernel
set_option maxRecDepth 100000 in
theorem e_39_9 : xlk xFL (xmo 39) 9 = some (3, 0, false, 103) := by decide +kernel
set_option maxRecDepth 100000 in
theorem n_39 : (xmy 39).name = "<init>" ∧ xmo 39 = 3 ∧ false = false := by decide +kernel
set_option maxRecDepth 100000 in
theorem e_39_15 : xlk xFL (xmo 39) 15 = some (3, 1, false, 106) := by decide +kernel
set_option maxRecDepth 100000 in
theorem mr_39 : xmr 39 = none := by decide +kernel
set_option maxRecDepth 100000 in
theorem lm_40 : xml 40 = 1 := by decide +kernel
set_option maxRecDepth 100000 in
theorem jl_40 : 40 < xMs.length := by decide +kernel
set_option maxRecDepth 100000 in
theorem mn_40 : xmn 40 = 1 := by decide +kernel
set_option maxRecDepth 100000 in
theorem r_40_3 : xlk xCL (xmo 40) 3 = none := by decide +kernel
set_option maxRecDepth 100000 in
theorem t_40_3 : xlk xOL (xmo 40) 3 = some 119 := by decide +kernel
set_option maxRecDepth 100000 in
theorem e_40_9 : xlk xFL (xmo 40) 9 = some (5, 0, false, 120) := by decide +kernel
set_option maxRecDepth 100000 in
theorem n_40 : (xmy 40).name = "<init>" ∧ xmo 40 = 5 ∧ false = false := by decide +kernel
set_option maxRecDepth 100000 in
theorem e_40_15 : xlk xFL (xmo 40) 15 = some (5, 1, false, 121) := by decide +kernel
set_option maxRecDepth 100000 in
theorem mr_40 : xmr 40 = none := by decide +kernel
set_option maxRecDepth 100000 in
theorem lm_41 : xml 41 = 4 := by decide +kernel
set_option maxRecDepth 100000 in
theorem jl_41 : 41 < xMs.length := by decide +kernel
set_option maxRecDepth 100000 in
theorem mn_41 : xmn 41 = 3 := by decide +kernel
set_option maxRecDepth 100000 in
theorem e_41_9 : xlk xFL (xmo 41) 9 = some (5, 0, false, 120) := by decide +kernel
set_option maxRecDepth 100000 in
theorem e_41_18 : xlk xFL (xmo 41) 18 = some (3, 0, true, 104) := by decide +kernel
set_option maxRecDepth 100000 in
theorem e_41_23 : xlk xFL (xmo 41) 23 = some (3, 1, true, 107) := by decide +kernel
set_option maxRecDepth 100000 in
theorem e_41_26 : xlk xFL (xmo 41) 26 = some (2, 0, true, 84) := by decide +kernel
set_option maxRecDepth 100000 in
theorem mr_41 : xmr 41 = none := by decide +kernel
set_option maxRecDepth 100000 in
theorem lm_42 : xml 42 = 3 := by decide +kernel
set_option maxRecDepth 100000 in
theorem jl_42 : 42 < xMs.length := by decide +kernel
set_option maxRecDepth 100000 in
theorem mn_42 : xmn 42 = 3 := by decide +kernel
set_option maxRecDepth 100000 in
theorem e_42_9 : xlk xFL (xmo 42) 9 = some (5, 0, false, 120) := by decide +kernel
set_option maxRecDepth 100000 in
theorem h_42_29 : xlk xCL (xmo 42) 29 = some (158, 0, 615, 313, 0) := by decide +kernel
set_option maxRecDepth 100000 in
theorem mr_42 : xmr 42 = some .int := by decide +kernel
set_option maxRecDepth 100000 in
theorem lm_43 : xml 43 = 7 := by decide +kernel
set_option maxRecDepth 100000 in
theorem jl_43 : 43 < xMs.length := by decide +kernel
set_option maxRecDepth 100000 in
theorem mn_43 : xmn 43 = 2 := by decide +kernel
set_option maxRecDepth 100000 in
theorem e_43_9 : xlk xFL (xmo 43) 9 = some (5, 0, false, 120) := by decide +kernel
set_option maxRecDepth 100000 in
theorem h_43_35 : xlk xCL (xmo 43) 35 = some (159, 0, 606, 285, 0) := by decide +kernel
set_option maxRecDepth 100000 in
theorem h_43_38 : xlk xCL (xmo 43) 38 = some (47, 1, 607, 609, 17) := by decide +kernel
set_option maxRecDepth 100000 in
theorem mn_47 : xmn 47 = 2 := by decide +kernel
set_option maxRecDepth 100000 in
theorem mo_47 : xmo 47 = 5 := by decide +kernel
set_option maxRecDepth 100000 in
theorem mr_43 : xmr 43 = some .int := by decide +kernel
set_option maxRecDepth 100000 in
theorem lm_44 : xml 44 = 6 := by decide +kernel
set_option maxRecDepth 100000 in
theorem jl_44 : 44 < xMs.length := by decide +kernel
set_option maxRecDepth 100000 in
theorem mn_44 : xmn 44 = 2 := by decide +kernel
set_option maxRecDepth 100000 in
theorem h_44_42 : xlk xCL (xmo 44) 42 = some (48, 1, 731, 733, 20) := by decide +kernel
set_option maxRecDepth 100000 in
theorem mn_48 : xmn 48 = 1 := by decide +kernel
set_option maxRecDepth 100000 in
theorem mo_48 : xmo 48 = 5 := by decide +kernel
set_option maxRecDepth 100000 in
theorem e_44_15 : xlk xFL (xmo 44) 15 = some (5, 1, false, 121) := by decide +kernel
set_option maxRecDepth 100000 in
theorem h_44_45 : xlk xCL (xmo 44) 45 = some (157, 0, 735, 736, 0) := by decide +kernel
set_option maxRecDepth 100000 in
theorem mn_157 : xmn 157 = 2 := by decide +kernel
set_option maxRecDepth 100000 in
theorem mr_44 : xmr 44 = some .int := by decide +kernel
set_option maxRecDepth 100000 in
theorem lm_45 : xml 45 = 4 := by decide +kernel
set_option maxRecDepth 100000 in
theorem jl_45 : 45 < xMs.length := by decide +kernel
set_option maxRecDepth 100000 in
theorem mn_45 : xmn 45 = 2 := by decide +kernel
set_option maxRecDepth 100000 in
theorem h_45_48 : xlk xCL (xmo 45) 48 = some (42, 1, 611, 612, 613) := by decide +kernel
set_option maxRecDepth 100000 in
theorem mo_42 : xmo 42 = 5 := by decide +kernel
set_option maxRecDepth 100000 in
theorem h_45_51 : xlk xCL (xmo 45) 51 = some (46, 1, 746, 748, 21) := by decide +kernel
set_option maxRecDepth 100000 in
theorem mn_46 : xmn 46 = 4 := by decide +kernel
set_option maxRecDepth 100000 in
theorem mo_46 : xmo 46 = 5 := by decide +kernel
set_option maxRecDepth 100000 in
theorem mr_45 : xmr 45 = some .int := by decide +kernel
set_option maxRecDepth 100000 in
theorem lm_46 : xml 46 = 5 := by decide +kernel
set_option maxRecDepth 100000 in
theorem jl_46 : 46 < xMs.length := by decide +kernel
set_option maxRecDepth 100000 in
theorem h_46_48 : xlk xCL (xmo 46) 48 = some (42, 1, 611, 612, 613) := by decide +kernel
set_option maxRecDepth 100000 in
theorem mr_46 : xmr 46 = some .boolean := by decide +kernel
set_option maxRecDepth 100000 in
theorem lm_47 : xml 47 = 4 := by decide +kernel
set_option maxRecDepth 100000 in
theorem jl_47 : 47 < xMs.length := by decide +kernel
set_option maxRecDepth 100000 in
theorem h_47_48 : xlk xCL (xmo 47) 48 = some (42, 1, 611, 612, 613) := by decide +kernel
set_option maxRecDepth 100000 in
theorem mr_47 : xmr 47 = some .int := by decide +kernel
set_option maxRecDepth 100000 in
theorem lm_48 : xml 48 = 4 := by decide +kernel
set_option maxRecDepth 100000 in
theorem jl_48 : 48 < xMs.length := by decide +kernel
set_option maxRecDepth 100000 in
theorem e_48_9 : xlk xFL (xmo 48) 9 = some (5, 0, false, 120) := by decide +kernel
set_option maxRecDepth 100000 in
theorem e_48_15 : xlk xFL (xmo 48) 15 = some (5, 1, false, 121) := by decide +kernel
set_option maxRecDepth 100000 in
theorem mr_48 : xmr 48 = none := by decide +kernel
set_option maxRecDepth 100000 in
theorem lm_49 : xml 49 = 2 := by decide +kernel
set_option maxRecDepth 100000 in
theorem jl_49 : 49 < xMs.length := by decide +kernel
set_option maxRecDepth 100000 in
theorem mn_49 : xmn 49 = 1 := by decide +kernel
set_option maxRecDepth 100000 in
theorem r_49_1 : xlk xCL (xmo 49) 1 = none := by decide +kernel
set_option maxRecDepth 100000 in
theorem t_49_1 : xlk xOL (xmo 49) 1 = some 42 := by decide +kernel
set_option maxRecDepth 100000 in
theorem q_49_9 : xlk xKL (xmo 49) 9 = some (0, 45) := by decide +kernel
set_option maxRecDepth 100000 in
theorem e_49_11 : xlk xFL (xmo 49) 11 = some (6, 0, false, 127) := by decide +kernel
set_option maxRecDepth 100000 in
theorem n_49 : (xmy 49).name = "<init>" ∧ xmo 49 = 6 ∧ false = false := by decide +kernel
set_option maxRecDepth 100000 in
theorem q_49_15 : xlk xKL (xmo 49) 15 = some (1, 47) := by decide +kernel
set_option maxRecDepth 100000 in
theorem e_49_17 : xlk xFL (xmo 49) 17 = some (6, 2, false, 129) := by decide +kernel
set_option maxRecDepth 100000 in
theorem q_49_21 : xlk xKL (xmo 49) 21 = some (4, 49) := by decide +kernel
set_option maxRecDepth 100000 in
theorem h_49_23 : xlk xCL (xmo 49) 23 = some (24, 2, 51, 52, 0) := by decide +kernel
set_option maxRecDepth 100000 in
theorem mo_24 : xmo 24 = 4 := by decide +kernel
set_option maxRecDepth 100000 in
theorem e_49_24 : xlk xFL (xmo 49) 24 = some (6, 4, false, 131) := by decide +kernel
set_option maxRecDepth 100000 in
theorem q_49_28 : xlk xKL (xmo 49) 28 = some (2, 76) := by decide +kernel
set_option maxRecDepth 100000 in
theorem e_49_30 : xlk xFL (xmo 49) 30 = some (6, 5, false, 132) := by decide +kernel
set_option maxRecDepth 100000 in
theorem h_49_34 : xlk xCL (xmo 49) 34 = some (10, 2, 79, 80, 0) := by decide +kernel
set_option maxRecDepth 100000 in
theorem mo_10 : xmo 10 = 2 := by decide +kernel
set_option maxRecDepth 100000 in
theorem q_49_35 : xlk xKL (xmo 49) 35 = some (3, 96) := by decide +kernel
set_option maxRecDepth 100000 in
theorem e_49_37 : xlk xFL (xmo 49) 37 = some (6, 6, false, 133) := by decide +kernel
set_option maxRecDepth 100000 in
theorem h_49_41 : xlk xCL (xmo 49) 41 = some (39, 2, 99, 100, 0) := by decide +kernel
set_option maxRecDepth 100000 in
theorem mo_39 : xmo 39 = 3 := by decide +kernel
set_option maxRecDepth 100000 in
theorem q_49_42 : xlk xKL (xmo 49) 42 = some (5, 114) := by decide +kernel
set_option maxRecDepth 100000 in
theorem h_49_44 : xlk xCL (xmo 49) 44 = some (40, 2, 116, 117, 0) := by decide +kernel
set_option maxRecDepth 100000 in
theorem mo_40 : xmo 40 = 5 := by decide +kernel
set_option maxRecDepth 100000 in
theorem e_49_45 : xlk xFL (xmo 49) 45 = some (6, 7, false, 134) := by decide +kernel
set_option maxRecDepth 100000 in
theorem mr_49 : xmr 49 = none := by decide +kernel
set_option maxRecDepth 100000 in
theorem lm_50 : xml 50 = 3 := by decide +kernel
set_option maxRecDepth 100000 in
theorem jl_50 : 50 < xMs.length := by decide +kernel
set_option maxRecDepth 100000 in
theorem mn_50 : xmn 50 = 2 := by decide +kernel
set_option maxRecDepth 100000 in
theorem h_50_49 : xlk xCL (xmo 50) 49 = some (88, 0, 330, 331, 0) := by decide +kernel
set_option maxRecDepth 100000 in
theorem mn_88 : xmn 88 = 3 := by decide +kernel
set_option maxRecDepth 100000 in
theorem e_50_53 : xlk xFL (xmo 50) 53 = some (6, 1, false, 128) := by decide +kernel
set_option maxRecDepth 100000 in
theorem q_50_57 : xlk xKL (xmo 50) 57 = some (9, 334) := by decide +kernel
set_option maxRecDepth 100000 in
theorem u_50_59 : xlk xSL (xmo 50) 59 = some "there are 8 hides" := by decide +kernel
set_option maxRecDepth 100000 in
theorem v_50_61 : xlk xIL (xmo 50) 61 = some 9 := by decide +kernel
set_option maxRecDepth 100000 in
theorem w_50 : xmh 50 = [] := by decide +kernel
set_option maxRecDepth 100000 in
theorem e_50_11 : xlk xFL (xmo 50) 11 = some (6, 0, false, 127) := by decide +kernel
set_option maxRecDepth 100000 in
theorem q_50_9 : xlk xKL (xmo 50) 9 = some (0, 45) := by decide +kernel
set_option maxRecDepth 100000 in
theorem h_50_64 : xlk xCL (xmo 50) 64 = some (0, 2, 351, 352, 0) := by decide +kernel
set_option maxRecDepth 100000 in
theorem mo_0 : xmo 0 = 0 := by decide +kernel
set_option maxRecDepth 100000 in
theorem mr_50 : xmr 50 = some .int := by decide +kernel
set_option maxRecDepth 100000 in
theorem lm_51 : xml 51 = 5 := by decide +kernel
set_option maxRecDepth 100000 in
theorem jl_51 : 51 < xMs.length := by decide +kernel
set_option maxRecDepth 100000 in
theorem mn_51 : xmn 51 = 4 := by decide +kernel
set_option maxRecDepth 100000 in
theorem h_51_67 : xlk xCL (xmo 51) 67 = some (83, 1, 366, 368, 8) := by decide +kernel
set_option maxRecDepth 100000 in
theorem mn_83 : xmn 83 = 2 := by decide +kernel
set_option maxRecDepth 100000 in
theorem mo_83 : xmo 83 = 6 := by decide +kernel
set_option maxRecDepth 100000 in
theorem h_51_71 : xlk xCL (xmo 51) 71 = some (87, 0, 162, 163, 0) := by decide +kernel
set_option maxRecDepth 100000 in
theorem mn_87 : xmn 87 = 2 := by decide +kernel
set_option maxRecDepth 100000 in
theorem h_51_75 : xlk xCL (xmo 51) 75 = some (1, 1, 371, 372, 373) := by decide +kernel
set_option maxRecDepth 100000 in
theorem mo_1 : xmo 1 = 0 := by decide +kernel
set_option maxRecDepth 100000 in
theorem h_51_79 : xlk xCL (xmo 51) 79 = some (2, 1, 375, 376, 377) := by decide +kernel
set_option maxRecDepth 100000 in
theorem mo_2 : xmo 2 = 0 := by decide +kernel
set_option maxRecDepth 100000 in
theorem mr_51 : xmr 51 = some .int := by decide +kernel
set_option maxRecDepth 100000 in
theorem lm_52 : xml 52 = 9 := by decide +kernel
set_option maxRecDepth 100000 in
theorem jl_52 : 52 < xMs.length := by decide +kernel
set_option maxRecDepth 100000 in
theorem mn_52 : xmn 52 = 7 := by decide +kernel
set_option maxRecDepth 100000 in
theorem h_52_67 : xlk xCL (xmo 52) 67 = some (83, 1, 366, 368, 8) := by decide +kernel
set_option maxRecDepth 100000 in
theorem h_52_71 : xlk xCL (xmo 52) 71 = some (87, 0, 162, 163, 0) := by decide +kernel
set_option maxRecDepth 100000 in
theorem h_52_49 : xlk xCL (xmo 52) 49 = some (88, 0, 330, 331, 0) := by decide +kernel
set_option maxRecDepth 100000 in
theorem h_52_83 : xlk xCL (xmo 52) 83 = some (4, 1, 383, 384, 385) := by decide +kernel
set_option maxRecDepth 100000 in
theorem q_52_57 : xlk xKL (xmo 52) 57 = some (9, 334) := by decide +kernel
set_option maxRecDepth 100000 in
theorem u_52_87 : xlk xSL (xmo 52) 87 = some "it cannot be cut there" := by decide +kernel
set_option maxRecDepth 100000 in
theorem v_52_61 : xlk xIL (xmo 52) 61 = some 9 := by decide +kernel
set_option maxRecDepth 100000 in
theorem w_52 : xmh 52 = [] := by decide +kernel
set_option maxRecDepth 100000 in
theorem e_52_89 : xlk xFL (xmo 52) 89 = some (6, 3, false, 130) := by decide +kernel
set_option maxRecDepth 100000 in
theorem u_52_92 : xlk xSL (xmo 52) 92 = some "there were 40 parts" := by decide +kernel
set_option maxRecDepth 100000 in
theorem e_52_17 : xlk xFL (xmo 52) 17 = some (6, 2, false, 129) := by decide +kernel
set_option maxRecDepth 100000 in
theorem q_52_15 : xlk xKL (xmo 52) 15 = some (1, 47) := by decide +kernel
set_option maxRecDepth 100000 in
theorem h_52_94 : xlk xCL (xmo 52) 94 = some (3, 1, 397, 398, 399) := by decide +kernel
set_option maxRecDepth 100000 in
theorem h_52_98 : xlk xCL (xmo 52) 98 = some (15, 2, 401, 402, 0) := by decide +kernel
set_option maxRecDepth 100000 in
theorem mo_15 : xmo 15 = 1 := by decide +kernel
set_option maxRecDepth 100000 in
theorem h_52_75 : xlk xCL (xmo 52) 75 = some (1, 1, 371, 372, 373) := by decide +kernel
set_option maxRecDepth 100000 in
theorem mr_52 : xmr 52 = some .int := by decide +kernel
set_option maxRecDepth 100000 in
theorem lm_53 : xml 53 = 7 := by decide +kernel
set_option maxRecDepth 100000 in
theorem jl_53 : 53 < xMs.length := by decide +kernel
set_option maxRecDepth 100000 in
theorem mn_53 : xmn 53 = 6 := by decide +kernel
set_option maxRecDepth 100000 in
theorem h_53_67 : xlk xCL (xmo 53) 67 = some (83, 1, 366, 368, 8) := by decide +kernel
set_option maxRecDepth 100000 in
theorem h_53_49 : xlk xCL (xmo 53) 49 = some (88, 0, 330, 331, 0) := by decide +kernel
set_option maxRecDepth 100000 in
theorem h_53_101 : xlk xCL (xmo 53) 101 = some (5, 1, 464, 465, 466) := by decide +kernel
set_option maxRecDepth 100000 in
theorem mo_5 : xmo 5 = 0 := by decide +kernel
set_option maxRecDepth 100000 in
theorem mr_53 : xmr 53 = some .int := by decide +kernel
set_option maxRecDepth 100000 in
theorem lm_54 : xml 54 = 5 := by decide +kernel
set_option maxRecDepth 100000 in
theorem jl_54 : 54 < xMs.length := by decide +kernel
set_option maxRecDepth 100000 in
theorem mn_54 : xmn 54 = 3 := by decide +kernel
set_option maxRecDepth 100000 in
theorem h_54_105 : xlk xCL (xmo 54) 105 = some (84, 1, 481, 483, 11) := by decide +kernel
set_option maxRecDepth 100000 in
theorem mn_84 : xmn 84 = 2 := by decide +kernel
set_option maxRecDepth 100000 in
theorem mo_84 : xmo 84 = 6 := by decide +kernel
set_option maxRecDepth 100000 in
theorem e_54_109 : xlk xFL (xmo 54) 109 = some (1, 5, true, 415) := by decide +kernel
set_option maxRecDepth 100000 in
theorem h_54_49 : xlk xCL (xmo 54) 49 = some (88, 0, 330, 331, 0) := by decide +kernel
set_option maxRecDepth 100000 in
theorem e_54_112 : xlk xFL (xmo 54) 112 = some (1, 8, true, 420) := by decide +kernel
set_option maxRecDepth 100000 in
theorem q_54_57 : xlk xKL (xmo 54) 57 = some (9, 334) := by decide +kernel
set_option maxRecDepth 100000 in
theorem u_54_115 : xlk xSL (xmo 54) 115 = some "it is in a seam" := by decide +kernel
set_option maxRecDepth 100000 in
theorem v_54_61 : xlk xIL (xmo 54) 61 = some 9 := by decide +kernel
set_option maxRecDepth 100000 in
theorem w_54 : xmh 54 = [] := by decide +kernel
set_option maxRecDepth 100000 in
theorem mr_54 : xmr 54 = some .int := by decide +kernel
set_option maxRecDepth 100000 in
theorem lm_55 : xml 55 = 4 := by decide +kernel
set_option maxRecDepth 100000 in
theorem jl_55 : 55 < xMs.length := by decide +kernel
set_option maxRecDepth 100000 in
theorem mn_55 : xmn 55 = 3 := by decide +kernel
set_option maxRecDepth 100000 in
theorem h_55_105 : xlk xCL (xmo 55) 105 = some (84, 1, 481, 483, 11) := by decide +kernel
set_option maxRecDepth 100000 in
theorem e_55_117 : xlk xFL (xmo 55) 117 = some (1, 0, true, 406) := by decide +kernel
set_option maxRecDepth 100000 in
theorem h_55_49 : xlk xCL (xmo 55) 49 = some (88, 0, 330, 331, 0) := by decide +kernel
set_option maxRecDepth 100000 in
theorem h_55_120 : xlk xCL (xmo 55) 120 = some (16, 1, 491, 492, 493) := by decide +kernel
set_option maxRecDepth 100000 in
theorem mo_16 : xmo 16 = 1 := by decide +kernel
set_option maxRecDepth 100000 in
theorem q_55_57 : xlk xKL (xmo 55) 57 = some (9, 334) := by decide +kernel
set_option maxRecDepth 100000 in
theorem u_55_124 : xlk xSL (xmo 55) 124 = some "it is too near to another hole" := by decide +kernel
set_option maxRecDepth 100000 in
theorem v_55_61 : xlk xIL (xmo 55) 61 = some 9 := by decide +kernel
set_option maxRecDepth 100000 in
theorem w_55 : xmh 55 = [] := by decide +kernel
set_option maxRecDepth 100000 in
theorem e_55_112 : xlk xFL (xmo 55) 112 = some (1, 8, true, 420) := by decide +kernel
set_option maxRecDepth 100000 in
theorem h_55_126 : xlk xCL (xmo 55) 126 = some (20, 1, 496, 261, 262) := by decide +kernel
set_option maxRecDepth 100000 in
theorem e_55_130 : xlk xFL (xmo 55) 130 = some (1, 12, true, 432) := by decide +kernel
set_option maxRecDepth 100000 in
theorem u_55_134 : xlk xSL (xmo 55) 134 = some "it is in a seam, buckled, or broke" := by decide +kernel
set_option maxRecDepth 100000 in
theorem h_55_136 : xlk xCL (xmo 55) 136 = some (17, 1, 498, 499, 500) := by decide +kernel
set_option maxRecDepth 100000 in
theorem mo_17 : xmo 17 = 1 := by decide +kernel
set_option maxRecDepth 100000 in
theorem mr_55 : xmr 55 = some .int := by decide +kernel
set_option maxRecDepth 100000 in
theorem lm_56 : xml 56 = 5 := by decide +kernel
set_option maxRecDepth 100000 in
theorem jl_56 : 56 < xMs.length := by decide +kernel
set_option maxRecDepth 100000 in
theorem mn_56 : xmn 56 = 3 := by decide +kernel
set_option maxRecDepth 100000 in
theorem h_56_105 : xlk xCL (xmo 56) 105 = some (84, 1, 481, 483, 11) := by decide +kernel
set_option maxRecDepth 100000 in
theorem e_56_140 : xlk xFL (xmo 56) 140 = some (1, 3, true, 412) := by decide +kernel
set_option maxRecDepth 100000 in
theorem e_56_117 : xlk xFL (xmo 56) 117 = some (1, 0, true, 406) := by decide +kernel
set_option maxRecDepth 100000 in
theorem e_56_143 : xlk xFL (xmo 56) 143 = some (1, 1, true, 408) := by decide +kernel
set_option maxRecDepth 100000 in
theorem e_56_109 : xlk xFL (xmo 56) 109 = some (1, 5, true, 415) := by decide +kernel
set_option maxRecDepth 100000 in
theorem e_56_146 : xlk xFL (xmo 56) 146 = some (1, 2, true, 410) := by decide +kernel
set_option maxRecDepth 100000 in
theorem mr_56 : xmr 56 = some .boolean := by decide +kernel
set_option maxRecDepth 100000 in
theorem lm_57 : xml 57 = 4 := by decide +kernel
set_option maxRecDepth 100000 in
theorem jl_57 : 57 < xMs.length := by decide +kernel
set_option maxRecDepth 100000 in
theorem mn_57 : xmn 57 = 3 := by decide +kernel
set_option maxRecDepth 100000 in
theorem h_57_105 : xlk xCL (xmo 57) 105 = some (84, 1, 481, 483, 11) := by decide +kernel
set_option maxRecDepth 100000 in
theorem h_57_49 : xlk xCL (xmo 57) 49 = some (88, 0, 330, 331, 0) := by decide +kernel
set_option maxRecDepth 100000 in
theorem e_57_117 : xlk xFL (xmo 57) 117 = some (1, 0, true, 406) := by decide +kernel
set_option maxRecDepth 100000 in
theorem mr_57 : xmr 57 = some .int := by decide +kernel
set_option maxRecDepth 100000 in
theorem e_57_143 : xlk xFL (xmo 57) 143 = some (1, 1, true, 408) := by decide +kernel
set_option maxRecDepth 100000 in
theorem e_57_109 : xlk xFL (xmo 57) 109 = some (1, 5, true, 415) := by decide +kernel
set_option maxRecDepth 100000 in
theorem e_57_146 : xlk xFL (xmo 57) 146 = some (1, 2, true, 410) := by decide +kernel
set_option maxRecDepth 100000 in
theorem e_57_149 : xlk xFL (xmo 57) 149 = some (1, 6, true, 417) := by decide +kernel
set_option maxRecDepth 100000 in
theorem e_57_152 : xlk xFL (xmo 57) 152 = some (1, 7, true, 419) := by decide +kernel
set_option maxRecDepth 100000 in
theorem h_57_155 : xlk xCL (xmo 57) 155 = some (19, 1, 506, 309, 310) := by decide +kernel
set_option maxRecDepth 100000 in
theorem e_57_158 : xlk xFL (xmo 57) 158 = some (1, 9, true, 424) := by decide +kernel
set_option maxRecDepth 100000 in
theorem e_57_161 : xlk xFL (xmo 57) 161 = some (1, 10, true, 427) := by decide +kernel
set_option maxRecDepth 100000 in
theorem e_57_164 : xlk xFL (xmo 57) 164 = some (1, 11, true, 430) := by decide +kernel
set_option maxRecDepth 100000 in
theorem e_57_130 : xlk xFL (xmo 57) 130 = some (1, 12, true, 432) := by decide +kernel
set_option maxRecDepth 100000 in
theorem lm_58 : xml 58 = 6 := by decide +kernel
set_option maxRecDepth 100000 in
theorem jl_58 : 58 < xMs.length := by decide +kernel
set_option maxRecDepth 100000 in
theorem mn_58 : xmn 58 = 5 := by decide +kernel
set_option maxRecDepth 100000 in
theorem h_58_105 : xlk xCL (xmo 58) 105 = some (84, 1, 481, 483, 11) := by decide +kernel
set_option maxRecDepth 100000 in
theorem h_58_71 : xlk xCL (xmo 58) 71 = some (87, 0, 162, 163, 0) := by decide +kernel
set_option maxRecDepth 100000 in
theorem e_58_149 : xlk xFL (xmo 58) 149 = some (1, 6, true, 417) := by decide +kernel
set_option maxRecDepth 100000 in
theorem h_58_167 : xlk xCL (xmo 58) 167 = some (89, 0, 233, 234, 0) := by decide +kernel
set_option maxRecDepth 100000 in
theorem mn_89 : xmn 89 = 2 := by decide +kernel
set_option maxRecDepth 100000 in
theorem e_58_140 : xlk xFL (xmo 58) 140 = some (1, 3, true, 412) := by decide +kernel
set_option maxRecDepth 100000 in
theorem h_58_126 : xlk xCL (xmo 58) 126 = some (20, 1, 496, 261, 262) := by decide +kernel
set_option maxRecDepth 100000 in
theorem e_58_130 : xlk xFL (xmo 58) 130 = some (1, 12, true, 432) := by decide +kernel
set_option maxRecDepth 100000 in
theorem q_58_57 : xlk xKL (xmo 58) 57 = some (9, 334) := by decide +kernel
set_option maxRecDepth 100000 in
theorem u_58_170 : xlk xSL (xmo 58) 170 = some "it is no strap, is buckled, or broke" := by decide +kernel
set_option maxRecDepth 100000 in
theorem v_58_61 : xlk xIL (xmo 58) 61 = some 9 := by decide +kernel
set_option maxRecDepth 100000 in
theorem w_58 : xmh 58 = [] := by decide +kernel
set_option maxRecDepth 100000 in
theorem h_58_172 : xlk xCL (xmo 58) 172 = some (159, 0, 315, 285, 0) := by decide +kernel
set_option maxRecDepth 100000 in
theorem e_58_158 : xlk xFL (xmo 58) 158 = some (1, 9, true, 424) := by decide +kernel
set_option maxRecDepth 100000 in
theorem h_58_177 : xlk xCL (xmo 58) 177 = some (158, 0, 512, 313, 0) := by decide +kernel
set_option maxRecDepth 100000 in
theorem e_58_161 : xlk xFL (xmo 58) 161 = some (1, 10, true, 427) := by decide +kernel
set_option maxRecDepth 100000 in
theorem h_58_180 : xlk xCL (xmo 58) 180 = some (18, 1, 513, 514, 515) := by decide +kernel
set_option maxRecDepth 100000 in
theorem mo_18 : xmo 18 = 1 := by decide +kernel
set_option maxRecDepth 100000 in
theorem e_58_164 : xlk xFL (xmo 58) 164 = some (1, 11, true, 430) := by decide +kernel
set_option maxRecDepth 100000 in
theorem mr_58 : xmr 58 = some .int := by decide +kernel
set_option maxRecDepth 100000 in
theorem lm_59 : xml 59 = 4 := by decide +kernel
set_option maxRecDepth 100000 in
theorem jl_59 : 59 < xMs.length := by decide +kernel
set_option maxRecDepth 100000 in
theorem mn_59 : xmn 59 = 2 := by decide +kernel
set_option maxRecDepth 100000 in
theorem h_59_105 : xlk xCL (xmo 59) 105 = some (84, 1, 481, 483, 11) := by decide +kernel
set_option maxRecDepth 100000 in
theorem h_59_126 : xlk xCL (xmo 59) 126 = some (20, 1, 496, 261, 262) := by decide +kernel
set_option maxRecDepth 100000 in
theorem q_59_57 : xlk xKL (xmo 59) 57 = some (9, 334) := by decide +kernel
set_option maxRecDepth 100000 in
theorem u_59_183 : xlk xSL (xmo 59) 183 = some "it is not buckled" := by decide +kernel
set_option maxRecDepth 100000 in
theorem v_59_61 : xlk xIL (xmo 59) 61 = some 9 := by decide +kernel
set_option maxRecDepth 100000 in
theorem w_59 : xmh 59 = [] := by decide +kernel
set_option maxRecDepth 100000 in
theorem e_59_164 : xlk xFL (xmo 59) 164 = some (1, 11, true, 430) := by decide +kernel
set_option maxRecDepth 100000 in
theorem h_59_185 : xlk xCL (xmo 59) 185 = some (22, 1, 522, 523, 524) := by decide +kernel
set_option maxRecDepth 100000 in
theorem mr_59 : xmr 59 = some .int := by decide +kernel
set_option maxRecDepth 100000 in
theorem lm_60 : xml 60 = 6 := by decide +kernel
set_option maxRecDepth 100000 in
theorem jl_60 : 60 < xMs.length := by decide +kernel
set_option maxRecDepth 100000 in
theorem mn_60 : xmn 60 = 5 := by decide +kernel
set_option maxRecDepth 100000 in
theorem h_60_105 : xlk xCL (xmo 60) 105 = some (84, 1, 481, 483, 11) := by decide +kernel
set_option maxRecDepth 100000 in
theorem h_60_188 : xlk xCL (xmo 60) 188 = some (90, 0, 159, 160, 0) := by decide +kernel
set_option maxRecDepth 100000 in
theorem mn_90 : xmn 90 = 2 := by decide +kernel
set_option maxRecDepth 100000 in
theorem h_60_49 : xlk xCL (xmo 60) 49 = some (88, 0, 330, 331, 0) := by decide +kernel
set_option maxRecDepth 100000 in
theorem e_60_24 : xlk xFL (xmo 60) 24 = some (6, 4, false, 131) := by decide +kernel
set_option maxRecDepth 100000 in
theorem e_60_17 : xlk xFL (xmo 60) 17 = some (6, 2, false, 129) := by decide +kernel
set_option maxRecDepth 100000 in
theorem h_60_191 : xlk xCL (xmo 60) 191 = some (25, 1, 252, 253, 254) := by decide +kernel
set_option maxRecDepth 100000 in
theorem mo_25 : xmo 25 = 4 := by decide +kernel
set_option maxRecDepth 100000 in
theorem h_60_195 : xlk xCL (xmo 60) 195 = some (29, 1, 539, 540, 541) := by decide +kernel
set_option maxRecDepth 100000 in
theorem mo_29 : xmo 29 = 4 := by decide +kernel
set_option maxRecDepth 100000 in
theorem mr_60 : xmr 60 = some .int := by decide +kernel
set_option maxRecDepth 100000 in
theorem lm_61 : xml 61 = 4 := by decide +kernel
set_option maxRecDepth 100000 in
theorem jl_61 : 61 < xMs.length := by decide +kernel
set_option maxRecDepth 100000 in
theorem mn_61 : xmn 61 = 4 := by decide +kernel
set_option maxRecDepth 100000 in
theorem h_61_71 : xlk xCL (xmo 61) 71 = some (87, 0, 162, 163, 0) := by decide +kernel
set_option maxRecDepth 100000 in
theorem q_61_199 : xlk xKL (xmo 61) 199 = some (10, 165) := by decide +kernel
set_option maxRecDepth 100000 in
theorem u_61_201 : xlk xSL (xmo 61) 201 = some "place is below 0" := by decide +kernel
set_option maxRecDepth 100000 in
theorem v_61_203 : xlk xIL (xmo 61) 203 = some 10 := by decide +kernel
set_option maxRecDepth 100000 in
theorem w_61 : xmh 61 = [] := by decide +kernel
set_option maxRecDepth 100000 in
theorem h_61_167 : xlk xCL (xmo 61) 167 = some (89, 0, 233, 234, 0) := by decide +kernel
set_option maxRecDepth 100000 in
theorem e_61_24 : xlk xFL (xmo 61) 24 = some (6, 4, false, 131) := by decide +kernel
set_option maxRecDepth 100000 in
theorem e_61_17 : xlk xFL (xmo 61) 17 = some (6, 2, false, 129) := by decide +kernel
set_option maxRecDepth 100000 in
theorem h_61_191 : xlk xCL (xmo 61) 191 = some (25, 1, 252, 253, 254) := by decide +kernel
set_option maxRecDepth 100000 in
theorem h_61_204 : xlk xCL (xmo 61) 204 = some (27, 1, 648, 649, 650) := by decide +kernel
set_option maxRecDepth 100000 in
theorem mo_27 : xmo 27 = 4 := by decide +kernel
set_option maxRecDepth 100000 in
theorem mr_61 : xmr 61 = some .int := by decide +kernel
set_option maxRecDepth 100000 in
theorem lm_62 : xml 62 = 5 := by decide +kernel
set_option maxRecDepth 100000 in
theorem jl_62 : 62 < xMs.length := by decide +kernel
set_option maxRecDepth 100000 in
theorem mn_62 : xmn 62 = 4 := by decide +kernel
set_option maxRecDepth 100000 in
theorem h_62_188 : xlk xCL (xmo 62) 188 = some (90, 0, 159, 160, 0) := by decide +kernel
set_option maxRecDepth 100000 in
theorem h_62_49 : xlk xCL (xmo 62) 49 = some (88, 0, 330, 331, 0) := by decide +kernel
set_option maxRecDepth 100000 in
theorem e_62_24 : xlk xFL (xmo 62) 24 = some (6, 4, false, 131) := by decide +kernel
set_option maxRecDepth 100000 in
theorem e_62_17 : xlk xFL (xmo 62) 17 = some (6, 2, false, 129) := by decide +kernel
set_option maxRecDepth 100000 in
theorem h_62_191 : xlk xCL (xmo 62) 191 = some (25, 1, 252, 253, 254) := by decide +kernel
set_option maxRecDepth 100000 in
theorem h_62_207 : xlk xCL (xmo 62) 207 = some (26, 1, 295, 296, 297) := by decide +kernel
set_option maxRecDepth 100000 in
theorem mo_26 : xmo 26 = 4 := by decide +kernel
set_option maxRecDepth 100000 in
theorem q_62_57 : xlk xKL (xmo 62) 57 = some (9, 334) := by decide +kernel
set_option maxRecDepth 100000 in
theorem u_62_210 : xlk xSL (xmo 62) 210 = some "there is no way" := by decide +kernel
set_option maxRecDepth 100000 in
theorem v_62_61 : xlk xIL (xmo 62) 61 = some 9 := by decide +kernel
set_option maxRecDepth 100000 in
theorem w_62 : xmh 62 = [] := by decide +kernel
set_option maxRecDepth 100000 in
theorem h_62_212 : xlk xCL (xmo 62) 212 = some (79, 1, 531, 533, 12) := by decide +kernel
set_option maxRecDepth 100000 in
theorem mn_79 : xmn 79 = 4 := by decide +kernel
set_option maxRecDepth 100000 in
theorem mo_79 : xmo 79 = 6 := by decide +kernel
set_option maxRecDepth 100000 in
theorem h_62_216 : xlk xCL (xmo 62) 216 = some (81, 1, 548, 550, 14) := by decide +kernel
set_option maxRecDepth 100000 in
theorem mn_81 : xmn 81 = 2 := by decide +kernel
set_option maxRecDepth 100000 in
theorem mo_81 : xmo 81 = 6 := by decide +kernel
set_option maxRecDepth 100000 in
theorem mr_62 : xmr 62 = some .int := by decide +kernel
set_option maxRecDepth 100000 in
theorem lm_63 : xml 63 = 6 := by decide +kernel
set_option maxRecDepth 100000 in
theorem jl_63 : 63 < xMs.length := by decide +kernel
set_option maxRecDepth 100000 in
theorem mn_63 : xmn 63 = 3 := by decide +kernel
set_option maxRecDepth 100000 in
theorem h_63_188 : xlk xCL (xmo 63) 188 = some (90, 0, 159, 160, 0) := by decide +kernel
set_option maxRecDepth 100000 in
theorem e_63_24 : xlk xFL (xmo 63) 24 = some (6, 4, false, 131) := by decide +kernel
set_option maxRecDepth 100000 in
theorem e_63_17 : xlk xFL (xmo 63) 17 = some (6, 2, false, 129) := by decide +kernel
set_option maxRecDepth 100000 in
theorem h_63_191 : xlk xCL (xmo 63) 191 = some (25, 1, 252, 253, 254) := by decide +kernel
set_option maxRecDepth 100000 in
theorem h_63_207 : xlk xCL (xmo 63) 207 = some (26, 1, 295, 296, 297) := by decide +kernel
set_option maxRecDepth 100000 in
theorem mr_63 : xmr 63 = some .int := by decide +kernel
set_option maxRecDepth 100000 in
theorem e_63_89 : xlk xFL (xmo 63) 89 = some (6, 3, false, 130) := by decide +kernel
set_option maxRecDepth 100000 in
theorem h_63_219 : xlk xCL (xmo 63) 219 = some (28, 1, 299, 300, 301) := by decide +kernel
set_option maxRecDepth 100000 in
theorem h_63_223 : xlk xCL (xmo 63) 223 = some (30, 1, 303, 304, 305) := by decide +kernel
set_option maxRecDepth 100000 in
theorem mo_30 : xmo 30 = 4 := by decide +kernel
set_option maxRecDepth 100000 in
theorem h_63_172 : xlk xCL (xmo 63) 172 = some (159, 0, 315, 285, 0) := by decide +kernel
set_option maxRecDepth 100000 in
theorem lm_64 : xml 64 = 3 := by decide +kernel
set_option maxRecDepth 100000 in
theorem jl_64 : 64 < xMs.length := by decide +kernel
set_option maxRecDepth 100000 in
theorem mn_64 : xmn 64 = 2 := by decide +kernel
set_option maxRecDepth 100000 in
theorem h_64_105 : xlk xCL (xmo 64) 105 = some (84, 1, 481, 483, 11) := by decide +kernel
set_option maxRecDepth 100000 in
theorem e_64_152 : xlk xFL (xmo 64) 152 = some (1, 7, true, 419) := by decide +kernel
set_option maxRecDepth 100000 in
theorem mr_64 : xmr 64 = some .int := by decide +kernel
set_option maxRecDepth 100000 in
theorem lm_65 : xml 65 = 11 := by decide +kernel
set_option maxRecDepth 100000 in
theorem jl_65 : 65 < xMs.length := by decide +kernel
set_option maxRecDepth 100000 in
theorem mn_65 : xmn 65 = 5 := by decide +kernel
set_option maxRecDepth 100000 in
theorem h_65_105 : xlk xCL (xmo 65) 105 = some (84, 1, 481, 483, 11) := by decide +kernel
set_option maxRecDepth 100000 in
theorem h_65_167 : xlk xCL (xmo 65) 167 = some (89, 0, 233, 234, 0) := by decide +kernel
set_option maxRecDepth 100000 in
theorem h_65_49 : xlk xCL (xmo 65) 49 = some (88, 0, 330, 331, 0) := by decide +kernel
set_option maxRecDepth 100000 in
theorem h_65_227 : xlk xCL (xmo 65) 227 = some (21, 1, 560, 561, 562) := by decide +kernel
set_option maxRecDepth 100000 in
theorem mo_21 : xmo 21 = 1 := by decide +kernel
set_option maxRecDepth 100000 in
theorem q_65_57 : xlk xKL (xmo 65) 57 = some (9, 334) := by decide +kernel
set_option maxRecDepth 100000 in
theorem u_65_230 : xlk xSL (xmo 65) 230 = some "one has 4 seams, is buckled, or broke" := by decide +kernel
set_option maxRecDepth 100000 in
theorem v_65_61 : xlk xIL (xmo 65) 61 = some 9 := by decide +kernel
set_option maxRecDepth 100000 in
theorem w_65 : xmh 65 = [] := by decide +kernel
set_option maxRecDepth 100000 in
theorem e_65_112 : xlk xFL (xmo 65) 112 = some (1, 8, true, 420) := by decide +kernel
set_option maxRecDepth 100000 in
theorem e_65_117 : xlk xFL (xmo 65) 117 = some (1, 0, true, 406) := by decide +kernel
set_option maxRecDepth 100000 in
theorem h_65_172 : xlk xCL (xmo 65) 172 = some (159, 0, 315, 285, 0) := by decide +kernel
set_option maxRecDepth 100000 in
theorem e_65_109 : xlk xFL (xmo 65) 109 = some (1, 5, true, 415) := by decide +kernel
set_option maxRecDepth 100000 in
theorem mr_65 : xmr 65 = some .int := by decide +kernel
set_option maxRecDepth 100000 in
theorem lm_66 : xml 66 = 6 := by decide +kernel
set_option maxRecDepth 100000 in
theorem jl_66 : 66 < xMs.length := by decide +kernel
set_option maxRecDepth 100000 in
theorem mn_66 : xmn 66 = 4 := by decide +kernel
set_option maxRecDepth 100000 in
theorem h_66_232 : xlk xCL (xmo 66) 232 = some (85, 1, 570, 572, 15) := by decide +kernel
set_option maxRecDepth 100000 in
theorem mn_85 : xmn 85 = 2 := by decide +kernel
set_option maxRecDepth 100000 in
theorem mo_85 : xmo 85 = 6 := by decide +kernel
set_option maxRecDepth 100000 in
theorem h_66_71 : xlk xCL (xmo 66) 71 = some (87, 0, 162, 163, 0) := by decide +kernel
set_option maxRecDepth 100000 in
theorem h_66_49 : xlk xCL (xmo 66) 49 = some (88, 0, 330, 331, 0) := by decide +kernel
set_option maxRecDepth 100000 in
theorem e_66_236 : xlk xFL (xmo 66) 236 = some (2, 0, true, 85) := by decide +kernel
set_option maxRecDepth 100000 in
theorem mr_66 : xmr 66 = some .int := by decide +kernel
set_option maxRecDepth 100000 in
theorem lm_67 : xml 67 = 6 := by decide +kernel
set_option maxRecDepth 100000 in
theorem jl_67 : 67 < xMs.length := by decide +kernel
set_option maxRecDepth 100000 in
theorem mn_67 : xmn 67 = 4 := by decide +kernel
set_option maxRecDepth 100000 in
theorem h_67_240 : xlk xCL (xmo 67) 240 = some (86, 1, 579, 581, 16) := by decide +kernel
set_option maxRecDepth 100000 in
theorem mn_86 : xmn 86 = 2 := by decide +kernel
set_option maxRecDepth 100000 in
theorem mo_86 : xmo 86 = 6 := by decide +kernel
set_option maxRecDepth 100000 in
theorem h_67_71 : xlk xCL (xmo 67) 71 = some (87, 0, 162, 163, 0) := by decide +kernel
set_option maxRecDepth 100000 in
theorem h_67_49 : xlk xCL (xmo 67) 49 = some (88, 0, 330, 331, 0) := by decide +kernel
set_option maxRecDepth 100000 in
theorem e_67_244 : xlk xFL (xmo 67) 244 = some (3, 0, true, 105) := by decide +kernel
set_option maxRecDepth 100000 in
theorem mr_67 : xmr 67 = some .int := by decide +kernel
set_option maxRecDepth 100000 in
theorem lm_68 : xml 68 = 6 := by decide +kernel
set_option maxRecDepth 100000 in
theorem jl_68 : 68 < xMs.length := by decide +kernel
set_option maxRecDepth 100000 in
theorem mn_68 : xmn 68 = 4 := by decide +kernel
set_option maxRecDepth 100000 in
theorem h_68_240 : xlk xCL (xmo 68) 240 = some (86, 1, 579, 581, 16) := by decide +kernel
set_option maxRecDepth 100000 in
theorem h_68_71 : xlk xCL (xmo 68) 71 = some (87, 0, 162, 163, 0) := by decide +kernel
set_option maxRecDepth 100000 in
theorem h_68_49 : xlk xCL (xmo 68) 49 = some (88, 0, 330, 331, 0) := by decide +kernel
set_option maxRecDepth 100000 in
theorem e_68_245 : xlk xFL (xmo 68) 245 = some (3, 1, true, 108) := by decide +kernel
set_option maxRecDepth 100000 in
theorem mr_68 : xmr 68 = some .int := by decide +kernel
set_option maxRecDepth 100000 in
theorem lm_69 : xml 69 = 4 := by decide +kernel
set_option maxRecDepth 100000 in
theorem jl_69 : 69 < xMs.length := by decide +kernel
set_option maxRecDepth 100000 in
theorem mn_69 : xmn 69 = 4 := by decide +kernel
set_option maxRecDepth 100000 in
theorem h_69_248 : xlk xCL (xmo 69) 248 = some (82, 1, 696, 698, 19) := by decide +kernel
set_option maxRecDepth 100000 in
theorem mn_82 : xmn 82 = 4 := by decide +kernel
set_option maxRecDepth 100000 in
theorem mo_82 : xmo 82 = 6 := by decide +kernel
set_option maxRecDepth 100000 in
theorem e_69_45 : xlk xFL (xmo 69) 45 = some (6, 7, false, 134) := by decide +kernel
set_option maxRecDepth 100000 in
theorem h_69_251 : xlk xCL (xmo 69) 251 = some (43, 1, 602, 603, 604) := by decide +kernel
set_option maxRecDepth 100000 in
theorem mo_43 : xmo 43 = 5 := by decide +kernel
set_option maxRecDepth 100000 in
theorem mr_69 : xmr 69 = some .int := by decide +kernel
set_option maxRecDepth 100000 in
theorem lm_70 : xml 70 = 4 := by decide +kernel
set_option maxRecDepth 100000 in
theorem jl_70 : 70 < xMs.length := by decide +kernel
set_option maxRecDepth 100000 in
theorem mn_70 : xmn 70 = 4 := by decide +kernel
set_option maxRecDepth 100000 in
theorem h_70_248 : xlk xCL (xmo 70) 248 = some (82, 1, 696, 698, 19) := by decide +kernel
set_option maxRecDepth 100000 in
theorem e_70_45 : xlk xFL (xmo 70) 45 = some (6, 7, false, 134) := by decide +kernel
set_option maxRecDepth 100000 in
theorem h_70_254 : xlk xCL (xmo 70) 254 = some (44, 1, 727, 728, 729) := by decide +kernel
set_option maxRecDepth 100000 in
theorem mo_44 : xmo 44 = 5 := by decide +kernel
set_option maxRecDepth 100000 in
theorem mr_70 : xmr 70 = some .int := by decide +kernel
set_option maxRecDepth 100000 in
theorem lm_71 : xml 71 = 5 := by decide +kernel
set_option maxRecDepth 100000 in
theorem jl_71 : 71 < xMs.length := by decide +kernel
set_option maxRecDepth 100000 in
theorem mn_71 : xmn 71 = 5 := by decide +kernel
set_option maxRecDepth 100000 in
theorem h_71_71 : xlk xCL (xmo 71) 71 = some (87, 0, 162, 163, 0) := by decide +kernel
set_option maxRecDepth 100000 in
theorem h_71_248 : xlk xCL (xmo 71) 248 = some (82, 1, 696, 698, 19) := by decide +kernel
set_option maxRecDepth 100000 in
theorem e_71_45 : xlk xFL (xmo 71) 45 = some (6, 7, false, 134) := by decide +kernel
set_option maxRecDepth 100000 in
theorem h_71_251 : xlk xCL (xmo 71) 251 = some (43, 1, 602, 603, 604) := by decide +kernel
set_option maxRecDepth 100000 in
theorem h_71_257 : xlk xCL (xmo 71) 257 = some (42, 1, 616, 612, 613) := by decide +kernel
set_option maxRecDepth 100000 in
theorem mr_71 : xmr 71 = some .int := by decide +kernel
set_option maxRecDepth 100000 in
theorem lm_72 : xml 72 = 4 := by decide +kernel
set_option maxRecDepth 100000 in
theorem jl_72 : 72 < xMs.length := by decide +kernel
set_option maxRecDepth 100000 in
theorem mn_72 : xmn 72 = 4 := by decide +kernel
set_option maxRecDepth 100000 in
theorem h_72_248 : xlk xCL (xmo 72) 248 = some (82, 1, 696, 698, 19) := by decide +kernel
set_option maxRecDepth 100000 in
theorem e_72_45 : xlk xFL (xmo 72) 45 = some (6, 7, false, 134) := by decide +kernel
set_option maxRecDepth 100000 in
theorem h_72_251 : xlk xCL (xmo 72) 251 = some (43, 1, 602, 603, 604) := by decide +kernel
set_option maxRecDepth 100000 in
theorem h_72_260 : xlk xCL (xmo 72) 260 = some (45, 1, 742, 743, 744) := by decide +kernel
set_option maxRecDepth 100000 in
theorem mo_45 : xmo 45 = 5 := by decide +kernel
set_option maxRecDepth 100000 in
theorem mr_72 : xmr 72 = some .int := by decide +kernel
set_option maxRecDepth 100000 in
theorem lm_73 : xml 73 = 14 := by decide +kernel
set_option maxRecDepth 100000 in
theorem jl_73 : 73 < xMs.length := by decide +kernel
set_option maxRecDepth 100000 in
theorem mn_73 : xmn 73 = 7 := by decide +kernel
set_option maxRecDepth 100000 in
theorem h_73_232 : xlk xCL (xmo 73) 232 = some (85, 1, 570, 572, 15) := by decide +kernel
set_option maxRecDepth 100000 in
theorem h_73_240 : xlk xCL (xmo 73) 240 = some (86, 1, 579, 581, 16) := by decide +kernel
set_option maxRecDepth 100000 in
theorem h_73_71 : xlk xCL (xmo 73) 71 = some (87, 0, 162, 163, 0) := by decide +kernel
set_option maxRecDepth 100000 in
theorem h_73_49 : xlk xCL (xmo 73) 49 = some (88, 0, 330, 331, 0) := by decide +kernel
set_option maxRecDepth 100000 in
theorem h_73_263 : xlk xCL (xmo 73) 263 = some (11, 1, 592, 593, 594) := by decide +kernel
set_option maxRecDepth 100000 in
theorem mo_11 : xmo 11 = 2 := by decide +kernel
set_option maxRecDepth 100000 in
theorem q_73_57 : xlk xKL (xmo 73) 57 = some (9, 334) := by decide +kernel
set_option maxRecDepth 100000 in
theorem u_73_266 : xlk xSL (xmo 73) 266 = some "the horse is lame" := by decide +kernel
set_option maxRecDepth 100000 in
theorem v_73_61 : xlk xIL (xmo 73) 61 = some 9 := by decide +kernel
set_option maxRecDepth 100000 in
theorem w_73 : xmh 73 = [] := by decide +kernel
set_option maxRecDepth 100000 in
theorem e_73_268 : xlk xFL (xmo 73) 268 = some (6, 8, false, 135) := by decide +kernel
set_option maxRecDepth 100000 in
theorem u_73_271 : xlk xSL (xmo 73) 271 = some "there were 60 rides" := by decide +kernel
set_option maxRecDepth 100000 in
theorem e_73_45 : xlk xFL (xmo 73) 45 = some (6, 7, false, 134) := by decide +kernel
set_option maxRecDepth 100000 in
theorem h_73_273 : xlk xCL (xmo 73) 273 = some (41, 1, 598, 599, 600) := by decide +kernel
set_option maxRecDepth 100000 in
theorem mo_41 : xmo 41 = 5 := by decide +kernel
set_option maxRecDepth 100000 in
theorem h_73_251 : xlk xCL (xmo 73) 251 = some (43, 1, 602, 603, 604) := by decide +kernel
set_option maxRecDepth 100000 in
theorem h_73_257 : xlk xCL (xmo 73) 257 = some (42, 1, 616, 612, 613) := by decide +kernel
set_option maxRecDepth 100000 in
theorem h_73_177 : xlk xCL (xmo 73) 177 = some (158, 0, 512, 313, 0) := by decide +kernel
set_option maxRecDepth 100000 in
theorem h_73_277 : xlk xCL (xmo 73) 277 = some (189, 1, 617, 618, 619) := by decide +kernel
set_option maxRecDepth 100000 in
theorem mn_189 : xmn 189 = 6 := by decide +kernel
set_option maxRecDepth 100000 in
theorem mo_189 : xmo 189 = 2 := by decide +kernel
set_option maxRecDepth 100000 in
theorem h_73_281 : xlk xCL (xmo 73) 281 = some (190, 1, 625, 626, 627) := by decide +kernel
set_option maxRecDepth 100000 in
theorem mn_190 : xmn 190 = 2 := by decide +kernel
set_option maxRecDepth 100000 in
theorem mo_190 : xmo 190 = 3 := by decide +kernel
set_option maxRecDepth 100000 in
theorem mr_73 : xmr 73 = some .int := by decide +kernel
set_option maxRecDepth 100000 in
theorem lm_74 : xml 74 = 7 := by decide +kernel
set_option maxRecDepth 100000 in
theorem jl_74 : 74 < xMs.length := by decide +kernel
set_option maxRecDepth 100000 in
theorem mn_74 : xmn 74 = 2 := by decide +kernel
set_option maxRecDepth 100000 in
theorem h_74_49 : xlk xCL (xmo 74) 49 = some (88, 0, 330, 331, 0) := by decide +kernel
set_option maxRecDepth 100000 in
theorem e_74_30 : xlk xFL (xmo 74) 30 = some (6, 5, false, 132) := by decide +kernel
set_option maxRecDepth 100000 in
theorem h_74_284 : xlk xCL (xmo 74) 284 = some (12, 1, 634, 635, 636) := by decide +kernel
set_option maxRecDepth 100000 in
theorem mo_12 : xmo 12 = 2 := by decide +kernel
set_option maxRecDepth 100000 in
theorem h_74_263 : xlk xCL (xmo 74) 263 = some (11, 1, 592, 593, 594) := by decide +kernel
set_option maxRecDepth 100000 in
theorem mr_74 : xmr 74 = some .int := by decide +kernel
set_option maxRecDepth 100000 in
theorem lm_75 : xml 75 = 5 := by decide +kernel
set_option maxRecDepth 100000 in
theorem jl_75 : 75 < xMs.length := by decide +kernel
set_option maxRecDepth 100000 in
theorem mn_75 : xmn 75 = 4 := by decide +kernel
set_option maxRecDepth 100000 in
theorem h_75_232 : xlk xCL (xmo 75) 232 = some (85, 1, 570, 572, 15) := by decide +kernel
set_option maxRecDepth 100000 in
theorem h_75_71 : xlk xCL (xmo 75) 71 = some (87, 0, 162, 163, 0) := by decide +kernel
set_option maxRecDepth 100000 in
theorem h_75_49 : xlk xCL (xmo 75) 49 = some (88, 0, 330, 331, 0) := by decide +kernel
set_option maxRecDepth 100000 in
theorem e_75_287 : xlk xFL (xmo 75) 287 = some (2, 1, true, 87) := by decide +kernel
set_option maxRecDepth 100000 in
theorem mr_75 : xmr 75 = some .int := by decide +kernel
set_option maxRecDepth 100000 in
theorem e_75_236 : xlk xFL (xmo 75) 236 = some (2, 0, true, 85) := by decide +kernel
set_option maxRecDepth 100000 in
theorem h_75_263 : xlk xCL (xmo 75) 263 = some (11, 1, 592, 593, 594) := by decide +kernel
set_option maxRecDepth 100000 in
theorem lm_76 : xml 76 = 6 := by decide +kernel
set_option maxRecDepth 100000 in
theorem jl_76 : 76 < xMs.length := by decide +kernel
set_option maxRecDepth 100000 in
theorem mn_76 : xmn 76 = 5 := by decide +kernel
set_option maxRecDepth 100000 in
theorem h_76_232 : xlk xCL (xmo 76) 232 = some (85, 1, 570, 572, 15) := by decide +kernel
set_option maxRecDepth 100000 in
theorem h_76_71 : xlk xCL (xmo 76) 71 = some (87, 0, 162, 163, 0) := by decide +kernel
set_option maxRecDepth 100000 in
theorem h_76_49 : xlk xCL (xmo 76) 49 = some (88, 0, 330, 331, 0) := by decide +kernel
set_option maxRecDepth 100000 in
theorem h_76_290 : xlk xCL (xmo 76) 290 = some (14, 1, 711, 712, 713) := by decide +kernel
set_option maxRecDepth 100000 in
theorem mo_14 : xmo 14 = 2 := by decide +kernel
set_option maxRecDepth 100000 in
theorem mr_76 : xmr 76 = some .int := by decide +kernel
set_option maxRecDepth 100000 in
theorem lm_77 : xml 77 = 9 := by decide +kernel
set_option maxRecDepth 100000 in
theorem jl_77 : 77 < xMs.length := by decide +kernel
set_option maxRecDepth 100000 in
theorem mn_77 : xmn 77 = 4 := by decide +kernel
set_option maxRecDepth 100000 in
theorem h_77_232 : xlk xCL (xmo 77) 232 = some (85, 1, 570, 572, 15) := by decide +kernel
set_option maxRecDepth 100000 in
theorem h_77_71 : xlk xCL (xmo 77) 71 = some (87, 0, 162, 163, 0) := by decide +kernel
set_option maxRecDepth 100000 in
theorem h_77_49 : xlk xCL (xmo 77) 49 = some (88, 0, 330, 331, 0) := by decide +kernel
set_option maxRecDepth 100000 in
theorem h_77_290 : xlk xCL (xmo 77) 290 = some (14, 1, 711, 712, 713) := by decide +kernel
set_option maxRecDepth 100000 in
theorem mr_77 : xmr 77 = some .int := by decide +kernel
set_option maxRecDepth 100000 in
theorem lm_78 : xml 78 = 1 := by decide +kernel
set_option maxRecDepth 100000 in
theorem jl_78 : 78 < xMs.length := by decide +kernel
set_option maxRecDepth 100000 in
theorem mn_78 : xmn 78 = 1 := by decide +kernel
set_option maxRecDepth 100000 in
theorem e_78_268 : xlk xFL (xmo 78) 268 = some (6, 8, false, 135) := by decide +kernel
set_option maxRecDepth 100000 in
theorem mr_78 : xmr 78 = some .int := by decide +kernel
set_option maxRecDepth 100000 in
theorem lm_79 : xml 79 = 7 := by decide +kernel
set_option maxRecDepth 100000 in
theorem jl_79 : 79 < xMs.length := by decide +kernel
set_option maxRecDepth 100000 in
theorem h_79_293 : xlk xCL (xmo 79) 293 = some (80, 1, 535, 537, 13) := by decide +kernel
set_option maxRecDepth 100000 in
theorem mn_80 : xmn 80 = 2 := by decide +kernel
set_option maxRecDepth 100000 in
theorem mo_80 : xmo 80 = 6 := by decide +kernel
set_option maxRecDepth 100000 in
theorem mr_79 : xmr 79 = some .int := by decide +kernel
set_option maxRecDepth 100000 in
theorem h_79_296 : xlk xCL (xmo 79) 296 = some (23, 1, 543, 544, 545) := by decide +kernel
set_option maxRecDepth 100000 in
theorem mo_23 : xmo 23 = 1 := by decide +kernel
set_option maxRecDepth 100000 in
theorem e_79_24 : xlk xFL (xmo 79) 24 = some (6, 4, false, 131) := by decide +kernel
set_option maxRecDepth 100000 in
theorem e_79_17 : xlk xFL (xmo 79) 17 = some (6, 2, false, 129) := by decide +kernel
set_option maxRecDepth 100000 in
theorem h_79_191 : xlk xCL (xmo 79) 191 = some (25, 1, 252, 253, 254) := by decide +kernel
set_option maxRecDepth 100000 in
theorem lm_80 : xml 80 = 4 := by decide +kernel
set_option maxRecDepth 100000 in
theorem jl_80 : 80 < xMs.length := by decide +kernel
set_option maxRecDepth 100000 in
theorem e_80_89 : xlk xFL (xmo 80) 89 = some (6, 3, false, 130) := by decide +kernel
set_option maxRecDepth 100000 in
theorem e_80_17 : xlk xFL (xmo 80) 17 = some (6, 2, false, 129) := by decide +kernel
set_option maxRecDepth 100000 in
theorem e_80_24 : xlk xFL (xmo 80) 24 = some (6, 4, false, 131) := by decide +kernel
set_option maxRecDepth 100000 in
theorem h_80_195 : xlk xCL (xmo 80) 195 = some (29, 1, 539, 540, 541) := by decide +kernel
set_option maxRecDepth 100000 in
theorem h_80_155 : xlk xCL (xmo 80) 155 = some (19, 1, 506, 309, 310) := by decide +kernel
set_option maxRecDepth 100000 in
theorem mr_80 : xmr 80 = some (.object "Saddletree$Part") := by decide +kernel
set_option maxRecDepth 100000 in
theorem lm_81 : xml 81 = 4 := by decide +kernel
set_option maxRecDepth 100000 in
theorem jl_81 : 81 < xMs.length := by decide +kernel
set_option maxRecDepth 100000 in
theorem e_81_89 : xlk xFL (xmo 81) 89 = some (6, 3, false, 130) := by decide +kernel
set_option maxRecDepth 100000 in
theorem e_81_17 : xlk xFL (xmo 81) 17 = some (6, 2, false, 129) := by decide +kernel
set_option maxRecDepth 100000 in
theorem e_81_152 : xlk xFL (xmo 81) 152 = some (1, 7, true, 419) := by decide +kernel
set_option maxRecDepth 100000 in
theorem e_81_24 : xlk xFL (xmo 81) 24 = some (6, 4, false, 131) := by decide +kernel
set_option maxRecDepth 100000 in
theorem h_81_195 : xlk xCL (xmo 81) 195 = some (29, 1, 539, 540, 541) := by decide +kernel
set_option maxRecDepth 100000 in
theorem mr_81 : xmr 81 = none := by decide +kernel
set_option maxRecDepth 100000 in
theorem lm_82 : xml 82 = 6 := by decide +kernel
set_option maxRecDepth 100000 in
theorem jl_82 : 82 < xMs.length := by decide +kernel
set_option maxRecDepth 100000 in
theorem h_82_232 : xlk xCL (xmo 82) 232 = some (85, 1, 570, 572, 15) := by decide +kernel
set_option maxRecDepth 100000 in
theorem h_82_240 : xlk xCL (xmo 82) 240 = some (86, 1, 579, 581, 16) := by decide +kernel
set_option maxRecDepth 100000 in
theorem h_82_49 : xlk xCL (xmo 82) 49 = some (88, 0, 330, 331, 0) := by decide +kernel
set_option maxRecDepth 100000 in
theorem e_82_45 : xlk xFL (xmo 82) 45 = some (6, 7, false, 134) := by decide +kernel
set_option maxRecDepth 100000 in
theorem h_82_273 : xlk xCL (xmo 82) 273 = some (41, 1, 598, 599, 600) := by decide +kernel
set_option maxRecDepth 100000 in
theorem mr_82 : xmr 82 = none := by decide +kernel
set_option maxRecDepth 100000 in
theorem lm_83 : xml 83 = 3 := by decide +kernel
set_option maxRecDepth 100000 in
theorem jl_83 : 83 < xMs.length := by decide +kernel
set_option maxRecDepth 100000 in
theorem e_83_11 : xlk xFL (xmo 83) 11 = some (6, 0, false, 127) := by decide +kernel
set_option maxRecDepth 100000 in
theorem q_83_199 : xlk xKL (xmo 83) 199 = some (10, 165) := by decide +kernel
set_option maxRecDepth 100000 in
theorem u_83_299 : xlk xSL (xmo 83) 299 = some "there is no such hide" := by decide +kernel
set_option maxRecDepth 100000 in
theorem v_83_203 : xlk xIL (xmo 83) 203 = some 10 := by decide +kernel
set_option maxRecDepth 100000 in
theorem w_83 : xmh 83 = [] := by decide +kernel
set_option maxRecDepth 100000 in
theorem mr_83 : xmr 83 = some (.object "Saddletree$Hide") := by decide +kernel
set_option maxRecDepth 100000 in
theorem lm_84 : xml 84 = 3 := by decide +kernel
set_option maxRecDepth 100000 in
theorem jl_84 : 84 < xMs.length := by decide +kernel
set_option maxRecDepth 100000 in
theorem e_84_17 : xlk xFL (xmo 84) 17 = some (6, 2, false, 129) := by decide +kernel
set_option maxRecDepth 100000 in
theorem q_84_199 : xlk xKL (xmo 84) 199 = some (10, 165) := by decide +kernel
set_option maxRecDepth 100000 in
theorem u_84_301 : xlk xSL (xmo 84) 301 = some "there is no such part" := by decide +kernel
set_option maxRecDepth 100000 in
theorem v_84_203 : xlk xIL (xmo 84) 203 = some 10 := by decide +kernel
set_option maxRecDepth 100000 in
theorem w_84 : xmh 84 = [] := by decide +kernel
set_option maxRecDepth 100000 in
theorem mr_84 : xmr 84 = some (.object "Saddletree$Part") := by decide +kernel
set_option maxRecDepth 100000 in
theorem lm_85 : xml 85 = 3 := by decide +kernel
set_option maxRecDepth 100000 in
theorem jl_85 : 85 < xMs.length := by decide +kernel
set_option maxRecDepth 100000 in
theorem e_85_30 : xlk xFL (xmo 85) 30 = some (6, 5, false, 132) := by decide +kernel
set_option maxRecDepth 100000 in
theorem q_85_199 : xlk xKL (xmo 85) 199 = some (10, 165) := by decide +kernel
set_option maxRecDepth 100000 in
theorem u_85_303 : xlk xSL (xmo 85) 303 = some "there is no such horse" := by decide +kernel
set_option maxRecDepth 100000 in
theorem v_85_203 : xlk xIL (xmo 85) 203 = some 10 := by decide +kernel
set_option maxRecDepth 100000 in
theorem w_85 : xmh 85 = [] := by decide +kernel
set_option maxRecDepth 100000 in
theorem mr_85 : xmr 85 = some (.object "Saddletree$Horse") := by decide +kernel
set_option maxRecDepth 100000 in
theorem lm_86 : xml 86 = 3 := by decide +kernel
set_option maxRecDepth 100000 in
theorem jl_86 : 86 < xMs.length := by decide +kernel
set_option maxRecDepth 100000 in
theorem e_86_37 : xlk xFL (xmo 86) 37 = some (6, 6, false, 133) := by decide +kernel
set_option maxRecDepth 100000 in
theorem q_86_199 : xlk xKL (xmo 86) 199 = some (10, 165) := by decide +kernel
set_option maxRecDepth 100000 in
theorem u_86_305 : xlk xSL (xmo 86) 305 = some "there is no such saddle" := by decide +kernel
set_option maxRecDepth 100000 in
theorem v_86_203 : xlk xIL (xmo 86) 203 = some 10 := by decide +kernel
set_option maxRecDepth 100000 in
theorem w_86 : xmh 86 = [] := by decide +kernel
set_option maxRecDepth 100000 in
theorem mr_86 : xmr 86 = some (.object "Saddletree$Saddle") := by decide +kernel
set_option maxRecDepth 100000 in
theorem lm_87 : xml 87 = 2 := by decide +kernel
set_option maxRecDepth 100000 in
theorem jl_87 : 87 < xMs.length := by decide +kernel
set_option maxRecDepth 100000 in
theorem q_87_199 : xlk xKL (xmo 87) 199 = some (10, 165) := by decide +kernel
set_option maxRecDepth 100000 in
theorem u_87_307 : xlk xSL (xmo 87) 307 = some "there is no such number" := by decide +kernel
set_option maxRecDepth 100000 in
theorem v_87_203 : xlk xIL (xmo 87) 203 = some 10 := by decide +kernel
set_option maxRecDepth 100000 in
theorem w_87 : xmh 87 = [] := by decide +kernel
set_option maxRecDepth 100000 in
theorem mr_87 : xmr 87 = none := by decide +kernel
set_option maxRecDepth 100000 in
theorem lm_88 : xml 88 = 3 := by decide +kernel
set_option maxRecDepth 100000 in
theorem jl_88 : 88 < xMs.length := by decide +kernel
set_option maxRecDepth 100000 in
theorem q_88_309 : xlk xKL (xmo 88) 309 = some (8, 236) := by decide +kernel
set_option maxRecDepth 100000 in
theorem u_88_311 : xlk xSL (xmo 88) 311 = some "out of range" := by decide +kernel
set_option maxRecDepth 100000 in
theorem v_88_313 : xlk xIL (xmo 88) 313 = some 8 := by decide +kernel
set_option maxRecDepth 100000 in
theorem w_88 : xmh 88 = [] := by decide +kernel
set_option maxRecDepth 100000 in
theorem mr_88 : xmr 88 = none := by decide +kernel
set_option maxRecDepth 100000 in
theorem lm_89 : xml 89 = 2 := by decide +kernel
set_option maxRecDepth 100000 in
theorem jl_89 : 89 < xMs.length := by decide +kernel
set_option maxRecDepth 100000 in
theorem q_89_309 : xlk xKL (xmo 89) 309 = some (8, 236) := by decide +kernel
set_option maxRecDepth 100000 in
theorem u_89_314 : xlk xSL (xmo 89) 314 = some "both are one" := by decide +kernel
set_option maxRecDepth 100000 in
theorem v_89_313 : xlk xIL (xmo 89) 313 = some 8 := by decide +kernel
set_option maxRecDepth 100000 in
theorem w_89 : xmh 89 = [] := by decide +kernel
set_option maxRecDepth 100000 in
theorem mr_89 : xmr 89 = none := by decide +kernel
set_option maxRecDepth 100000 in
theorem lm_90 : xml 90 = 2 := by decide +kernel
set_option maxRecDepth 100000 in
theorem jl_90 : 90 < xMs.length := by decide +kernel
set_option maxRecDepth 100000 in
theorem h_90_71 : xlk xCL (xmo 90) 71 = some (87, 0, 162, 163, 0) := by decide +kernel
set_option maxRecDepth 100000 in
theorem h_90_167 : xlk xCL (xmo 90) 167 = some (89, 0, 233, 234, 0) := by decide +kernel
set_option maxRecDepth 100000 in
theorem mr_90 : xmr 90 = none := by decide +kernel
set_option maxRecDepth 100000 in
theorem lm_91 : xml 91 = 4 := by decide +kernel
set_option maxRecDepth 100000 in
theorem jl_91 : 91 < xMs.length := by decide +kernel
set_option maxRecDepth 100000 in
theorem mn_91 : xmn 91 = 3 := by decide +kernel
set_option maxRecDepth 100000 in
theorem k_91_7 : xlk xIC (xmo 91) 7 = some ((2147483647 : Int32), 319) := by decide +kernel
set_option maxRecDepth 100000 in
theorem mr_91 : xmr 91 = some .int := by decide +kernel
set_option maxRecDepth 100000 in
theorem lm_92 : xml 92 = 9 := by decide +kernel
set_option maxRecDepth 100000 in
theorem jl_92 : 92 < xMs.length := by decide +kernel
set_option maxRecDepth 100000 in
theorem mn_92 : xmn 92 = 8 := by decide +kernel
set_option maxRecDepth 100000 in
theorem h_92_8 : xlk xCL (xmo 92) 8 = some (50, 1, 326, 327, 328) := by decide +kernel
set_option maxRecDepth 100000 in
theorem mo_50 : xmo 50 = 6 := by decide +kernel
set_option maxRecDepth 100000 in
theorem h_92_14 : xlk xCL (xmo 92) 14 = some (51, 1, 362, 363, 364) := by decide +kernel
set_option maxRecDepth 100000 in
theorem mo_51 : xmo 51 = 6 := by decide +kernel
set_option maxRecDepth 100000 in
theorem h_92_18 : xlk xCL (xmo 92) 18 = some (52, 1, 379, 380, 381) := by decide +kernel
set_option maxRecDepth 100000 in
theorem mo_52 : xmo 52 = 6 := by decide +kernel
set_option maxRecDepth 100000 in
theorem h_92_22 : xlk xCL (xmo 92) 22 = some (53, 1, 460, 461, 462) := by decide +kernel
set_option maxRecDepth 100000 in
theorem mo_53 : xmo 53 = 6 := by decide +kernel
set_option maxRecDepth 100000 in
theorem h_92_26 : xlk xCL (xmo 92) 26 = some (54, 1, 477, 478, 479) := by decide +kernel
set_option maxRecDepth 100000 in
theorem mo_54 : xmo 54 = 6 := by decide +kernel
set_option maxRecDepth 100000 in
theorem h_92_30 : xlk xCL (xmo 92) 30 = some (55, 1, 487, 488, 489) := by decide +kernel
set_option maxRecDepth 100000 in
theorem mo_55 : xmo 55 = 6 := by decide +kernel
set_option maxRecDepth 100000 in
theorem h_92_33 : xlk xCL (xmo 92) 33 = some (57, 1, 502, 503, 504) := by decide +kernel
set_option maxRecDepth 100000 in
theorem mo_57 : xmo 57 = 6 := by decide +kernel
set_option maxRecDepth 100000 in
theorem h_92_36 : xlk xCL (xmo 92) 36 = some (58, 1, 507, 508, 509) := by decide +kernel
set_option maxRecDepth 100000 in
theorem mo_58 : xmo 58 = 6 := by decide +kernel
set_option maxRecDepth 100000 in
theorem h_92_40 : xlk xCL (xmo 92) 40 = some (59, 1, 517, 518, 519) := by decide +kernel
set_option maxRecDepth 100000 in
theorem mo_59 : xmo 59 = 6 := by decide +kernel
set_option maxRecDepth 100000 in
theorem h_92_43 : xlk xCL (xmo 92) 43 = some (62, 1, 526, 527, 528) := by decide +kernel
set_option maxRecDepth 100000 in
theorem mo_62 : xmo 62 = 6 := by decide +kernel
set_option maxRecDepth 100000 in
theorem h_92_46 : xlk xCL (xmo 92) 46 = some (64, 1, 552, 553, 554) := by decide +kernel
set_option maxRecDepth 100000 in
theorem mo_64 : xmo 64 = 6 := by decide +kernel
set_option maxRecDepth 100000 in
theorem h_92_49 : xlk xCL (xmo 92) 49 = some (65, 1, 556, 557, 558) := by decide +kernel
set_option maxRecDepth 100000 in
theorem mo_65 : xmo 65 = 6 := by decide +kernel
set_option maxRecDepth 100000 in
theorem h_92_52 : xlk xCL (xmo 92) 52 = some (66, 1, 566, 567, 568) := by decide +kernel
set_option maxRecDepth 100000 in
theorem mo_66 : xmo 66 = 6 := by decide +kernel
set_option maxRecDepth 100000 in
theorem h_92_55 : xlk xCL (xmo 92) 55 = some (67, 1, 575, 576, 577) := by decide +kernel
set_option maxRecDepth 100000 in
theorem mo_67 : xmo 67 = 6 := by decide +kernel
set_option maxRecDepth 100000 in
theorem h_92_58 : xlk xCL (xmo 92) 58 = some (68, 1, 584, 585, 586) := by decide +kernel
set_option maxRecDepth 100000 in
theorem mo_68 : xmo 68 = 6 := by decide +kernel
set_option maxRecDepth 100000 in
theorem h_92_61 : xlk xCL (xmo 92) 61 = some (73, 1, 588, 589, 590) := by decide +kernel
set_option maxRecDepth 100000 in
theorem mo_73 : xmo 73 = 6 := by decide +kernel
set_option maxRecDepth 100000 in
theorem h_92_65 : xlk xCL (xmo 92) 65 = some (74, 1, 630, 631, 632) := by decide +kernel
set_option maxRecDepth 100000 in
theorem mo_74 : xmo 74 = 6 := by decide +kernel
set_option maxRecDepth 100000 in
theorem h_92_68 : xlk xCL (xmo 92) 68 = some (60, 1, 639, 640, 641) := by decide +kernel
set_option maxRecDepth 100000 in
theorem mo_60 : xmo 60 = 6 := by decide +kernel
set_option maxRecDepth 100000 in
theorem h_92_71 : xlk xCL (xmo 92) 71 = some (63, 1, 155, 156, 157) := by decide +kernel
set_option maxRecDepth 100000 in
theorem mo_63 : xmo 63 = 6 := by decide +kernel
set_option maxRecDepth 100000 in
theorem h_92_74 : xlk xCL (xmo 92) 74 = some (61, 1, 643, 644, 645) := by decide +kernel
set_option maxRecDepth 100000 in
theorem mo_61 : xmo 61 = 6 := by decide +kernel
set_option maxRecDepth 100000 in
theorem mr_92 : xmr 92 = some .int := by decide +kernel
set_option maxRecDepth 100000 in
theorem lm_93 : xml 93 = 5 := by decide +kernel
set_option maxRecDepth 100000 in
theorem jl_93 : 93 < xMs.length := by decide +kernel
set_option maxRecDepth 100000 in
theorem mn_93 : xmn 93 = 4 := by decide +kernel
set_option maxRecDepth 100000 in
theorem mr_93 : xmr 93 = some .int := by decide +kernel
set_option maxRecDepth 100000 in
theorem lm_94 : xml 94 = 9 := by decide +kernel
set_option maxRecDepth 100000 in
theorem jl_94 : 94 < xMs.length := by decide +kernel
set_option maxRecDepth 100000 in
theorem mn_94 : xmn 94 = 4 := by decide +kernel
set_option maxRecDepth 100000 in
theorem mr_94 : xmr 94 = some .int := by decide +kernel
set_option maxRecDepth 100000 in
theorem lm_95 : xml 95 = 15 := by decide +kernel
set_option maxRecDepth 100000 in
theorem jl_95 : 95 < xMs.length := by decide +kernel
set_option maxRecDepth 100000 in
theorem mn_95 : xmn 95 = 5 := by decide +kernel
set_option maxRecDepth 100000 in
theorem h_95_86 : xlk xCL (xmo 95) 86 = some (94, 0, 677, 678, 0) := by decide +kernel
set_option maxRecDepth 100000 in
theorem mr_95 : xmr 95 = some .boolean := by decide +kernel
set_option maxRecDepth 100000 in
theorem lm_96 : xml 96 = 7 := by decide +kernel
set_option maxRecDepth 100000 in
theorem jl_96 : 96 < xMs.length := by decide +kernel
set_option maxRecDepth 100000 in
theorem mn_96 : xmn 96 = 5 := by decide +kernel
set_option maxRecDepth 100000 in
theorem h_96_86 : xlk xCL (xmo 96) 86 = some (94, 0, 677, 678, 0) := by decide +kernel
set_option maxRecDepth 100000 in
theorem mr_96 : xmr 96 = some .boolean := by decide +kernel
set_option maxRecDepth 100000 in
theorem lm_97 : xml 97 = 8 := by decide +kernel
set_option maxRecDepth 100000 in
theorem jl_97 : 97 < xMs.length := by decide +kernel
set_option maxRecDepth 100000 in
theorem mn_97 : xmn 97 = 5 := by decide +kernel
set_option maxRecDepth 100000 in
theorem h_97_92 : xlk xCL (xmo 97) 92 = some (96, 0, 683, 684, 0) := by decide +kernel
set_option maxRecDepth 100000 in
theorem mr_97 : xmr 97 = some .int := by decide +kernel
set_option maxRecDepth 100000 in
theorem lm_98 : xml 98 = 8 := by decide +kernel
set_option maxRecDepth 100000 in
theorem jl_98 : 98 < xMs.length := by decide +kernel
set_option maxRecDepth 100000 in
theorem mn_98 : xmn 98 = 7 := by decide +kernel
set_option maxRecDepth 100000 in
theorem h_98_96 : xlk xCL (xmo 98) 96 = some (97, 0, 680, 681, 0) := by decide +kernel
set_option maxRecDepth 100000 in
theorem h_98_99 : xlk xCL (xmo 98) 99 = some (93, 0, 665, 666, 0) := by decide +kernel
set_option maxRecDepth 100000 in
theorem mr_98 : xmr 98 = some .int := by decide +kernel
set_option maxRecDepth 100000 in
theorem lm_99 : xml 99 = 13 := by decide +kernel
set_option maxRecDepth 100000 in
theorem jl_99 : 99 < xMs.length := by decide +kernel
set_option maxRecDepth 100000 in
theorem mn_99 : xmn 99 = 8 := by decide +kernel
set_option maxRecDepth 100000 in
theorem h_99_103 : xlk xCL (xmo 99) 103 = some (95, 0, 674, 675, 0) := by decide +kernel
set_option maxRecDepth 100000 in
theorem h_99_107 : xlk xCL (xmo 99) 107 = some (98, 0, 763, 764, 0) := by decide +kernel
set_option maxRecDepth 100000 in
theorem k_99_111 : xlk xIC (xmo 99) 111 = some ((524288 : Int32), 668) := by decide +kernel
set_option maxRecDepth 100000 in
theorem h_99_96 : xlk xCL (xmo 99) 96 = some (97, 0, 680, 681, 0) := by decide +kernel
set_option maxRecDepth 100000 in
theorem mr_99 : xmr 99 = some .int := by decide +kernel
set_option maxRecDepth 100000 in
theorem lm_100 : xml 100 = 8 := by decide +kernel
set_option maxRecDepth 100000 in
theorem jl_100 : 100 < xMs.length := by decide +kernel
set_option maxRecDepth 100000 in
theorem mn_100 : xmn 100 = 4 := by decide +kernel
set_option maxRecDepth 100000 in
theorem mr_100 : xmr 100 = some .int := by decide +kernel
set_option maxRecDepth 100000 in
theorem lm_101 : xml 101 = 6 := by decide +kernel
set_option maxRecDepth 100000 in
theorem jl_101 : 101 < xMs.length := by decide +kernel
set_option maxRecDepth 100000 in
theorem mn_101 : xmn 101 = 5 := by decide +kernel
set_option maxRecDepth 100000 in
theorem mr_101 : xmr 101 = some .int := by decide +kernel
set_option maxRecDepth 100000 in
theorem lm_102 : xml 102 = 4 := by decide +kernel
set_option maxRecDepth 100000 in
theorem jl_102 : 102 < xMs.length := by decide +kernel
set_option maxRecDepth 100000 in
theorem mn_102 : xmn 102 = 2 := by decide +kernel
set_option maxRecDepth 100000 in
theorem mr_102 : xmr 102 = some .boolean := by decide +kernel
set_option maxRecDepth 100000 in
theorem lm_103 : xml 103 = 3 := by decide +kernel
set_option maxRecDepth 100000 in
theorem jl_103 : 103 < xMs.length := by decide +kernel
set_option maxRecDepth 100000 in
theorem mn_103 : xmn 103 = 1 := by decide +kernel
set_option maxRecDepth 100000 in
theorem mr_103 : xmr 103 = some .int := by decide +kernel
set_option maxRecDepth 100000 in
theorem lm_104 : xml 104 = 27 := by decide +kernel
set_option maxRecDepth 100000 in
theorem jl_104 : 104 < xMs.length := by decide +kernel
set_option maxRecDepth 100000 in
theorem mn_104 : xmn 104 = 10 := by decide +kernel
set_option maxRecDepth 100000 in
theorem h_104_112 : xlk xCL (xmo 104) 112 = some (78, 1, 658, 659, 660) := by decide +kernel
set_option maxRecDepth 100000 in
theorem mo_78 : xmo 78 = 6 := by decide +kernel
set_option maxRecDepth 100000 in
theorem h_104_33 : xlk xCL (xmo 104) 33 = some (57, 1, 502, 503, 504) := by decide +kernel
set_option maxRecDepth 100000 in
theorem h_104_116 : xlk xCL (xmo 104) 116 = some (103, 0, 662, 663, 0) := by decide +kernel
set_option maxRecDepth 100000 in
theorem h_104_99 : xlk xCL (xmo 104) 99 = some (93, 0, 665, 666, 0) := by decide +kernel
set_option maxRecDepth 100000 in
theorem k_104_111 : xlk xIC (xmo 104) 111 = some ((524288 : Int32), 668) := by decide +kernel
set_option maxRecDepth 100000 in
theorem h_104_119 : xlk xCL (xmo 104) 119 = some (56, 1, 669, 670, 671) := by decide +kernel
set_option maxRecDepth 100000 in
theorem mo_56 : xmo 56 = 6 := by decide +kernel
set_option maxRecDepth 100000 in
theorem k_104_123 : xlk xIC (xmo 104) 123 = some ((65536 : Int32), 673) := by decide +kernel
set_option maxRecDepth 100000 in
theorem h_104_103 : xlk xCL (xmo 104) 103 = some (95, 0, 674, 675, 0) := by decide +kernel
set_option maxRecDepth 100000 in
theorem h_104_96 : xlk xCL (xmo 104) 96 = some (97, 0, 680, 681, 0) := by decide +kernel
set_option maxRecDepth 100000 in
theorem h_104_124 : xlk xCL (xmo 104) 124 = some (92, 0, 320, 321, 0) := by decide +kernel
set_option maxRecDepth 100000 in
theorem h_104_128 : xlk xCL (xmo 104) 128 = some (100, 0, 686, 687, 0) := by decide +kernel
set_option maxRecDepth 100000 in
theorem h_104_132 : xlk xCL (xmo 104) 132 = some (101, 0, 689, 690, 0) := by decide +kernel
set_option maxRecDepth 100000 in
theorem h_104_136 : xlk xCL (xmo 104) 136 = some (71, 1, 692, 693, 694) := by decide +kernel
set_option maxRecDepth 100000 in
theorem mo_71 : xmo 71 = 6 := by decide +kernel
set_option maxRecDepth 100000 in
theorem h_104_138 : xlk xCL (xmo 104) 138 = some (75, 1, 700, 701, 702) := by decide +kernel
set_option maxRecDepth 100000 in
theorem mo_75 : xmo 75 = 6 := by decide +kernel
set_option maxRecDepth 100000 in
theorem h_104_141 : xlk xCL (xmo 104) 141 = some (102, 0, 704, 705, 0) := by decide +kernel
set_option maxRecDepth 100000 in
theorem h_104_145 : xlk xCL (xmo 104) 145 = some (76, 1, 707, 708, 709) := by decide +kernel
set_option maxRecDepth 100000 in
theorem mo_76 : xmo 76 = 6 := by decide +kernel
set_option maxRecDepth 100000 in
theorem h_104_148 : xlk xCL (xmo 104) 148 = some (77, 1, 715, 716, 717) := by decide +kernel
set_option maxRecDepth 100000 in
theorem mo_77 : xmo 77 = 6 := by decide +kernel
set_option maxRecDepth 100000 in
theorem h_104_151 : xlk xCL (xmo 104) 151 = some (69, 1, 719, 720, 721) := by decide +kernel
set_option maxRecDepth 100000 in
theorem mo_69 : xmo 69 = 6 := by decide +kernel
set_option maxRecDepth 100000 in
theorem h_104_154 : xlk xCL (xmo 104) 154 = some (70, 1, 723, 724, 725) := by decide +kernel
set_option maxRecDepth 100000 in
theorem mo_70 : xmo 70 = 6 := by decide +kernel
set_option maxRecDepth 100000 in
theorem h_104_157 : xlk xCL (xmo 104) 157 = some (72, 1, 738, 739, 740) := by decide +kernel
set_option maxRecDepth 100000 in
theorem mo_72 : xmo 72 = 6 := by decide +kernel
set_option maxRecDepth 100000 in
theorem k_104_79 : xlk xIC (xmo 104) 79 = some ((-3000000 : Int32), 652) := by decide +kernel
set_option maxRecDepth 100000 in
theorem mr_104 : xmr 104 = some .boolean := by decide +kernel
set_option maxRecDepth 100000 in
theorem lm_105 : xml 105 = 9 := by decide +kernel
set_option maxRecDepth 100000 in
theorem jl_105 : 105 < xMs.length := by decide +kernel
set_option maxRecDepth 100000 in
theorem mn_105 : xmn 105 = 7 := by decide +kernel
set_option maxRecDepth 100000 in
theorem mr_105 : xmr 105 = some .boolean := by decide +kernel
set_option maxRecDepth 100000 in
theorem lm_106 : xml 106 = 28 := by decide +kernel
set_option maxRecDepth 100000 in
theorem jl_106 : 106 < xMs.length := by decide +kernel
set_option maxRecDepth 100000 in
theorem mn_106 : xmn 106 = 10 := by decide +kernel
set_option maxRecDepth 100000 in
theorem h_106_124 : xlk xCL (xmo 106) 124 = some (92, 0, 320, 321, 0) := by decide +kernel
set_option maxRecDepth 100000 in
theorem k_106_82 : xlk xIC (xmo 106) 82 = some ((-2000000 : Int32), 653) := by decide +kernel
set_option maxRecDepth 100000 in
theorem mr_106 : xmr 106 = some .boolean := by decide +kernel
set_option maxRecDepth 100000 in
theorem h_106_116 : xlk xCL (xmo 106) 116 = some (103, 0, 662, 663, 0) := by decide +kernel
set_option maxRecDepth 100000 in
theorem k_106_79 : xlk xIC (xmo 106) 79 = some ((-3000000 : Int32), 652) := by decide +kernel
set_option maxRecDepth 100000 in
theorem h_106_160 : xlk xCL (xmo 106) 160 = some (105, 0, 753, 754, 0) := by decide +kernel
set_option maxRecDepth 100000 in
theorem k_106_164 : xlk xIC (xmo 106) 164 = some ((32768 : Int32), 756) := by decide +kernel
set_option maxRecDepth 100000 in
theorem k_106_85 : xlk xIC (xmo 106) 85 = some ((-1000000 : Int32), 654) := by decide +kernel
set_option maxRecDepth 100000 in
theorem lm_107 : xml 107 = 22 := by decide +kernel
set_option maxRecDepth 100000 in
theorem jl_107 : 107 < xMs.length := by decide +kernel
set_option maxRecDepth 100000 in
theorem mn_107 : xmn 107 = 9 := by decide +kernel
set_option maxRecDepth 100000 in
theorem k_107_111 : xlk xIC (xmo 107) 111 = some ((524288 : Int32), 668) := by decide +kernel
set_option maxRecDepth 100000 in
theorem k_107_123 : xlk xIC (xmo 107) 123 = some ((65536 : Int32), 673) := by decide +kernel
set_option maxRecDepth 100000 in
theorem h_107_124 : xlk xCL (xmo 107) 124 = some (92, 0, 320, 321, 0) := by decide +kernel
set_option maxRecDepth 100000 in
theorem k_107_79 : xlk xIC (xmo 107) 79 = some ((-3000000 : Int32), 652) := by decide +kernel
set_option maxRecDepth 100000 in
theorem k_107_82 : xlk xIC (xmo 107) 82 = some ((-2000000 : Int32), 653) := by decide +kernel
set_option maxRecDepth 100000 in
theorem k_107_85 : xlk xIC (xmo 107) 85 = some ((-1000000 : Int32), 654) := by decide +kernel
set_option maxRecDepth 100000 in
theorem mr_107 : xmr 107 = some .boolean := by decide +kernel
set_option maxRecDepth 100000 in
theorem h_107_116 : xlk xCL (xmo 107) 116 = some (103, 0, 662, 663, 0) := by decide +kernel
set_option maxRecDepth 100000 in
theorem k_107_164 : xlk xIC (xmo 107) 164 = some ((32768 : Int32), 756) := by decide +kernel
set_option maxRecDepth 100000 in
theorem h_107_103 : xlk xCL (xmo 107) 103 = some (95, 0, 674, 675, 0) := by decide +kernel
set_option maxRecDepth 100000 in
theorem h_107_165 : xlk xCL (xmo 107) 165 = some (99, 0, 760, 761, 0) := by decide +kernel
set_option maxRecDepth 100000 in
theorem lm_108 : xml 108 = 20 := by decide +kernel
set_option maxRecDepth 100000 in
theorem jl_108 : 108 < xMs.length := by decide +kernel
set_option maxRecDepth 100000 in
theorem mn_108 : xmn 108 = 7 := by decide +kernel
set_option maxRecDepth 100000 in
theorem h_108_124 : xlk xCL (xmo 108) 124 = some (92, 0, 320, 321, 0) := by decide +kernel
set_option maxRecDepth 100000 in
theorem k_108_79 : xlk xIC (xmo 108) 79 = some ((-3000000 : Int32), 652) := by decide +kernel
set_option maxRecDepth 100000 in
theorem k_108_82 : xlk xIC (xmo 108) 82 = some ((-2000000 : Int32), 653) := by decide +kernel
set_option maxRecDepth 100000 in
theorem mr_108 : xmr 108 = some .boolean := by decide +kernel
set_option maxRecDepth 100000 in
theorem h_108_141 : xlk xCL (xmo 108) 141 = some (102, 0, 704, 705, 0) := by decide +kernel
set_option maxRecDepth 100000 in
theorem h_108_128 : xlk xCL (xmo 108) 128 = some (100, 0, 686, 687, 0) := by decide +kernel
set_option maxRecDepth 100000 in
theorem h_108_132 : xlk xCL (xmo 108) 132 = some (101, 0, 689, 690, 0) := by decide +kernel
set_option maxRecDepth 100000 in
theorem k_108_85 : xlk xIC (xmo 108) 85 = some ((-1000000 : Int32), 654) := by decide +kernel
set_option maxRecDepth 100000 in
theorem lm_109 : xml 109 = 15 := by decide +kernel
set_option maxRecDepth 100000 in
theorem jl_109 : 109 < xMs.length := by decide +kernel
set_option maxRecDepth 100000 in
theorem mn_109 : xmn 109 = 1 := by decide +kernel
set_option maxRecDepth 100000 in
theorem q_109_9 : xlk xKL (xmo 109) 9 = some (6, 37) := by decide +kernel
set_option maxRecDepth 100000 in
theorem h_109_169 : xlk xCL (xmo 109) 169 = some (49, 2, 39, 40, 0) := by decide +kernel
set_option maxRecDepth 100000 in
theorem mo_49 : xmo 49 = 6 := by decide +kernel
set_option maxRecDepth 100000 in
theorem h_109_124 : xlk xCL (xmo 109) 124 = some (92, 0, 320, 321, 0) := by decide +kernel
set_option maxRecDepth 100000 in
theorem k_109_79 : xlk xIC (xmo 109) 79 = some ((-3000000 : Int32), 652) := by decide +kernel
set_option maxRecDepth 100000 in
theorem k_109_82 : xlk xIC (xmo 109) 82 = some ((-2000000 : Int32), 653) := by decide +kernel
set_option maxRecDepth 100000 in
theorem k_109_85 : xlk xIC (xmo 109) 85 = some ((-1000000 : Int32), 654) := by decide +kernel
set_option maxRecDepth 100000 in
theorem h_109_71 : xlk xCL (xmo 109) 71 = some (63, 1, 155, 156, 157) := by decide +kernel
set_option maxRecDepth 100000 in
theorem h_109_170 : xlk xCL (xmo 109) 170 = some (91, 0, 316, 317, 0) := by decide +kernel
set_option maxRecDepth 100000 in
theorem k_109_173 : xlk xIC (xmo 109) 173 = some ((60000 : Int32), 769) := by decide +kernel
set_option maxRecDepth 100000 in
theorem h_109_174 : xlk xCL (xmo 109) 174 = some (106, 0, 750, 751, 0) := by decide +kernel
set_option maxRecDepth 100000 in
theorem h_109_178 : xlk xCL (xmo 109) 178 = some (107, 0, 757, 758, 0) := by decide +kernel
set_option maxRecDepth 100000 in
theorem h_109_182 : xlk xCL (xmo 109) 182 = some (108, 0, 766, 767, 0) := by decide +kernel
set_option maxRecDepth 100000 in
theorem h_109_186 : xlk xCL (xmo 109) 186 = some (104, 0, 655, 656, 0) := by decide +kernel
set_option maxRecDepth 100000 in
theorem mr_109 : xmr 109 = some .boolean := by decide +kernel
set_option maxRecDepth 100000 in
theorem lm_157 : xml 157 = 3 := by decide +kernel
set_option maxRecDepth 100000 in
theorem jl_157 : 157 < xMs.length := by decide +kernel
set_option maxRecDepth 100000 in
theorem mr_157 : xmr 157 = some .int := by decide +kernel
set_option maxRecDepth 100000 in
theorem lm_158 : xml 158 = 2 := by decide +kernel
set_option maxRecDepth 100000 in
theorem jl_158 : 158 < xMs.length := by decide +kernel
set_option maxRecDepth 100000 in
theorem mr_158 : xmr 158 = some .int := by decide +kernel
set_option maxRecDepth 100000 in
theorem lm_159 : xml 159 = 2 := by decide +kernel
set_option maxRecDepth 100000 in
theorem jl_159 : 159 < xMs.length := by decide +kernel
set_option maxRecDepth 100000 in
theorem mr_159 : xmr 159 = some .int := by decide +kernel
set_option maxRecDepth 100000 in
theorem lm_189 : xml 189 = 6 := by decide +kernel
set_option maxRecDepth 100000 in
theorem jl_189 : 189 < xMs.length := by decide +kernel
set_option maxRecDepth 100000 in
theorem e_189_15 : xlk xFL (xmo 189) 15 = some (2, 1, false, 86) := by decide +kernel
set_option maxRecDepth 100000 in
theorem h_189_27 : xlk xCL (xmo 189) 27 = some (13, 1, 621, 623, 18) := by decide +kernel
set_option maxRecDepth 100000 in
theorem mo_13 : xmo 13 = 2 := by decide +kernel
set_option maxRecDepth 100000 in
theorem mr_189 : xmr 189 = none := by decide +kernel
set_option maxRecDepth 100000 in
theorem lm_190 : xml 190 = 2 := by decide +kernel
set_option maxRecDepth 100000 in
theorem jl_190 : 190 < xMs.length := by decide +kernel
set_option maxRecDepth 100000 in
theorem e_190_15 : xlk xFL (xmo 190) 15 = some (3, 1, false, 106) := by decide +kernel
set_option maxRecDepth 100000 in
theorem h_190_18 : xlk xCL (xmo 190) 18 = some (158, 0, 629, 313, 0) := by decide +kernel
set_option maxRecDepth 100000 in
theorem mr_190 : xmr 190 = none := by decide +kernel
