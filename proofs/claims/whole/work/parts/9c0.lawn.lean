theorem dL_law_0 : decode cL_law 0 = .ok (.new 7, 3) := by decide +kernel
theorem dL_law_3 : decode cL_law 3 = .ok (.dup, 1) := by decide +kernel
theorem dL_law_4 : decode cL_law 4 = .ok (.invokespecial 9, 3) := by decide +kernel
theorem dL_law_7 : decode cL_law 7 = .ok (.astore_n 1, 1) := by decide +kernel
theorem dL_law_8 : decode cL_law 8 = .ok (.new 10, 3) := by decide +kernel
theorem dL_law_11 : decode cL_law 11 = .ok (.dup, 1) := by decide +kernel
theorem dL_law_12 : decode cL_law 12 = .ok (.invokespecial 12, 3) := by decide +kernel
theorem dL_law_15 : decode cL_law 15 = .ok (.astore_n 2, 1) := by decide +kernel
theorem dL_law_16 : decode cL_law 16 = .ok (.iconst 0, 1) := by decide +kernel
theorem dL_law_17 : decode cL_law 17 = .ok (.istore_n 3, 1) := by decide +kernel
theorem dL_law_18 : decode cL_law 18 = .ok (.iload_n 3, 1) := by decide +kernel
theorem dL_law_19 : decode cL_law 19 = .ok (.aload_n 0, 1) := by decide +kernel
theorem dL_law_20 : decode cL_law 20 = .ok (.arraylength, 1) := by decide +kernel
theorem dL_law_21 : decode cL_law 21 = .ok (.bipush 6, 2) := by decide +kernel
theorem dL_law_23 : decode cL_law 23 = .ok (.isub, 1) := by decide +kernel
theorem dL_law_24 : decode cL_law 24 = .ok (.if_icmp .gt 1388, 3) := by decide +kernel
theorem dL_law_1412 : decode cL_law 1412 = .ok (.iconst 1, 1) := by decide +kernel
theorem dL_law_1413 : decode cL_law 1413 = .ok (.ireturn, 1) := by decide +kernel
theorem ct_cX9 : Cond.code yX9_init cX9_init 2 none ∈ lw_tbl := (List.mem_filter.mp (sl_gd1 (List.mem_of_getElem? (i := 20) rfl) rfl)).1
set_option maxRecDepth 100000 in
set_option maxHeartbeats 4000000 in
theorem ct_gX9a : GoodIn lw_tbl (wsX9_init_r1 ++ (wsX9_init_r2 ++ (wsX9_init_r3 ++ wsX9_init_r4))) := goodIn_r _ [71, 72, 73, 74, 75, 52, 358, 185, 186, 55, 359, 360, 361, 266, 267, 57, 363, 287, 288, 58, 364, 305, 365, 307, 367, 309, 59, 338, 60, 76, 77, 78, 79, 80, 140, 115, 146, 149, 82, 155, 160, 163, 84, 53, 116, 54, 86, 87, 88, 118, 119, 120, 125, 129, 187, 188, 189, 190, 191, 197, 199, 201, 203, 205, 207, 209, 215, 196, 193, 194, 56, 195, 269, 270, 271, 286, 272, 290, 291, 292, 293, 295, 297, 311, 312, 313, 322, 340, 341, 342, 343, 348] rfl rfl
set_option maxRecDepth 100000 in
set_option maxHeartbeats 4000000 in
theorem ct_uX4 : GoodIn lw_tbl (u_ws RX4 TX4 9) := goodIn_r _ [166, 168, 170, 172, 174, 176, 178, 180, 182] rfl rfl
theorem ct_inX4 : ∀ w ∈ u_ws RX4 TX4 9, w ∈ lw_tbl := fun w h => (ct_uX4 w h).1
set_option maxRecDepth 100000 in
set_option maxHeartbeats 4000000 in
theorem ct_uX9 : GoodIn lw_tbl (u_ws RX9 TX9 11) := goodIn_r _ [369, 371, 373, 375, 377, 379, 381, 383, 385, 387, 389] rfl rfl
theorem ct_inX9 : ∀ w ∈ u_ws RX9 TX9 11, w ∈ lw_tbl := fun w h => (ct_uX9 w h).1
set_option maxRecDepth 100000 in
set_option maxHeartbeats 4000000 in
theorem ct_uX2 : GoodIn lw_tbl (u_ws RX2 TX2 18) := goodIn_r _ [229, 231, 233, 235, 237, 239, 241, 243, 245, 247, 249, 251, 253, 255, 257, 259, 261, 263] rfl rfl
theorem ct_inX2 : ∀ w ∈ u_ws RX2 TX2 18, w ∈ lw_tbl := fun w h => (ct_uX2 w h).1
set_option maxRecDepth 100000 in
set_option maxHeartbeats 4000000 in
theorem ct_uX7 : GoodIn lw_tbl (u_ws RX7 TX7 4) := goodIn_r _ [277, 279, 281, 283] rfl rfl
theorem ct_inX7 : ∀ w ∈ u_ws RX7 TX7 4, w ∈ lw_tbl := fun w h => (ct_uX7 w h).1
set_option maxRecDepth 100000 in
set_option maxHeartbeats 4000000 in
theorem ct_uX0 : GoodIn lw_tbl (u_ws RX0 TX0 3) := goodIn_r _ [298, 300, 302] rfl rfl
theorem ct_inX0 : ∀ w ∈ u_ws RX0 TX0 3, w ∈ lw_tbl := fun w h => (ct_uX0 w h).1
set_option maxRecDepth 100000 in
set_option maxHeartbeats 4000000 in
theorem ct_uX3 : GoodIn lw_tbl (u_ws RX3 TX3 6) := goodIn_r _ [325, 327, 329, 331, 333, 335] rfl rfl
theorem ct_inX3 : ∀ w ∈ u_ws RX3 TX3 6, w ∈ lw_tbl := fun w h => (ct_uX3 w h).1
set_option maxRecDepth 100000 in
set_option maxHeartbeats 4000000 in
theorem ct_uX5 : GoodIn lw_tbl (u_ws RX5 TX5 3) := goodIn_r _ [351, 353, 355] rfl rfl
theorem ct_inX5 : ∀ w ∈ u_ws RX5 TX5 3, w ∈ lw_tbl := fun w h => (ct_uX5 w h).1
set_option maxRecDepth 100000 in
set_option maxHeartbeats 4000000 in
theorem ct_uX6 : GoodIn lw_tbl (u_ws RX6 TX6 5) := goodIn_r _ [104, 106, 108, 110, 112] rfl rfl
theorem ct_inX6 : ∀ w ∈ u_ws RX6 TX6 5, w ∈ lw_tbl := fun w h => (ct_uX6 w h).1
set_option maxRecDepth 100000 in
set_option maxHeartbeats 4000000 in
theorem ct_uX8 : GoodIn lw_tbl (u_ws RX8 TX8 3) := goodIn_r _ [133, 135, 137] rfl rfl
theorem ct_inX8 : ∀ w ∈ u_ws RX8 TX8 3, w ∈ lw_tbl := fun w h => (ct_uX8 w h).1
theorem ct_gX9 : GoodIn lw_tbl wsX9_init := fun w hw => by
  rcases List.mem_cons.mp (show w ∈ Cond.code yX9_init cX9_init 2 none :: ((wsX9_init_r1 ++ (wsX9_init_r2 ++ (wsX9_init_r3 ++ wsX9_init_r4))) ++ wsX40 ++ wsX90 ++ wsX20 ++ wsX70 ++ wsX00 ++ wsX30 ++ wsX50 ++ wsX60 ++ wsX80) from hw) with rfl | h
  · exact ⟨ct_cX9, good_of_word rfl⟩
  · exact (goodIn_app (goodIn_app (goodIn_app (goodIn_app (goodIn_app (goodIn_app (goodIn_app (goodIn_app (goodIn_app ct_gX9a ct_uX4) ct_uX9) ct_uX2) ct_uX7) ct_uX0) ct_uX3) ct_uX5) ct_uX6) ct_uX8) w h
theorem ct_cX10 : Cond.code yX10_init cX10_init 1 none ∈ lw_tbl := (List.mem_filter.mp (sl_gd4 (List.mem_of_getElem? (i := 38) rfl) rfl)).1
set_option maxRecDepth 100000 in
set_option maxHeartbeats 4000000 in
theorem ct_gX10a : GoodIn lw_tbl (wsX10_init_r1 ++ (wsX10_init_r2 ++ wsX10_init_r3)) := goodIn_r _ [809, 72, 73, 810, 811, 812, 813, 814, 815, 816, 817, 818, 819, 820, 821, 822, 115, 823, 824, 825, 826, 827, 828, 829, 830, 831, 832, 988, 833, 834, 835, 836, 837, 838, 839, 840, 841, 842, 843, 844, 845, 846, 847, 848, 849, 850, 851, 852, 853, 854, 855, 856, 857, 858, 859, 860, 861, 862, 863, 864, 865, 866, 867, 868] rfl rfl
set_option maxRecDepth 100000 in
set_option maxHeartbeats 4000000 in
theorem ct_uX10 : GoodIn lw_tbl (u_ws RX10 TX10 59) := goodIn_r _ [869, 871, 873, 875, 877, 879, 881, 883, 885, 887, 889, 891, 893, 895, 897, 899, 901, 903, 905, 907, 909, 911, 913, 915, 917, 919, 921, 923, 925, 927, 929, 931, 933, 935, 937, 939, 941, 943, 945, 947, 949, 951, 953, 955, 957, 959, 961, 963, 965, 967, 969, 971, 973, 975, 977, 979, 981, 983, 985] rfl rfl
theorem ct_inX10 : ∀ w ∈ u_ws RX10 TX10 59, w ∈ lw_tbl := fun w h => (ct_uX10 w h).1
theorem ct_gX10 : GoodIn lw_tbl wsX10_init := fun w hw => by
  rcases List.mem_cons.mp (show w ∈ Cond.code yX10_init cX10_init 1 none :: ((wsX10_init_r1 ++ (wsX10_init_r2 ++ wsX10_init_r3)) ++ wsX100) from hw) with rfl | h
  · exact ⟨ct_cX10, good_of_word rfl⟩
  · exact (goodIn_app ct_gX10a ct_uX10) w h
