set_option maxRecDepth 100000 in
set_option maxHeartbeats 4000000 in
theorem ct_gX10a : GoodIn lw_tbl (wsX10_init_r1 ++ (wsX10_init_r2 ++ wsX10_init_r3)) := goodIn_r _ [809, 72, 73, 810, 811, 812, 813, 814, 815, 816, 817, 818, 819, 820, 821, 822, 115, 823, 824, 825, 826, 827, 828, 829, 830, 831, 832, 988, 833, 834, 835, 836, 837, 838, 839, 840, 841, 842, 843, 844, 845, 846, 847, 848, 849, 850, 851, 852, 853, 854, 855, 856, 857, 858, 859, 860, 861, 862, 863, 864, 865, 866, 867, 868] rfl rfl
set_option maxRecDepth 100000 in
set_option maxHeartbeats 4000000 in
theorem ct_gX10b : GoodIn lw_tbl wsX100 := goodIn_r _ [869, 871, 873, 875, 877, 879, 881, 883, 885, 887, 889, 891, 893, 895, 897, 899, 901, 903, 905, 907, 909, 911, 913, 915, 917, 919, 921, 923, 925, 927, 929, 931, 933, 935, 937, 939, 941, 943, 945, 947, 949, 951, 953, 955, 957, 959, 961, 963, 965, 967, 969, 971, 973, 975, 977, 979, 981, 983, 985] rfl rfl
theorem ct_gX10 : GoodIn lw_tbl wsX10_init := fun w hw => by
  rcases List.mem_cons.mp (show w ∈ Cond.code yX10_init cX10_init 1 none :: ((wsX10_init_r1 ++ (wsX10_init_r2 ++ wsX10_init_r3)) ++ wsX100) from hw) with rfl | h
  · exact ⟨ct_c10, good_of_word rfl⟩
  · exact goodIn_app ct_gX10a ct_gX10b w h
theorem ct_inX10 : ∀ w ∈ u_ws RX10 TX10 59, w ∈ lw_tbl := fun w h => (ct_gX10b w h).1
