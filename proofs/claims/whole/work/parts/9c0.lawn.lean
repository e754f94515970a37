theorem dL_law_0 : decode cL_law 0 = .ok (.new 7, 3) := by decide +kernel
theorem dL_law_3 : decode cL_law 3 = .ok (.dup, 1) := by decide +kernel
theorem dL_law_4 : decode cL_law 4 = .ok (.invokespecial 9, 3) := by decide +kernel
theorem dL_law_7 : decode cL_law 7 = .ok (.astore_n 1, 1) := by decide +kernel
theorem dL_law_8 : decode cL_law 8 = .ok (.new 10, 3) := by decide +kernel
theorem dL_law_11 : decode cL_law 11 = .ok (.dup, 1) := by decide +kernel
theorem dL_law_12 : decode cL_law 12 = .ok (.invokespecial 12, 3) := by decide +kernel
theorem dL_law_15 : decode cL_law 15 = .ok (.astore_n 2, 1) := by decide +kernel
theorem dL_law_16 : decode cL_law 16 = .ok (.iconst 0, 1) := by decide +kernel
theorem dL_law_17 : decode cL_law 17 = .ok (.istore_n 3, 1) := by decide +kernel
theorem dL_law_18 : decode cL_law 18 = .ok (.iload_n 3, 1) := by decide +kernel
theorem dL_law_19 : decode cL_law 19 = .ok (.aload_n 0, 1) := by decide +kernel
theorem dL_law_20 : decode cL_law 20 = .ok (.arraylength, 1) := by decide +kernel
theorem dL_law_21 : decode cL_law 21 = .ok (.bipush 6, 2) := by decide +kernel
theorem dL_law_23 : decode cL_law 23 = .ok (.isub, 1) := by decide +kernel
theorem dL_law_24 : decode cL_law 24 = .ok (.if_icmp .gt 1388, 3) := by decide +kernel
theorem dL_law_1412 : decode cL_law 1412 = .ok (.iconst 1, 1) := by decide +kernel
theorem dL_law_1413 : decode cL_law 1413 = .ok (.ireturn, 1) := by decide +kernel
set_option maxRecDepth 100000 in
theorem ct_gX9 : GoodIn lw_tbl wsX9_init := goodIn_p wsX9_init [70, 73, 78, 87, 119, 189, 195, 270, 291, 312, 341] (by decide +kernel) (by decide +kernel)
theorem ct_inX4 : ∀ w ∈ u_ws RX4 TX4 9, w ∈ lw_tbl := fun w h => (ct_gX9 w (List.mem_cons_of_mem _ (List.mem_append_left _ (List.mem_append_left _ (List.mem_append_left _ (List.mem_append_left _ (List.mem_append_left _ (List.mem_append_left _ (List.mem_append_left _ (List.mem_append_left _ (List.mem_append_right _ h))))))))))).1
theorem ct_inX9 : ∀ w ∈ u_ws RX9 TX9 11, w ∈ lw_tbl := fun w h => (ct_gX9 w (List.mem_cons_of_mem _ (List.mem_append_left _ (List.mem_append_left _ (List.mem_append_left _ (List.mem_append_left _ (List.mem_append_left _ (List.mem_append_left _ (List.mem_append_left _ (List.mem_append_right _ h)))))))))).1
theorem ct_inX2 : ∀ w ∈ u_ws RX2 TX2 18, w ∈ lw_tbl := fun w h => (ct_gX9 w (List.mem_cons_of_mem _ (List.mem_append_left _ (List.mem_append_left _ (List.mem_append_left _ (List.mem_append_left _ (List.mem_append_left _ (List.mem_append_left _ (List.mem_append_right _ h))))))))).1
theorem ct_inX7 : ∀ w ∈ u_ws RX7 TX7 4, w ∈ lw_tbl := fun w h => (ct_gX9 w (List.mem_cons_of_mem _ (List.mem_append_left _ (List.mem_append_left _ (List.mem_append_left _ (List.mem_append_left _ (List.mem_append_left _ (List.mem_append_right _ h)))))))).1
theorem ct_inX0 : ∀ w ∈ u_ws RX0 TX0 3, w ∈ lw_tbl := fun w h => (ct_gX9 w (List.mem_cons_of_mem _ (List.mem_append_left _ (List.mem_append_left _ (List.mem_append_left _ (List.mem_append_left _ (List.mem_append_right _ h))))))).1
theorem ct_inX3 : ∀ w ∈ u_ws RX3 TX3 6, w ∈ lw_tbl := fun w h => (ct_gX9 w (List.mem_cons_of_mem _ (List.mem_append_left _ (List.mem_append_left _ (List.mem_append_left _ (List.mem_append_right _ h)))))).1
theorem ct_inX5 : ∀ w ∈ u_ws RX5 TX5 3, w ∈ lw_tbl := fun w h => (ct_gX9 w (List.mem_cons_of_mem _ (List.mem_append_left _ (List.mem_append_left _ (List.mem_append_right _ h))))).1
theorem ct_inX6 : ∀ w ∈ u_ws RX6 TX6 5, w ∈ lw_tbl := fun w h => (ct_gX9 w (List.mem_cons_of_mem _ (List.mem_append_left _ (List.mem_append_right _ h)))).1
theorem ct_inX8 : ∀ w ∈ u_ws RX8 TX8 3, w ∈ lw_tbl := fun w h => (ct_gX9 w (List.mem_cons_of_mem _ (List.mem_append_right _ h))).1
theorem ct_c10 : Cond.code yX10_init cX10_init 1 none ∈ lw_tbl := (List.mem_filter.mp (sl_gd4 (List.mem_of_getElem? (i := 38) rfl) rfl)).1
