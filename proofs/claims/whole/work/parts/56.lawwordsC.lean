set_option maxRecDepth 20000 in
theorem lwi_r25 : ∀ w ∈ wsL_law0_r25, w ∈ lw_tbl := fun w h => (goodIn_p wsL_law0_r25 [649, 653, 657, 944, 948] (by decide +kernel) (by decide +kernel) w h).1
set_option maxRecDepth 20000 in
theorem lwi_r26 : ∀ w ∈ wsL_law0_r26, w ∈ lw_tbl := fun w h => (goodIn_p wsL_law0_r26 [952, 667, 672, 676, 680] (by decide +kernel) (by decide +kernel) w h).1
set_option maxRecDepth 20000 in
theorem lwi_r27 : ∀ w ∈ wsL_law0_r27, w ∈ lw_tbl := fun w h => (goodIn_p wsL_law0_r27 [685, 689, 693, 956, 960] (by decide +kernel) (by decide +kernel) w h).1
set_option maxRecDepth 20000 in
theorem lwi_r28 : ∀ w ∈ wsL_law0_r28, w ∈ lw_tbl := fun w h => (goodIn_p wsL_law0_r28 [964, 700, 968, 249] (by decide +kernel) (by decide +kernel) w h).1
set_option maxRecDepth 20000 in
theorem lwi_r29 : ∀ w ∈ wsL_law0_r29, w ∈ lw_tbl := fun w h => (goodIn_p wsL_law0_r29 [972, 253, 976, 707, 980] (by decide +kernel) (by decide +kernel) w h).1
set_option maxRecDepth 20000 in
theorem lwi_r30 : ∀ w ∈ wsL_law0_r30, w ∈ lw_tbl := fun w h => (goodIn_p wsL_law0_r30 [257, 262, 984] (by decide +kernel) (by decide +kernel) w h).1
set_option maxRecDepth 20000 in
theorem inX0 : ∀ w ∈ wsX00, w ∈ lw_tbl := by decide +kernel
set_option maxRecDepth 20000 in
theorem inX1 : ∀ w ∈ wsX10, w ∈ lw_tbl := by decide +kernel
set_option maxRecDepth 20000 in
theorem inX2 : ∀ w ∈ wsX20, w ∈ lw_tbl := by decide +kernel
set_option maxRecDepth 20000 in
theorem inX3 : ∀ w ∈ wsX30, w ∈ lw_tbl := by decide +kernel
set_option maxRecDepth 20000 in
theorem inX4 : ∀ w ∈ wsX40, w ∈ lw_tbl := by decide +kernel
theorem lwi_r : ∀ w ∈ (wsL_law0_r1 ++ (wsL_law0_r2 ++ (wsL_law0_r3 ++ (wsL_law0_r4 ++ (wsL_law0_r5 ++ (wsL_law0_r6 ++ (wsL_law0_r7 ++ (wsL_law0_r8 ++ (wsL_law0_r9 ++ (wsL_law0_r10 ++ (wsL_law0_r11 ++ (wsL_law0_r12 ++ (wsL_law0_r13 ++ (wsL_law0_r14 ++ (wsL_law0_r15 ++ (wsL_law0_r16 ++ (wsL_law0_r17 ++ (wsL_law0_r18 ++ (wsL_law0_r19 ++ (wsL_law0_r20 ++ (wsL_law0_r21 ++ (wsL_law0_r22 ++ (wsL_law0_r23 ++ (wsL_law0_r24 ++ (wsL_law0_r25 ++ (wsL_law0_r26 ++ (wsL_law0_r27 ++ (wsL_law0_r28 ++ (wsL_law0_r29 ++ (wsL_law0_r30)))))))))))))))))))))))))))))), w ∈ lw_tbl := fun w h => (List.mem_append.mp h).elim (fun h => lwi_r1 w h) (fun h => (List.mem_append.mp h).elim (fun h => lwi_r2 w h) (fun h => (List.mem_append.mp h).elim (fun h => lwi_r3 w h) (fun h => (List.mem_append.mp h).elim (fun h => lwi_r4 w h) (fun h => (List.mem_append.mp h).elim (fun h => lwi_r5 w h) (fun h => (List.mem_append.mp h).elim (fun h => lwi_r6 w h) (fun h => (List.mem_append.mp h).elim (fun h => lwi_r7 w h) (fun h => (List.mem_append.mp h).elim (fun h => lwi_r8 w h) (fun h => (List.mem_append.mp h).elim (fun h => lwi_r9 w h) (fun h => (List.mem_append.mp h).elim (fun h => lwi_r10 w h) (fun h => (List.mem_append.mp h).elim (fun h => lwi_r11 w h) (fun h => (List.mem_append.mp h).elim (fun h => lwi_r12 w h) (fun h => (List.mem_append.mp h).elim (fun h => lwi_r13 w h) (fun h => (List.mem_append.mp h).elim (fun h => lwi_r14 w h) (fun h => (List.mem_append.mp h).elim (fun h => lwi_r15 w h) (fun h => (List.mem_append.mp h).elim (fun h => lwi_r16 w h) (fun h => (List.mem_append.mp h).elim (fun h => lwi_r17 w h) (fun h => (List.mem_append.mp h).elim (fun h => lwi_r18 w h) (fun h => (List.mem_append.mp h).elim (fun h => lwi_r19 w h) (fun h => (List.mem_append.mp h).elim (fun h => lwi_r20 w h) (fun h => (List.mem_append.mp h).elim (fun h => lwi_r21 w h) (fun h => (List.mem_append.mp h).elim (fun h => lwi_r22 w h) (fun h => (List.mem_append.mp h).elim (fun h => lwi_r23 w h) (fun h => (List.mem_append.mp h).elim (fun h => lwi_r24 w h) (fun h => (List.mem_append.mp h).elim (fun h => lwi_r25 w h) (fun h => (List.mem_append.mp h).elim (fun h => lwi_r26 w h) (fun h => (List.mem_append.mp h).elim (fun h => lwi_r27 w h) (fun h => (List.mem_append.mp h).elim (fun h => lwi_r28 w h) (fun h => (List.mem_append.mp h).elim (fun h => lwi_r29 w h) (fun h => lwi_r30 w h)))))))))))))))))))))))))))))
theorem wsL_law_in0 : ∀ w ∈ wsL_law0, w ∈ lw_tbl := fun w h => (List.mem_append.mp h).elim (fun h => (List.mem_append.mp h).elim (fun h => (List.mem_append.mp h).elim (fun h => (List.mem_append.mp h).elim (fun h => (List.mem_append.mp h).elim (fun h => (List.mem_append.mp h).elim (fun h => lwi_r w h) (fun h => inX3 w h)) (fun h => inX4 w h)) (fun h => inX1 w h)) (fun h => inX2 w h)) (fun h => inX0 w h)) (fun h => absurd h List.not_mem_nil)
theorem wsL_law_x0 : ∀ w ∈ (vx_atS RX3 36 "java/lang/IllegalArgumentException" ["java/lang/RuntimeException", "java/lang/Exception"]).filter goodWord, w ∈ lw_tbl := by decide +kernel
theorem wsL_law_x1 : ∀ w ∈ (vx_atS RX3 47 "java/lang/IllegalStateException" ["java/lang/RuntimeException", "java/lang/Exception"]).filter goodWord, w ∈ lw_tbl := by decide +kernel
theorem wsL_law_x2 : ∀ w ∈ (vx_atS RX3 102 "java/lang/IndexOutOfBoundsException" ["java/lang/RuntimeException", "java/lang/Exception"]).filter goodWord, w ∈ lw_tbl := by decide +kernel
theorem wsL_law_in : ∀ w ∈ wsL_law, w ∈ lw_tbl := fun w h => (List.mem_append.mp h).elim (fun h => (List.mem_append.mp h).elim (fun h => (List.mem_append.mp h).elim (fun h => wsL_law_in0 w h) (fun h => wsL_law_x0 w h)) (fun h => wsL_law_x1 w h)) (fun h => wsL_law_x2 w h)
