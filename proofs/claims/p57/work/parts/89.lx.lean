section LWX
set_option maxRecDepth 50000 in
theorem wsX50_in : ∀ w ∈ wsX50, w ∈ lw_tb2 := by decide +kernel
set_option maxRecDepth 50000 in
theorem wsX40_in : ∀ w ∈ wsX40, w ∈ lw_tb2 := by decide +kernel
set_option maxRecDepth 50000 in
theorem wsX00_in : ∀ w ∈ wsX00, w ∈ lw_tb2 := by decide +kernel
set_option maxRecDepth 50000 in
theorem wsX30_in : ∀ w ∈ wsX30, w ∈ lw_tb2 := by decide +kernel
set_option maxRecDepth 50000 in
theorem wsX20_in : ∀ w ∈ wsX20, w ∈ lw_tb2 := by decide +kernel
set_option maxRecDepth 50000 in
theorem wsX10_in : ∀ w ∈ wsX10, w ∈ lw_tb2 := by decide +kernel
set_option maxRecDepth 50000 in
theorem wsJ00_in : ∀ w ∈ wsJ00, w ∈ lw_tb2 := by decide +kernel
set_option maxRecDepth 50000 in
theorem wsJ40_in : ∀ w ∈ wsJ40, w ∈ lw_tb2 := by decide +kernel
set_option maxRecDepth 50000 in
theorem wsL_law_in0 : ∀ w ∈ wsL_law0, w ∈ lw_tb2 := fun w h => have hc : GoodIn lw_tb2 (wsL_law0_r1 ++ (wsL_law0_r2 ++ (wsL_law0_r3 ++ (wsL_law0_r4 ++ (wsL_law0_r5 ++ (wsL_law0_r6 ++ (wsL_law0_r7 ++ (wsL_law0_r8 ++ (wsL_law0_r9 ++ (wsL_law0_r10 ++ (wsL_law0_r11 ++ (wsL_law0_r12 ++ (wsL_law0_r13 ++ (wsL_law0_r14 ++ (wsL_law0_r15 ++ (wsL_law0_r16 ++ (wsL_law0_r17 ++ (wsL_law0_r18 ++ (wsL_law0_r19 ++ (wsL_law0_r20 ++ (wsL_law0_r21 ++ (wsL_law0_r22 ++ (wsL_law0_r23 ++ (wsL_law0_r24 ++ (wsL_law0_r25 ++ (wsL_law0_r26 ++ (wsL_law0_r27 ++ (wsL_law0_r28 ++ (wsL_law0_r29 ++ (wsL_law0_r30 ++ (wsL_law0_r31 ++ (wsL_law0_r32 ++ (wsL_law0_r33 ++ (wsL_law0_r34 ++ wsL_law0_r35)))))))))))))))))))))))))))))))))) := goodIn_app wsL_law0_r1_in (goodIn_app wsL_law0_r2_in (goodIn_app wsL_law0_r3_in (goodIn_app wsL_law0_r4_in (goodIn_app wsL_law0_r5_in (goodIn_app wsL_law0_r6_in (goodIn_app wsL_law0_r7_in (goodIn_app wsL_law0_r8_in (goodIn_app wsL_law0_r9_in (goodIn_app wsL_law0_r10_in (goodIn_app wsL_law0_r11_in (goodIn_app wsL_law0_r12_in (goodIn_app wsL_law0_r13_in (goodIn_app wsL_law0_r14_in (goodIn_app wsL_law0_r15_in (goodIn_app wsL_law0_r16_in (goodIn_app wsL_law0_r17_in (goodIn_app wsL_law0_r18_in (goodIn_app wsL_law0_r19_in (goodIn_app wsL_law0_r20_in (goodIn_app wsL_law0_r21_in (goodIn_app wsL_law0_r22_in (goodIn_app wsL_law0_r23_in (goodIn_app wsL_law0_r24_in (goodIn_app wsL_law0_r25_in (goodIn_app wsL_law0_r26_in (goodIn_app wsL_law0_r27_in (goodIn_app wsL_law0_r28_in (goodIn_app wsL_law0_r29_in (goodIn_app wsL_law0_r30_in (goodIn_app wsL_law0_r31_in (goodIn_app wsL_law0_r32_in (goodIn_app wsL_law0_r33_in (goodIn_app wsL_law0_r34_in wsL_law0_r35_in))))))))))))))))))))))))))))))))); (List.mem_append.mp h).elim (fun h => (List.mem_append.mp h).elim (fun h => (List.mem_append.mp h).elim (fun h => (List.mem_append.mp h).elim (fun h => (List.mem_append.mp h).elim (fun h => (List.mem_append.mp h).elim (fun h => (List.mem_append.mp h).elim (fun h => (List.mem_append.mp h).elim (fun h => (List.mem_append.mp h).elim (fun h => (hc w h).1) (fun h => wsX50_in w h)) (fun h => wsX40_in w h)) (fun h => wsX00_in w h)) (fun h => wsX30_in w h)) (fun h => wsX20_in w h)) (fun h => wsX10_in w h)) (fun h => wsJ00_in w h)) (fun h => wsJ40_in w h)) (fun h => absurd h List.not_mem_nil)
theorem wsL_law_x0 : ∀ w ∈ (vx_atS RX5 80 "java/lang/IllegalStateException" ["java/lang/RuntimeException", "java/lang/Exception"]).filter goodWord, w ∈ lw_tb2 := by decide +kernel
theorem wsL_law_x1 : ∀ w ∈ (vx_atS RX5 94 "java/lang/IndexOutOfBoundsException" ["java/lang/RuntimeException", "java/lang/Exception"]).filter goodWord, w ∈ lw_tb2 := by decide +kernel
theorem wsL_law_x2 : ∀ w ∈ (vx_atS RX5 99 "java/lang/IllegalArgumentException" ["java/lang/RuntimeException", "java/lang/Exception"]).filter goodWord, w ∈ lw_tb2 := by decide +kernel
theorem wsL_law_in : ∀ w ∈ wsL_law, w ∈ lw_tb2 := fun w h => (List.mem_append.mp h).elim (fun h => (List.mem_append.mp h).elim (fun h => (List.mem_append.mp h).elim (fun h => wsL_law_in0 w h) (fun h => wsL_law_x0 w h)) (fun h => wsL_law_x1 w h)) (fun h => wsL_law_x2 w h)
theorem inlX0 : ∀ w ∈ wsX00, w ∈ wsL_law := fun _ h => List.mem_append_left _ (List.mem_append_left _ (List.mem_append_left _ (List.mem_append_left _ (List.mem_append_left _ (List.mem_append_left _ (List.mem_append_left _ (List.mem_append_left _ (List.mem_append_left _ (List.mem_append_right _ h)))))))))
theorem inX0 : ∀ w ∈ wsX00, w ∈ lw_tb2 := fun w h => wsL_law_in w (inlX0 w h)
theorem inlX1 : ∀ w ∈ wsX10, w ∈ wsL_law := fun _ h => List.mem_append_left _ (List.mem_append_left _ (List.mem_append_left _ (List.mem_append_left _ (List.mem_append_left _ (List.mem_append_left _ (List.mem_append_right _ h))))))
theorem inX1 : ∀ w ∈ wsX10, w ∈ lw_tb2 := fun w h => wsL_law_in w (inlX1 w h)
theorem inlX2 : ∀ w ∈ wsX20, w ∈ wsL_law := fun _ h => List.mem_append_left _ (List.mem_append_left _ (List.mem_append_left _ (List.mem_append_left _ (List.mem_append_left _ (List.mem_append_left _ (List.mem_append_left _ (List.mem_append_right _ h)))))))
theorem inX2 : ∀ w ∈ wsX20, w ∈ lw_tb2 := fun w h => wsL_law_in w (inlX2 w h)
theorem inlX3 : ∀ w ∈ wsX30, w ∈ wsL_law := fun _ h => List.mem_append_left _ (List.mem_append_left _ (List.mem_append_left _ (List.mem_append_left _ (List.mem_append_left _ (List.mem_append_left _ (List.mem_append_left _ (List.mem_append_left _ (List.mem_append_right _ h))))))))
theorem inX3 : ∀ w ∈ wsX30, w ∈ lw_tb2 := fun w h => wsL_law_in w (inlX3 w h)
theorem inlX4 : ∀ w ∈ wsX40, w ∈ wsL_law := fun _ h => List.mem_append_left _ (List.mem_append_left _ (List.mem_append_left _ (List.mem_append_left _ (List.mem_append_left _ (List.mem_append_left _ (List.mem_append_left _ (List.mem_append_left _ (List.mem_append_left _ (List.mem_append_left _ (List.mem_append_right _ h))))))))))
theorem inX4 : ∀ w ∈ wsX40, w ∈ lw_tb2 := fun w h => wsL_law_in w (inlX4 w h)
theorem inlX5 : ∀ w ∈ wsX50, w ∈ wsL_law := fun _ h => List.mem_append_left _ (List.mem_append_left _ (List.mem_append_left _ (List.mem_append_left _ (List.mem_append_left _ (List.mem_append_left _ (List.mem_append_left _ (List.mem_append_left _ (List.mem_append_left _ (List.mem_append_left _ (List.mem_append_left _ (List.mem_append_right _ h)))))))))))
theorem inX5 : ∀ w ∈ wsX50, w ∈ lw_tb2 := fun w h => wsL_law_in w (inlX5 w h)
theorem inX6 : ∀ w ∈ wsX60, w ∈ lw_tb2 := by decide +kernel
theorem inJ5 : ∀ w ∈ wsJ50, w ∈ lw_tb2 := by decide +kernel
theorem inJx8e188 : ∀ w ∈ wsJx8e1880, w ∈ lw_tb2 := by decide +kernel
theorem inJ6 : ∀ w ∈ wsJ60, w ∈ lw_tb2 := by decide +kernel
theorem inJ9 : ∀ w ∈ wsJ90, w ∈ lw_tb2 := by decide +kernel
theorem inlJ0 : ∀ w ∈ wsJ00, w ∈ wsL_law := fun _ h => List.mem_append_left _ (List.mem_append_left _ (List.mem_append_left _ (List.mem_append_left _ (List.mem_append_left _ (List.mem_append_right _ h)))))
theorem inJ0 : ∀ w ∈ wsJ00, w ∈ lw_tb2 := fun w h => wsL_law_in w (inlJ0 w h)
theorem inlJ4 : ∀ w ∈ wsJ40, w ∈ wsL_law := fun _ h => List.mem_append_left _ (List.mem_append_left _ (List.mem_append_left _ (List.mem_append_left _ (List.mem_append_right _ h))))
theorem inJ4 : ∀ w ∈ wsJ40, w ∈ lw_tb2 := fun w h => wsL_law_in w (inlJ4 w h)
theorem inJ1 : ∀ w ∈ wsJ10, w ∈ lw_tb2 := by decide +kernel
theorem inJ2 : ∀ w ∈ wsJ20, w ∈ lw_tb2 := by decide +kernel
theorem inJ10 : ∀ w ∈ wsJ100, w ∈ lw_tb2 := by decide +kernel
theorem inJ7 : ∀ w ∈ wsJ70, w ∈ lw_tb2 := by decide +kernel
theorem inJ8 : ∀ w ∈ wsJ80, w ∈ lw_tb2 := by decide +kernel
theorem inJ3 : ∀ w ∈ wsJ30, w ∈ lw_tb2 := by decide +kernel
end LWX