theorem nmX0 : ∀ a, a < 7 → ∀ b, b < 7 → a ≠ b → (TX0 a).2.1 ≠ (TX0 b).2.1 := by decide +kernel
theorem tyX0_ok : ∀ k, k < 7 → parseFieldDescriptor (TX0 k).2.2.1 = some (tyX0 k) := by decide +kernel
theorem nmX1 : ∀ a, a < 5 → ∀ b, b < 5 → a ≠ b → (TX1 a).2.1 ≠ (TX1 b).2.1 := by decide +kernel
theorem tyX1_ok : ∀ k, k < 5 → parseFieldDescriptor (TX1 k).2.2.1 = some (tyX1 k) := by decide +kernel
theorem nmX2 : ∀ a, a < 8 → ∀ b, b < 8 → a ≠ b → (TX2 a).2.1 ≠ (TX2 b).2.1 := by decide +kernel
theorem tyX2_ok : ∀ k, k < 8 → parseFieldDescriptor (TX2 k).2.2.1 = some (tyX2 k) := by decide +kernel
theorem nmX3 : ∀ a, a < 18 → ∀ b, b < 18 → a ≠ b → (TX3 a).2.1 ≠ (TX3 b).2.1 := by decide +kernel
theorem tyX3_ok : ∀ k, k < 18 → parseFieldDescriptor (TX3 k).2.2.1 = some (tyX3 k) := by decide +kernel
theorem nmX4 : ∀ a, a < 14 → ∀ b, b < 14 → a ≠ b → (TX4 a).2.1 ≠ (TX4 b).2.1 := by decide +kernel
theorem tyX4_ok : ∀ k, k < 14 → parseFieldDescriptor (TX4 k).2.2.1 = some (tyX4 k) := by decide +kernel
theorem nmX5 : ∀ a, a < 18 → ∀ b, b < 18 → a ≠ b → (TX5 a).2.1 ≠ (TX5 b).2.1 := by decide +kernel
theorem tyX5_ok : ∀ k, k < 18 → parseFieldDescriptor (TX5 k).2.2.1 = some (tyX5 k) := by decide +kernel
theorem nmX6 : ∀ a, a < 2 → ∀ b, b < 2 → a ≠ b → (TX6 a).2.1 ≠ (TX6 b).2.1 := by decide +kernel
theorem tyX6_ok : ∀ k, k < 2 → parseFieldDescriptor (TX6 k).2.2.1 = some (tyX6 k) := by decide +kernel
theorem nmX7 : ∀ a, a < 3 → ∀ b, b < 3 → a ≠ b → (TX7 a).2.1 ≠ (TX7 b).2.1 := by decide +kernel
theorem tyX7_ok : ∀ k, k < 3 → parseFieldDescriptor (TX7 k).2.2.1 = some (tyX7 k) := by decide +kernel
theorem nmX8 : ∀ a, a < 5 → ∀ b, b < 5 → a ≠ b → (TX8 a).2.1 ≠ (TX8 b).2.1 := by decide +kernel
theorem tyX8_ok : ∀ k, k < 5 → parseFieldDescriptor (TX8 k).2.2.1 = some (tyX8 k) := by decide +kernel
theorem nmX9 : ∀ a, a < 5 → ∀ b, b < 5 → a ≠ b → (TX9 a).2.1 ≠ (TX9 b).2.1 := by decide +kernel
theorem tyX9_ok : ∀ k, k < 5 → parseFieldDescriptor (TX9 k).2.2.1 = some (tyX9 k) := by decide +kernel
theorem nmX10 : ∀ a, a < 4 → ∀ b, b < 4 → a ≠ b → (TX10 a).2.1 ≠ (TX10 b).2.1 := by decide +kernel
theorem tyX10_ok : ∀ k, k < 4 → parseFieldDescriptor (TX10 k).2.2.1 = some (tyX10 k) := by decide +kernel
theorem nmX11 : ∀ a, a < 6 → ∀ b, b < 6 → a ≠ b → (TX11 a).2.1 ≠ (TX11 b).2.1 := by decide +kernel
theorem tyX11_ok : ∀ k, k < 6 → parseFieldDescriptor (TX11 k).2.2.1 = some (tyX11 k) := by decide +kernel
theorem nmX12 : ∀ a, a < 109 → ∀ b, b < 109 → a ≠ b → (TX12 a).2.1 ≠ (TX12 b).2.1 := by decide +kernel
theorem tyX12_ok : ∀ k, k < 109 → parseFieldDescriptor (TX12 k).2.2.1 = some (tyX12 k) := by decide +kernel
theorem nmJx145de : ∀ a, a < 0 → ∀ b, b < 0 → a ≠ b → (TJx145de a).2.1 ≠ (TJx145de b).2.1 := by decide +kernel
theorem tyJx145de_ok : ∀ k, k < 0 → parseFieldDescriptor (TJx145de k).2.2.1 = some (tyJx145de k) := by decide +kernel
theorem nmJx8e188 : ∀ a, a < 0 → ∀ b, b < 0 → a ≠ b → (TJx8e188 a).2.1 ≠ (TJx8e188 b).2.1 := by decide +kernel
theorem tyJx8e188_ok : ∀ k, k < 0 → parseFieldDescriptor (TJx8e188 k).2.2.1 = some (tyJx8e188 k) := by decide +kernel
theorem nmJxab1ab : ∀ a, a < 0 → ∀ b, b < 0 → a ≠ b → (TJxab1ab a).2.1 ≠ (TJxab1ab b).2.1 := by decide +kernel
theorem tyJxab1ab_ok : ∀ k, k < 0 → parseFieldDescriptor (TJxab1ab k).2.2.1 = some (tyJxab1ab k) := by decide +kernel
theorem nmJ9 : ∀ a, a < 0 → ∀ b, b < 0 → a ≠ b → (TJ9 a).2.1 ≠ (TJ9 b).2.1 := by decide +kernel
theorem tyJ9_ok : ∀ k, k < 0 → parseFieldDescriptor (TJ9 k).2.2.1 = some (tyJ9 k) := by decide +kernel
theorem nmJ0 : ∀ a, a < 0 → ∀ b, b < 0 → a ≠ b → (TJ0 a).2.1 ≠ (TJ0 b).2.1 := by decide +kernel
theorem tyJ0_ok : ∀ k, k < 0 → parseFieldDescriptor (TJ0 k).2.2.1 = some (tyJ0 k) := by decide +kernel
theorem nmJ10 : ∀ a, a < 0 → ∀ b, b < 0 → a ≠ b → (TJ10 a).2.1 ≠ (TJ10 b).2.1 := by decide +kernel
theorem tyJ10_ok : ∀ k, k < 0 → parseFieldDescriptor (TJ10 k).2.2.1 = some (tyJ10 k) := by decide +kernel
theorem nmJxa1e45 : ∀ a, a < 0 → ∀ b, b < 0 → a ≠ b → (TJxa1e45 a).2.1 ≠ (TJxa1e45 b).2.1 := by decide +kernel
theorem tyJxa1e45_ok : ∀ k, k < 0 → parseFieldDescriptor (TJxa1e45 k).2.2.1 = some (tyJxa1e45 k) := by decide +kernel
theorem nmJxc12de : ∀ a, a < 0 → ∀ b, b < 0 → a ≠ b → (TJxc12de a).2.1 ≠ (TJxc12de b).2.1 := by decide +kernel
theorem tyJxc12de_ok : ∀ k, k < 0 → parseFieldDescriptor (TJxc12de k).2.2.1 = some (tyJxc12de k) := by decide +kernel
theorem nmJx4a65c : ∀ a, a < 3 → ∀ b, b < 3 → a ≠ b → (TJx4a65c a).2.1 ≠ (TJx4a65c b).2.1 := by decide +kernel
theorem tyJx4a65c_ok : ∀ k, k < 3 → parseFieldDescriptor (TJx4a65c k).2.2.1 = some (tyJx4a65c k) := by decide +kernel
theorem nmJ7 : ∀ a, a < 0 → ∀ b, b < 0 → a ≠ b → (TJ7 a).2.1 ≠ (TJ7 b).2.1 := by decide +kernel
theorem tyJ7_ok : ∀ k, k < 0 → parseFieldDescriptor (TJ7 k).2.2.1 = some (tyJ7 k) := by decide +kernel
theorem nmJx5ef63 : ∀ a, a < 0 → ∀ b, b < 0 → a ≠ b → (TJx5ef63 a).2.1 ≠ (TJx5ef63 b).2.1 := by decide +kernel
theorem tyJx5ef63_ok : ∀ k, k < 0 → parseFieldDescriptor (TJx5ef63 k).2.2.1 = some (tyJx5ef63 k) := by decide +kernel
theorem nmJxbd725 : ∀ a, a < 0 → ∀ b, b < 0 → a ≠ b → (TJxbd725 a).2.1 ≠ (TJxbd725 b).2.1 := by decide +kernel
theorem tyJxbd725_ok : ∀ k, k < 0 → parseFieldDescriptor (TJxbd725 k).2.2.1 = some (tyJxbd725 k) := by decide +kernel
theorem nmJ15 : ∀ a, a < 0 → ∀ b, b < 0 → a ≠ b → (TJ15 a).2.1 ≠ (TJ15 b).2.1 := by decide +kernel
theorem tyJ15_ok : ∀ k, k < 0 → parseFieldDescriptor (TJ15 k).2.2.1 = some (tyJ15 k) := by decide +kernel
theorem nmJxf0a74 : ∀ a, a < 0 → ∀ b, b < 0 → a ≠ b → (TJxf0a74 a).2.1 ≠ (TJxf0a74 b).2.1 := by decide +kernel
theorem tyJxf0a74_ok : ∀ k, k < 0 → parseFieldDescriptor (TJxf0a74 k).2.2.1 = some (tyJxf0a74 k) := by decide +kernel
theorem nmJxa66e6 : ∀ a, a < 0 → ∀ b, b < 0 → a ≠ b → (TJxa66e6 a).2.1 ≠ (TJxa66e6 b).2.1 := by decide +kernel
theorem tyJxa66e6_ok : ∀ k, k < 0 → parseFieldDescriptor (TJxa66e6 k).2.2.1 = some (tyJxa66e6 k) := by decide +kernel
theorem nmJ8 : ∀ a, a < 0 → ∀ b, b < 0 → a ≠ b → (TJ8 a).2.1 ≠ (TJ8 b).2.1 := by decide +kernel
theorem tyJ8_ok : ∀ k, k < 0 → parseFieldDescriptor (TJ8 k).2.2.1 = some (tyJ8 k) := by decide +kernel
theorem nmJ3 : ∀ a, a < 0 → ∀ b, b < 0 → a ≠ b → (TJ3 a).2.1 ≠ (TJ3 b).2.1 := by decide +kernel
theorem tyJ3_ok : ∀ k, k < 0 → parseFieldDescriptor (TJ3 k).2.2.1 = some (tyJ3 k) := by decide +kernel
set_option maxRecDepth 20000 in
theorem wsL_law_in0 : ∀ w ∈ wsL_law0, w ∈ lw_tbl := fun w h => (List.mem_append.mp h).elim (fun h => (fun w h => (List.mem_append.mp h).elim (fun h => (fun w h => (List.mem_append.mp h).elim (fun h => (fun w h => (List.mem_append.mp h).elim (fun h => (fun w h => (List.mem_append.mp h).elim (fun h => (fun w h => (List.mem_append.mp h).elim (fun h => (fun w h => (List.mem_append.mp h).elim (fun h => (fun w h => (List.mem_append.mp h).elim (fun h => (fun w h => (List.mem_append.mp h).elim (fun h => (fun w h => (List.mem_append.mp h).elim (fun h => (fun w h => (List.mem_append.mp h).elim (fun h => (fun w h => (List.mem_append.mp h).elim (fun h => (fun w h => (List.mem_append.mp h).elim (fun h => (fun w h => (List.mem_append.mp h).elim (fun h => (fun w h => (List.mem_append.mp h).elim (fun h => (fun w h => (List.mem_append.mp h).elim (fun h => wsL_law0_r1_inL w h) (fun h => (fun w h => (List.mem_append.mp h).elim (fun h => wsL_law0_r2_inL w h) (fun h => (fun w h => (List.mem_append.mp h).elim (fun h => wsL_law0_r3_inL w h) (fun h => (fun w h => (List.mem_append.mp h).elim (fun h => wsL_law0_r4_inL w h) (fun h => (fun w h => (List.mem_append.mp h).elim (fun h => wsL_law0_r5_inL w h) (fun h => (fun w h => (List.mem_append.mp h).elim (fun h => wsL_law0_r6_inL w h) (fun h => (fun w h => (List.mem_append.mp h).elim (fun h => wsL_law0_r7_inL w h) (fun h => (fun w h => (List.mem_append.mp h).elim (fun h => wsL_law0_r8_inL w h) (fun h => (fun w h => (List.mem_append.mp h).elim (fun h => wsL_law0_r9_inL w h) (fun h => (fun w h => (List.mem_append.mp h).elim (fun h => wsL_law0_r10_inL w h) (fun h => (fun w h => (List.mem_append.mp h).elim (fun h => wsL_law0_r11_inL w h) (fun h => (fun w h => (List.mem_append.mp h).elim (fun h => wsL_law0_r12_inL w h) (fun h => (fun w h => (List.mem_append.mp h).elim (fun h => wsL_law0_r13_inL w h) (fun h => (fun w h => (List.mem_append.mp h).elim (fun h => wsL_law0_r14_inL w h) (fun h => (fun w h => (List.mem_append.mp h).elim (fun h => wsL_law0_r15_inL w h) (fun h => (fun w h => (List.mem_append.mp h).elim (fun h => wsL_law0_r16_inL w h) (fun h => (fun w h => (List.mem_append.mp h).elim (fun h => wsL_law0_r17_inL w h) (fun h => (fun w h => (List.mem_append.mp h).elim (fun h => wsL_law0_r18_inL w h) (fun h => (fun w h => (List.mem_append.mp h).elim (fun h => wsL_law0_r19_inL w h) (fun h => (fun w h => (List.mem_append.mp h).elim (fun h => wsL_law0_r20_inL w h) (fun h => (fun w h => (List.mem_append.mp h).elim (fun h => wsL_law0_r21_inL w h) (fun h => (fun w h => (List.mem_append.mp h).elim (fun h => wsL_law0_r22_inL w h) (fun h => (fun w h => (List.mem_append.mp h).elim (fun h => wsL_law0_r23_inL w h) (fun h => (fun w h => (List.mem_append.mp h).elim (fun h => wsL_law0_r24_inL w h) (fun h => (fun w h => (List.mem_append.mp h).elim (fun h => wsL_law0_r25_inL w h) (fun h => (fun w h => (List.mem_append.mp h).elim (fun h => wsL_law0_r26_inL w h) (fun h => (fun w h => (List.mem_append.mp h).elim (fun h => wsL_law0_r27_inL w h) (fun h => (fun w h => (List.mem_append.mp h).elim (fun h => wsL_law0_r28_inL w h) (fun h => (fun w h => (List.mem_append.mp h).elim (fun h => wsL_law0_r29_inL w h) (fun h => (fun w h => (List.mem_append.mp h).elim (fun h => wsL_law0_r30_inL w h) (fun h => (fun w h => (List.mem_append.mp h).elim (fun h => wsL_law0_r31_inL w h) (fun h => (fun w h => (List.mem_append.mp h).elim (fun h => wsL_law0_r32_inL w h) (fun h => (fun w h => (List.mem_append.mp h).elim (fun h => wsL_law0_r33_inL w h) (fun h => (fun w h => (List.mem_append.mp h).elim (fun h => wsL_law0_r34_inL w h) (fun h => (fun w h => (List.mem_append.mp h).elim (fun h => wsL_law0_r35_inL w h) (fun h => (fun w h => (List.mem_append.mp h).elim (fun h => wsL_law0_r36_inL w h) (fun h => (fun w h => (List.mem_append.mp h).elim (fun h => wsL_law0_r37_inL w h) (fun h => (fun w h => (List.mem_append.mp h).elim (fun h => wsL_law0_r38_inL w h) (fun h => (fun w h => (List.mem_append.mp h).elim (fun h => wsL_law0_r39_inL w h) (fun h => (fun w h => (List.mem_append.mp h).elim (fun h => wsL_law0_r40_inL w h) (fun h => (fun w h => (List.mem_append.mp h).elim (fun h => wsL_law0_r41_inL w h) (fun h => (fun w h => (List.mem_append.mp h).elim (fun h => wsL_law0_r42_inL w h) (fun h => (fun w h => (List.mem_append.mp h).elim (fun h => wsL_law0_r43_inL w h) (fun h => (fun w h => (List.mem_append.mp h).elim (fun h => wsL_law0_r44_inL w h) (fun h => (fun w h => (List.mem_append.mp h).elim (fun h => wsL_law0_r45_inL w h) (fun h => (fun w h => (List.mem_append.mp h).elim (fun h => wsL_law0_r46_inL w h) (fun h => (fun w h => (List.mem_append.mp h).elim (fun h => wsL_law0_r47_inL w h) (fun h => (fun w h => (List.mem_append.mp h).elim (fun h => wsL_law0_r48_inL w h) (fun h => (fun w h => (List.mem_append.mp h).elim (fun h => wsL_law0_r49_inL w h) (fun h => (fun w h => (List.mem_append.mp h).elim (fun h => wsL_law0_r50_inL w h) (fun h => (fun w h => (List.mem_append.mp h).elim (fun h => wsL_law0_r51_inL w h) (fun h => (fun w h => (List.mem_append.mp h).elim (fun h => wsL_law0_r52_inL w h) (fun h => (fun w h => (List.mem_append.mp h).elim (fun h => wsL_law0_r53_inL w h) (fun h => (fun w h => (List.mem_append.mp h).elim (fun h => wsL_law0_r54_inL w h) (fun h => (fun w h => (List.mem_append.mp h).elim (fun h => wsL_law0_r55_inL w h) (fun h => (fun w h => (List.mem_append.mp h).elim (fun h => wsL_law0_r56_inL w h) (fun h => (fun w h => (List.mem_append.mp h).elim (fun h => wsL_law0_r57_inL w h) (fun h => (fun w h => (List.mem_append.mp h).elim (fun h => wsL_law0_r58_inL w h) (fun h => (fun w h => (List.mem_append.mp h).elim (fun h => wsL_law0_r59_inL w h) (fun h => (fun w h => (List.mem_append.mp h).elim (fun h => wsL_law0_r60_inL w h) (fun h => (fun w h => (List.mem_append.mp h).elim (fun h => wsL_law0_r61_inL w h) (fun h => (fun w h => (List.mem_append.mp h).elim (fun h => wsL_law0_r62_inL w h) (fun h => (fun w h => (List.mem_append.mp h).elim (fun h => wsL_law0_r63_inL w h) (fun h => (fun w h => (List.mem_append.mp h).elim (fun h => wsL_law0_r64_inL w h) (fun h => (fun w h => (List.mem_append.mp h).elim (fun h => wsL_law0_r65_inL w h) (fun h => (fun w h => (List.mem_append.mp h).elim (fun h => wsL_law0_r66_inL w h) (fun h => (fun w h => (List.mem_append.mp h).elim (fun h => wsL_law0_r67_inL w h) (fun h => (fun w h => (List.mem_append.mp h).elim (fun h => wsL_law0_r68_inL w h) (fun h => (fun w h => (List.mem_append.mp h).elim (fun h => wsL_law0_r69_inL w h) (fun h => (fun w h => (List.mem_append.mp h).elim (fun h => wsL_law0_r70_inL w h) (fun h => (fun w h => (List.mem_append.mp h).elim (fun h => wsL_law0_r71_inL w h) (fun h => (fun w h => (List.mem_append.mp h).elim (fun h => wsL_law0_r72_inL w h) (fun h => (fun w h => (List.mem_append.mp h).elim (fun h => wsL_law0_r73_inL w h) (fun h => (fun w h => (List.mem_append.mp h).elim (fun h => wsL_law0_r74_inL w h) (fun h => (fun w h => wsL_law0_r75_inL w h) w h)) w h)) w h)) w h)) w h)) w h)) w h)) w h)) w h)) w h)) w h)) w h)) w h)) w h)) w h)) w h)) w h)) w h)) w h)) w h)) w h)) w h)) w h)) w h)) w h)) w h)) w h)) w h)) w h)) w h)) w h)) w h)) w h)) w h)) w h)) w h)) w h)) w h)) w h)) w h)) w h)) w h)) w h)) w h)) w h)) w h)) w h)) w h)) w h)) w h)) w h)) w h)) w h)) w h)) w h)) w h)) w h)) w h)) w h)) w h)) w h)) w h)) w h)) w h)) w h)) w h)) w h)) w h)) w h)) w h)) w h)) w h)) w h)) w h)) w h) (fun h => wsX110_inL w h)) w h) (fun h => wsX120_inL w h)) w h) (fun h => wsX50_inL w h)) w h) (fun h => wsX20_inL w h)) w h) (fun h => wsX60_inL w h)) w h) (fun h => wsX30_inL w h)) w h) (fun h => wsJx4a65c0_inL w h)) w h) (fun h => wsX100_inL w h)) w h) (fun h => wsX70_inL w h)) w h) (fun h => wsX10_inL w h)) w h) (fun h => wsX00_inL w h)) w h) (fun h => wsX80_inL w h)) w h) (fun h => wsX90_inL w h)) w h) (fun h => wsX40_inL w h)) w h) (fun h => nomatch h)
theorem wsL_law_x0 : ∀ w ∈ (vx_atS RX11 46 "java/lang/IllegalArgumentException" ["java/lang/RuntimeException", "java/lang/Exception"]).filter goodWord, w ∈ lw_tbl := by decide +kernel
theorem wsL_law_x1 : ∀ w ∈ (vx_atS RX11 67 "java/lang/IllegalStateException" ["java/lang/RuntimeException", "java/lang/Exception"]).filter goodWord, w ∈ lw_tbl := by decide +kernel
theorem wsL_law_x2 : ∀ w ∈ (vx_atS RX11 166 "java/lang/IndexOutOfBoundsException" ["java/lang/RuntimeException", "java/lang/Exception"]).filter goodWord, w ∈ lw_tbl := by decide +kernel
theorem wsL_law_in : ∀ w ∈ wsL_law, w ∈ lw_tbl := fun w h => (List.mem_append.mp h).elim (fun h => (List.mem_append.mp h).elim (fun h => (List.mem_append.mp h).elim (fun h => wsL_law_in0 w h) (fun h => wsL_law_x0 w h)) (fun h => wsL_law_x1 w h)) (fun h => wsL_law_x2 w h)
theorem inlX0 : ∀ w ∈ wsX00, w ∈ wsL_law := fun _ h => List.mem_append_left _ (List.mem_append_left _ (List.mem_append_left _ (List.mem_append_left _ (List.mem_append_left _ (List.mem_append_left _ (List.mem_append_left _ (List.mem_append_right _ h)))))))
theorem inX0 : ∀ w ∈ wsX00, w ∈ lw_tbl := fun w h => wsL_law_in w (inlX0 w h)
theorem inlX1 : ∀ w ∈ wsX10, w ∈ wsL_law := fun _ h => List.mem_append_left _ (List.mem_append_left _ (List.mem_append_left _ (List.mem_append_left _ (List.mem_append_left _ (List.mem_append_left _ (List.mem_append_left _ (List.mem_append_left _ (List.mem_append_right _ h))))))))
theorem inX1 : ∀ w ∈ wsX10, w ∈ lw_tbl := fun w h => wsL_law_in w (inlX1 w h)
theorem inlX2 : ∀ w ∈ wsX20, w ∈ wsL_law := fun _ h => List.mem_append_left _ (List.mem_append_left _ (List.mem_append_left _ (List.mem_append_left _ (List.mem_append_left _ (List.mem_append_left _ (List.mem_append_left _ (List.mem_append_left _ (List.mem_append_left _ (List.mem_append_left _ (List.mem_append_left _ (List.mem_append_left _ (List.mem_append_left _ (List.mem_append_left _ (List.mem_append_right _ h))))))))))))))
theorem inX2 : ∀ w ∈ wsX20, w ∈ lw_tbl := fun w h => wsL_law_in w (inlX2 w h)
theorem inlX3 : ∀ w ∈ wsX30, w ∈ wsL_law := fun _ h => List.mem_append_left _ (List.mem_append_left _ (List.mem_append_left _ (List.mem_append_left _ (List.mem_append_left _ (List.mem_append_left _ (List.mem_append_left _ (List.mem_append_left _ (List.mem_append_left _ (List.mem_append_left _ (List.mem_append_left _ (List.mem_append_left _ (List.mem_append_right _ h))))))))))))
theorem inX3 : ∀ w ∈ wsX30, w ∈ lw_tbl := fun w h => wsL_law_in w (inlX3 w h)
theorem inlX4 : ∀ w ∈ wsX40, w ∈ wsL_law := fun _ h => List.mem_append_left _ (List.mem_append_left _ (List.mem_append_left _ (List.mem_append_left _ (List.mem_append_right _ h))))
theorem inX4 : ∀ w ∈ wsX40, w ∈ lw_tbl := fun w h => wsL_law_in w (inlX4 w h)
theorem inlX5 : ∀ w ∈ wsX50, w ∈ wsL_law := fun _ h => List.mem_append_left _ (List.mem_append_left _ (List.mem_append_left _ (List.mem_append_left _ (List.mem_append_left _ (List.mem_append_left _ (List.mem_append_left _ (List.mem_append_left _ (List.mem_append_left _ (List.mem_append_left _ (List.mem_append_left _ (List.mem_append_left _ (List.mem_append_left _ (List.mem_append_left _ (List.mem_append_left _ (List.mem_append_right _ h)))))))))))))))
theorem inX5 : ∀ w ∈ wsX50, w ∈ lw_tbl := fun w h => wsL_law_in w (inlX5 w h)
theorem inlX6 : ∀ w ∈ wsX60, w ∈ wsL_law := fun _ h => List.mem_append_left _ (List.mem_append_left _ (List.mem_append_left _ (List.mem_append_left _ (List.mem_append_left _ (List.mem_append_left _ (List.mem_append_left _ (List.mem_append_left _ (List.mem_append_left _ (List.mem_append_left _ (List.mem_append_left _ (List.mem_append_left _ (List.mem_append_left _ (List.mem_append_right _ h)))))))))))))
theorem inX6 : ∀ w ∈ wsX60, w ∈ lw_tbl := fun w h => wsL_law_in w (inlX6 w h)
theorem inlX7 : ∀ w ∈ wsX70, w ∈ wsL_law := fun _ h => List.mem_append_left _ (List.mem_append_left _ (List.mem_append_left _ (List.mem_append_left _ (List.mem_append_left _ (List.mem_append_left _ (List.mem_append_left _ (List.mem_append_left _ (List.mem_append_left _ (List.mem_append_right _ h)))))))))
theorem inX7 : ∀ w ∈ wsX70, w ∈ lw_tbl := fun w h => wsL_law_in w (inlX7 w h)
theorem inlX8 : ∀ w ∈ wsX80, w ∈ wsL_law := fun _ h => List.mem_append_left _ (List.mem_append_left _ (List.mem_append_left _ (List.mem_append_left _ (List.mem_append_left _ (List.mem_append_left _ (List.mem_append_right _ h))))))
theorem inX8 : ∀ w ∈ wsX80, w ∈ lw_tbl := fun w h => wsL_law_in w (inlX8 w h)
theorem inlX9 : ∀ w ∈ wsX90, w ∈ wsL_law := fun _ h => List.mem_append_left _ (List.mem_append_left _ (List.mem_append_left _ (List.mem_append_left _ (List.mem_append_left _ (List.mem_append_right _ h)))))
theorem inX9 : ∀ w ∈ wsX90, w ∈ lw_tbl := fun w h => wsL_law_in w (inlX9 w h)
theorem inlX10 : ∀ w ∈ wsX100, w ∈ wsL_law := fun _ h => List.mem_append_left _ (List.mem_append_left _ (List.mem_append_left _ (List.mem_append_left _ (List.mem_append_left _ (List.mem_append_left _ (List.mem_append_left _ (List.mem_append_left _ (List.mem_append_left _ (List.mem_append_left _ (List.mem_append_right _ h))))))))))
theorem inX10 : ∀ w ∈ wsX100, w ∈ lw_tbl := fun w h => wsL_law_in w (inlX10 w h)
theorem inlX11 : ∀ w ∈ wsX110, w ∈ wsL_law := fun _ h => List.mem_append_left _ (List.mem_append_left _ (List.mem_append_left _ (List.mem_append_left _ (List.mem_append_left _ (List.mem_append_left _ (List.mem_append_left _ (List.mem_append_left _ (List.mem_append_left _ (List.mem_append_left _ (List.mem_append_left _ (List.mem_append_left _ (List.mem_append_left _ (List.mem_append_left _ (List.mem_append_left _ (List.mem_append_left _ (List.mem_append_left _ (List.mem_append_right _ h)))))))))))))))))
theorem inX11 : ∀ w ∈ wsX110, w ∈ lw_tbl := fun w h => wsL_law_in w (inlX11 w h)
theorem inlX12 : ∀ w ∈ wsX120, w ∈ wsL_law := fun _ h => List.mem_append_left _ (List.mem_append_left _ (List.mem_append_left _ (List.mem_append_left _ (List.mem_append_left _ (List.mem_append_left _ (List.mem_append_left _ (List.mem_append_left _ (List.mem_append_left _ (List.mem_append_left _ (List.mem_append_left _ (List.mem_append_left _ (List.mem_append_left _ (List.mem_append_left _ (List.mem_append_left _ (List.mem_append_left _ (List.mem_append_right _ h))))))))))))))))
theorem inX12 : ∀ w ∈ wsX120, w ∈ lw_tbl := fun w h => wsL_law_in w (inlX12 w h)
theorem inJx145de : ∀ w ∈ wsJx145de0, w ∈ lw_tbl := by decide +kernel
theorem inJx8e188 : ∀ w ∈ wsJx8e1880, w ∈ lw_tbl := by decide +kernel
theorem inJxab1ab : ∀ w ∈ wsJxab1ab0, w ∈ lw_tbl := by decide +kernel
theorem inJ9 : ∀ w ∈ wsJ90, w ∈ lw_tbl := by decide +kernel
theorem inJ0 : ∀ w ∈ wsJ00, w ∈ lw_tbl := by decide +kernel
theorem inJ10 : ∀ w ∈ wsJ100, w ∈ lw_tbl := by decide +kernel
theorem inJxa1e45 : ∀ w ∈ wsJxa1e450, w ∈ lw_tbl := by decide +kernel
theorem inJxc12de : ∀ w ∈ wsJxc12de0, w ∈ lw_tbl := by decide +kernel
theorem inlJx4a65c : ∀ w ∈ wsJx4a65c0, w ∈ wsL_law := fun _ h => List.mem_append_left _ (List.mem_append_left _ (List.mem_append_left _ (List.mem_append_left _ (List.mem_append_left _ (List.mem_append_left _ (List.mem_append_left _ (List.mem_append_left _ (List.mem_append_left _ (List.mem_append_left _ (List.mem_append_left _ (List.mem_append_right _ h)))))))))))
theorem inJx4a65c : ∀ w ∈ wsJx4a65c0, w ∈ lw_tbl := fun w h => wsL_law_in w (inlJx4a65c w h)
theorem inJ7 : ∀ w ∈ wsJ70, w ∈ lw_tbl := by decide +kernel
theorem inJx5ef63 : ∀ w ∈ wsJx5ef630, w ∈ lw_tbl := by decide +kernel
theorem inJxbd725 : ∀ w ∈ wsJxbd7250, w ∈ lw_tbl := by decide +kernel
theorem inJ15 : ∀ w ∈ wsJ150, w ∈ lw_tbl := by decide +kernel
theorem inJxf0a74 : ∀ w ∈ wsJxf0a740, w ∈ lw_tbl := by decide +kernel
theorem inJxa66e6 : ∀ w ∈ wsJxa66e60, w ∈ lw_tbl := by decide +kernel
theorem inJ8 : ∀ w ∈ wsJ80, w ∈ lw_tbl := by decide +kernel
theorem inJ3 : ∀ w ∈ wsJ30, w ∈ lw_tbl := by decide +kernel
theorem dX0_init_0 : decode cX0_init 0 = .ok (.aload_n 0, 1) := by decide +kernel
theorem dX0_init_1 : decode cX0_init 1 = .ok (.invokespecial 3, 3) := by decide +kernel
theorem dX0_init_4 : decode cX0_init 4 = .ok (.aload_n 0, 1) := by decide +kernel
theorem dX0_init_5 : decode cX0_init 5 = .ok (.bipush 6, 2) := by decide +kernel
theorem dX0_init_7 : decode cX0_init 7 = .ok (.newarray .int, 2) := by decide +kernel
theorem dX0_init_9 : decode cX0_init 9 = .ok (.putfield 9, 3) := by decide +kernel
theorem dX0_init_12 : decode cX0_init 12 = .ok (.aload_n 0, 1) := by decide +kernel
theorem dX0_init_13 : decode cX0_init 13 = .ok (.bipush 10, 2) := by decide +kernel
theorem dX0_init_15 : decode cX0_init 15 = .ok (.newarray .int, 2) := by decide +kernel
theorem dX0_init_17 : decode cX0_init 17 = .ok (.putfield 15, 3) := by decide +kernel
theorem dX0_init_20 : decode cX0_init 20 = .ok (.aload_n 0, 1) := by decide +kernel
theorem dX0_init_21 : decode cX0_init 21 = .ok (.bipush 16, 2) := by decide +kernel
theorem dX0_init_23 : decode cX0_init 23 = .ok (.iconst 4, 1) := by decide +kernel
theorem dX0_init_24 : decode cX0_init 24 = .ok (.multianewarray 18 2, 4) := by decide +kernel
theorem dX0_init_28 : decode cX0_init 28 = .ok (.putfield 20, 3) := by decide +kernel
theorem dX0_init_31 : decode cX0_init 31 = .ok (.aload_n 0, 1) := by decide +kernel
theorem dX0_init_32 : decode cX0_init 32 = .ok (.bipush 16, 2) := by decide +kernel
theorem dX0_init_34 : decode cX0_init 34 = .ok (.newarray .int, 2) := by decide +kernel
theorem dX0_init_36 : decode cX0_init 36 = .ok (.putfield 23, 3) := by decide +kernel
theorem dX0_init_39 : decode cX0_init 39 = .ok (.aload_n 0, 1) := by decide +kernel
theorem dX0_init_40 : decode cX0_init 40 = .ok (.bipush 10, 2) := by decide +kernel
theorem dX0_init_42 : decode cX0_init 42 = .ok (.newarray .boolean, 2) := by decide +kernel
theorem dX0_init_44 : decode cX0_init 44 = .ok (.putfield 26, 3) := by decide +kernel
theorem dX0_init_47 : decode cX0_init 47 = .ok (.aload_n 0, 1) := by decide +kernel
theorem dX0_init_48 : decode cX0_init 48 = .ok (.bipush 10, 2) := by decide +kernel
theorem dX0_init_50 : decode cX0_init 50 = .ok (.newarray .int, 2) := by decide +kernel
theorem dX0_init_52 : decode cX0_init 52 = .ok (.putfield 30, 3) := by decide +kernel
theorem dX0_init_55 : decode cX0_init 55 = .ok (.return_, 1) := by decide +kernel
theorem dX1_init_0 : decode cX1_init 0 = .ok (.aload_n 0, 1) := by decide +kernel
theorem dX1_init_1 : decode cX1_init 1 = .ok (.invokespecial 3, 3) := by decide +kernel
theorem dX1_init_4 : decode cX1_init 4 = .ok (.aload_n 0, 1) := by decide +kernel
theorem dX1_init_5 : decode cX1_init 5 = .ok (.bipush 6, 2) := by decide +kernel
theorem dX1_init_7 : decode cX1_init 7 = .ok (.sipush 200, 3) := by decide +kernel
theorem dX1_init_10 : decode cX1_init 10 = .ok (.multianewarray 9 2, 4) := by decide +kernel
theorem dX1_init_14 : decode cX1_init 14 = .ok (.putfield 11, 3) := by decide +kernel
theorem dX1_init_17 : decode cX1_init 17 = .ok (.aload_n 0, 1) := by decide +kernel
theorem dX1_init_18 : decode cX1_init 18 = .ok (.bipush 6, 2) := by decide +kernel
theorem dX1_init_20 : decode cX1_init 20 = .ok (.newarray .int, 2) := by decide +kernel
theorem dX1_init_22 : decode cX1_init 22 = .ok (.putfield 16, 3) := by decide +kernel
theorem dX1_init_25 : decode cX1_init 25 = .ok (.aload_n 0, 1) := by decide +kernel
theorem dX1_init_26 : decode cX1_init 26 = .ok (.bipush 6, 2) := by decide +kernel
theorem dX1_init_28 : decode cX1_init 28 = .ok (.newarray .int, 2) := by decide +kernel
theorem dX1_init_30 : decode cX1_init 30 = .ok (.putfield 20, 3) := by decide +kernel
theorem dX1_init_33 : decode cX1_init 33 = .ok (.aload_n 0, 1) := by decide +kernel
theorem dX1_init_34 : decode cX1_init 34 = .ok (.bipush 6, 2) := by decide +kernel
theorem dX1_init_36 : decode cX1_init 36 = .ok (.sipush 200, 3) := by decide +kernel
theorem dX1_init_39 : decode cX1_init 39 = .ok (.multianewarray 9 2, 4) := by decide +kernel
theorem dX1_init_43 : decode cX1_init 43 = .ok (.putfield 23, 3) := by decide +kernel
theorem dX1_init_46 : decode cX1_init 46 = .ok (.aload_n 0, 1) := by decide +kernel
theorem dX1_init_47 : decode cX1_init 47 = .ok (.bipush 6, 2) := by decide +kernel
theorem dX1_init_49 : decode cX1_init 49 = .ok (.newarray .int, 2) := by decide +kernel
theorem dX1_init_51 : decode cX1_init 51 = .ok (.putfield 26, 3) := by decide +kernel
theorem dX1_init_54 : decode cX1_init 54 = .ok (.return_, 1) := by decide +kernel
set_option maxRecDepth 20000 in
theorem ggX2_init_X7_init : GoodIn wsX2_init wsX7_init := goodIn_r _ [27, 28, 2, 3, 17, 29, 30, 31, 32, 33, 34, 63, 64, 65] rfl (by decide +kernel)
set_option maxRecDepth 20000 in
theorem gX2_init_X7_init : GoodIn wsX2_init (wsX7_init) := ggX2_init_X7_init
set_option maxRecDepth 20000 in
theorem ggX2_init_X1_init : GoodIn wsX2_init wsX1_init := goodIn_r _ [36, 37, 2, 3, 38, 17, 39, 40, 41, 42, 43, 74, 75, 76, 77, 78] rfl (by decide +kernel)
set_option maxRecDepth 20000 in
theorem gX2_init_X1_init_n20 : GoodIn wsX2_init (wsX1_init) := ggX2_init_X1_init
set_option maxRecDepth 20000 in
theorem ggX2_init_X0_init : GoodIn wsX2_init wsX0_init := goodIn_r _ [45, 46, 2, 3, 17, 47, 48, 49, 50, 51, 52, 53, 54, 79, 80, 81, 82, 83, 84, 85] rfl (by decide +kernel)
set_option maxRecDepth 20000 in
theorem gX2_init_X0_init_n30 : GoodIn wsX2_init (wsX0_init) := ggX2_init_X0_init
set_option maxRecDepth 20000 in
theorem ggX2_init_X8_init : GoodIn wsX2_init wsX8_init := goodIn_r _ [57, 58, 2, 3, 17, 59, 60, 61, 62, 86, 87, 88, 89, 90] rfl (by decide +kernel)
set_option maxRecDepth 20000 in
theorem gX2_init_X8_init : GoodIn wsX2_init (wsX8_init) := ggX2_init_X8_init
theorem dX2_init_0 : decode cX2_init 0 = .ok (.aload_n 0, 1) := by decide +kernel
theorem dX2_init_1 : decode cX2_init 1 = .ok (.invokespecial 3, 3) := by decide +kernel
theorem dX2_init_4 : decode cX2_init 4 = .ok (.aload_n 0, 1) := by decide +kernel
theorem dX2_init_5 : decode cX2_init 5 = .ok (.new 9, 3) := by decide +kernel
theorem dX2_init_8 : decode cX2_init 8 = .ok (.dup, 1) := by decide +kernel
theorem dX2_init_9 : decode cX2_init 9 = .ok (.invokespecial 11, 3) := by decide +kernel
theorem dX2_init_12 : decode cX2_init 12 = .ok (.putfield 12, 3) := by decide +kernel
theorem dX2_init_15 : decode cX2_init 15 = .ok (.aload_n 0, 1) := by decide +kernel
theorem dX2_init_16 : decode cX2_init 16 = .ok (.new 18, 3) := by decide +kernel
theorem dX2_init_19 : decode cX2_init 19 = .ok (.dup, 1) := by decide +kernel
theorem dX2_init_20 : decode cX2_init 20 = .ok (.invokespecial 20, 3) := by decide +kernel
theorem dX2_init_23 : decode cX2_init 23 = .ok (.putfield 21, 3) := by decide +kernel
theorem dX2_init_26 : decode cX2_init 26 = .ok (.aload_n 0, 1) := by decide +kernel
theorem dX2_init_27 : decode cX2_init 27 = .ok (.new 18, 3) := by decide +kernel
theorem dX2_init_30 : decode cX2_init 30 = .ok (.dup, 1) := by decide +kernel
theorem dX2_init_31 : decode cX2_init 31 = .ok (.invokespecial 20, 3) := by decide +kernel
theorem dX2_init_34 : decode cX2_init 34 = .ok (.putfield 25, 3) := by decide +kernel
theorem dX2_init_37 : decode cX2_init 37 = .ok (.aload_n 0, 1) := by decide +kernel
theorem dX2_init_38 : decode cX2_init 38 = .ok (.new 28, 3) := by decide +kernel
theorem dX2_init_41 : decode cX2_init 41 = .ok (.dup, 1) := by decide +kernel
theorem dX2_init_42 : decode cX2_init 42 = .ok (.invokespecial 30, 3) := by decide +kernel
theorem dX2_init_45 : decode cX2_init 45 = .ok (.putfield 31, 3) := by decide +kernel
theorem dX2_init_48 : decode cX2_init 48 = .ok (.aload_n 0, 1) := by decide +kernel
theorem dX2_init_49 : decode cX2_init 49 = .ok (.sipush 200, 3) := by decide +kernel
theorem dX2_init_52 : decode cX2_init 52 = .ok (.newarray .int, 2) := by decide +kernel
theorem dX2_init_54 : decode cX2_init 54 = .ok (.putfield 35, 3) := by decide +kernel
theorem dX2_init_57 : decode cX2_init 57 = .ok (.aload_n 0, 1) := by decide +kernel
theorem dX2_init_58 : decode cX2_init 58 = .ok (.sipush 200, 3) := by decide +kernel
theorem dX2_init_61 : decode cX2_init 61 = .ok (.newarray .int, 2) := by decide +kernel
theorem dX2_init_63 : decode cX2_init 63 = .ok (.putfield 39, 3) := by decide +kernel
theorem dX2_init_66 : decode cX2_init 66 = .ok (.aload_n 0, 1) := by decide +kernel
theorem dX2_init_67 : decode cX2_init 67 = .ok (.aload_n 1, 1) := by decide +kernel
theorem dX2_init_68 : decode cX2_init 68 = .ok (.putfield 42, 3) := by decide +kernel
theorem dX2_init_71 : decode cX2_init 71 = .ok (.aload_n 0, 1) := by decide +kernel
theorem dX2_init_72 : decode cX2_init 72 = .ok (.new 46, 3) := by decide +kernel
theorem dX2_init_75 : decode cX2_init 75 = .ok (.dup, 1) := by decide +kernel
theorem dX2_init_76 : decode cX2_init 76 = .ok (.aload_n 1, 1) := by decide +kernel
theorem dX2_init_77 : decode cX2_init 77 = .ok (.aload_n 0, 1) := by decide +kernel
theorem dX2_init_78 : decode cX2_init 78 = .ok (.getfield 21, 3) := by decide +kernel
theorem dX2_init_81 : decode cX2_init 81 = .ok (.invokespecial 48, 3) := by decide +kernel
theorem dX2_init_84 : decode cX2_init 84 = .ok (.putfield 51, 3) := by decide +kernel
theorem dX2_init_87 : decode cX2_init 87 = .ok (.return_, 1) := by decide +kernel
set_option maxRecDepth 20000 in
theorem ggX3_init_X9_init : GoodIn wsX3_init wsX9_init := goodIn_r _ [22, 23, 2, 3, 4, 24, 25, 26, 27, 28, 47, 48, 49, 50, 51] rfl (by decide +kernel)
set_option maxRecDepth 20000 in
theorem gX3_init_X9_init_n39 : GoodIn wsX3_init (wsX9_init) := ggX3_init_X9_init
theorem dX3_init_0 : decode cX3_init 0 = .ok (.aload_n 0, 1) := by decide +kernel
theorem dX3_init_1 : decode cX3_init 1 = .ok (.invokespecial 3, 3) := by decide +kernel
theorem dX3_init_4 : decode cX3_init 4 = .ok (.aload_n 0, 1) := by decide +kernel
theorem dX3_init_5 : decode cX3_init 5 = .ok (.sipush 240, 3) := by decide +kernel
theorem dX3_init_8 : decode cX3_init 8 = .ok (.newarray .int, 2) := by decide +kernel
theorem dX3_init_10 : decode cX3_init 10 = .ok (.putfield 11, 3) := by decide +kernel
theorem dX3_init_13 : decode cX3_init 13 = .ok (.aload_n 0, 1) := by decide +kernel
theorem dX3_init_14 : decode cX3_init 14 = .ok (.sipush 240, 3) := by decide +kernel
theorem dX3_init_17 : decode cX3_init 17 = .ok (.newarray .int, 2) := by decide +kernel
theorem dX3_init_19 : decode cX3_init 19 = .ok (.putfield 15, 3) := by decide +kernel
theorem dX3_init_22 : decode cX3_init 22 = .ok (.aload_n 0, 1) := by decide +kernel
theorem dX3_init_23 : decode cX3_init 23 = .ok (.sipush 240, 3) := by decide +kernel
theorem dX3_init_26 : decode cX3_init 26 = .ok (.newarray .int, 2) := by decide +kernel
theorem dX3_init_28 : decode cX3_init 28 = .ok (.putfield 18, 3) := by decide +kernel
theorem dX3_init_31 : decode cX3_init 31 = .ok (.aload_n 0, 1) := by decide +kernel
theorem dX3_init_32 : decode cX3_init 32 = .ok (.sipush 240, 3) := by decide +kernel
theorem dX3_init_35 : decode cX3_init 35 = .ok (.newarray .int, 2) := by decide +kernel
theorem dX3_init_37 : decode cX3_init 37 = .ok (.putfield 21, 3) := by decide +kernel
theorem dX3_init_40 : decode cX3_init 40 = .ok (.aload_n 0, 1) := by decide +kernel
theorem dX3_init_41 : decode cX3_init 41 = .ok (.sipush 240, 3) := by decide +kernel
theorem dX3_init_44 : decode cX3_init 44 = .ok (.newarray .int, 2) := by decide +kernel
theorem dX3_init_46 : decode cX3_init 46 = .ok (.putfield 24, 3) := by decide +kernel
theorem dX3_init_49 : decode cX3_init 49 = .ok (.aload_n 0, 1) := by decide +kernel
theorem dX3_init_50 : decode cX3_init 50 = .ok (.sipush 240, 3) := by decide +kernel
theorem dX3_init_53 : decode cX3_init 53 = .ok (.newarray .boolean, 2) := by decide +kernel
theorem dX3_init_55 : decode cX3_init 55 = .ok (.putfield 27, 3) := by decide +kernel
theorem dX3_init_58 : decode cX3_init 58 = .ok (.aload_n 0, 1) := by decide +kernel
theorem dX3_init_59 : decode cX3_init 59 = .ok (.sipush 240, 3) := by decide +kernel
theorem dX3_init_62 : decode cX3_init 62 = .ok (.newarray .int, 2) := by decide +kernel
theorem dX3_init_64 : decode cX3_init 64 = .ok (.putfield 31, 3) := by decide +kernel
theorem dX3_init_67 : decode cX3_init 67 = .ok (.aload_n 0, 1) := by decide +kernel
theorem dX3_init_68 : decode cX3_init 68 = .ok (.sipush 240, 3) := by decide +kernel
theorem dX3_init_71 : decode cX3_init 71 = .ok (.newarray .int, 2) := by decide +kernel
theorem dX3_init_73 : decode cX3_init 73 = .ok (.putfield 34, 3) := by decide +kernel
theorem dX3_init_76 : decode cX3_init 76 = .ok (.aload_n 0, 1) := by decide +kernel
theorem dX3_init_77 : decode cX3_init 77 = .ok (.new 37, 3) := by decide +kernel
theorem dX3_init_80 : decode cX3_init 80 = .ok (.dup, 1) := by decide +kernel
theorem dX3_init_81 : decode cX3_init 81 = .ok (.invokespecial 39, 3) := by decide +kernel
theorem dX3_init_84 : decode cX3_init 84 = .ok (.putfield 40, 3) := by decide +kernel
theorem dX3_init_87 : decode cX3_init 87 = .ok (.aload_n 0, 1) := by decide +kernel
theorem dX3_init_88 : decode cX3_init 88 = .ok (.sipush 240, 3) := by decide +kernel
theorem dX3_init_91 : decode cX3_init 91 = .ok (.newarray .int, 2) := by decide +kernel
theorem dX3_init_93 : decode cX3_init 93 = .ok (.putfield 44, 3) := by decide +kernel
theorem dX3_init_96 : decode cX3_init 96 = .ok (.aload_n 0, 1) := by decide +kernel
theorem dX3_init_97 : decode cX3_init 97 = .ok (.bipush 10, 2) := by decide +kernel
theorem dX3_init_99 : decode cX3_init 99 = .ok (.newarray .int, 2) := by decide +kernel
theorem dX3_init_101 : decode cX3_init 101 = .ok (.putfield 47, 3) := by decide +kernel
theorem dX3_init_104 : decode cX3_init 104 = .ok (.aload_n 0, 1) := by decide +kernel
theorem dX3_init_105 : decode cX3_init 105 = .ok (.aload_n 1, 1) := by decide +kernel
theorem dX3_init_106 : decode cX3_init 106 = .ok (.putfield 50, 3) := by decide +kernel
theorem dX3_init_109 : decode cX3_init 109 = .ok (.return_, 1) := by decide +kernel
set_option maxRecDepth 20000 in
theorem ggX5_init_Jx4a65c_init_da8c8 : GoodIn wsX5_init wsJx4a65c_init_da8c8 := goodIn_r _ [28, 29, 30, 31, 32, 33, 34, 35, 36, 37, 38, 39, 40, 2, 3, 71, 72, 73] rfl (by decide +kernel)
set_option maxRecDepth 20000 in
theorem gX5_init_Jx4a65c_init_da8c8 : GoodIn wsX5_init (wsJx4a65c_init_da8c8) := ggX5_init_Jx4a65c_init_da8c8
set_option maxRecDepth 20000 in
theorem ggX5_init_X10_init : GoodIn wsX5_init wsX10_init := goodIn_r _ [43, 44, 2, 3, 5, 45, 46, 47, 48, 49, 50, 51, 52, 74, 75, 76, 77] rfl (by decide +kernel)
set_option maxRecDepth 20000 in
theorem gX5_init_X10_init : GoodIn wsX5_init (wsX10_init) := ggX5_init_X10_init
theorem dX5_init_0 : decode cX5_init 0 = .ok (.aload_n 0, 1) := by decide +kernel
theorem dX5_init_1 : decode cX5_init 1 = .ok (.invokespecial 3, 3) := by decide +kernel
theorem dX5_init_4 : decode cX5_init 4 = .ok (.aload_n 0, 1) := by decide +kernel
theorem dX5_init_5 : decode cX5_init 5 = .ok (.bipush 60, 2) := by decide +kernel
theorem dX5_init_7 : decode cX5_init 7 = .ok (.bipush 12, 2) := by decide +kernel
theorem dX5_init_9 : decode cX5_init 9 = .ok (.multianewarray 9 2, 4) := by decide +kernel
theorem dX5_init_13 : decode cX5_init 13 = .ok (.putfield 11, 3) := by decide +kernel
theorem dX5_init_16 : decode cX5_init 16 = .ok (.aload_n 0, 1) := by decide +kernel
theorem dX5_init_17 : decode cX5_init 17 = .ok (.bipush 60, 2) := by decide +kernel
theorem dX5_init_19 : decode cX5_init 19 = .ok (.newarray .int, 2) := by decide +kernel
theorem dX5_init_21 : decode cX5_init 21 = .ok (.putfield 16, 3) := by decide +kernel
theorem dX5_init_24 : decode cX5_init 24 = .ok (.aload_n 0, 1) := by decide +kernel
theorem dX5_init_25 : decode cX5_init 25 = .ok (.bipush 60, 2) := by decide +kernel
theorem dX5_init_27 : decode cX5_init 27 = .ok (.newarray .int, 2) := by decide +kernel
theorem dX5_init_29 : decode cX5_init 29 = .ok (.putfield 20, 3) := by decide +kernel
theorem dX5_init_32 : decode cX5_init 32 = .ok (.aload_n 0, 1) := by decide +kernel
theorem dX5_init_33 : decode cX5_init 33 = .ok (.bipush 60, 2) := by decide +kernel
theorem dX5_init_35 : decode cX5_init 35 = .ok (.newarray .int, 2) := by decide +kernel
theorem dX5_init_37 : decode cX5_init 37 = .ok (.putfield 23, 3) := by decide +kernel
theorem dX5_init_40 : decode cX5_init 40 = .ok (.aload_n 0, 1) := by decide +kernel
theorem dX5_init_41 : decode cX5_init 41 = .ok (.bipush 120, 2) := by decide +kernel
theorem dX5_init_43 : decode cX5_init 43 = .ok (.newarray .int, 2) := by decide +kernel
theorem dX5_init_45 : decode cX5_init 45 = .ok (.putfield 26, 3) := by decide +kernel
theorem dX5_init_48 : decode cX5_init 48 = .ok (.aload_n 0, 1) := by decide +kernel
theorem dX5_init_49 : decode cX5_init 49 = .ok (.bipush 120, 2) := by decide +kernel
theorem dX5_init_51 : decode cX5_init 51 = .ok (.newarray .int, 2) := by decide +kernel
theorem dX5_init_53 : decode cX5_init 53 = .ok (.putfield 29, 3) := by decide +kernel
theorem dX5_init_56 : decode cX5_init 56 = .ok (.aload_n 0, 1) := by decide +kernel
theorem dX5_init_57 : decode cX5_init 57 = .ok (.bipush 120, 2) := by decide +kernel
theorem dX5_init_59 : decode cX5_init 59 = .ok (.newarray .int, 2) := by decide +kernel
theorem dX5_init_61 : decode cX5_init 61 = .ok (.putfield 32, 3) := by decide +kernel
theorem dX5_init_64 : decode cX5_init 64 = .ok (.aload_n 0, 1) := by decide +kernel
theorem dX5_init_65 : decode cX5_init 65 = .ok (.bipush 120, 2) := by decide +kernel
theorem dX5_init_67 : decode cX5_init 67 = .ok (.newarray .int, 2) := by decide +kernel
theorem dX5_init_69 : decode cX5_init 69 = .ok (.putfield 35, 3) := by decide +kernel
theorem dX5_init_72 : decode cX5_init 72 = .ok (.aload_n 0, 1) := by decide +kernel
theorem dX5_init_73 : decode cX5_init 73 = .ok (.bipush 120, 2) := by decide +kernel
theorem dX5_init_75 : decode cX5_init 75 = .ok (.newarray .int, 2) := by decide +kernel
theorem dX5_init_77 : decode cX5_init 77 = .ok (.putfield 38, 3) := by decide +kernel
theorem dX5_init_80 : decode cX5_init 80 = .ok (.aload_n 0, 1) := by decide +kernel
theorem dX5_init_81 : decode cX5_init 81 = .ok (.bipush 120, 2) := by decide +kernel
theorem dX5_init_83 : decode cX5_init 83 = .ok (.newarray .int, 2) := by decide +kernel
theorem dX5_init_85 : decode cX5_init 85 = .ok (.putfield 41, 3) := by decide +kernel
theorem dX5_init_88 : decode cX5_init 88 = .ok (.aload_n 0, 1) := by decide +kernel
theorem dX5_init_89 : decode cX5_init 89 = .ok (.bipush 120, 2) := by decide +kernel
theorem dX5_init_91 : decode cX5_init 91 = .ok (.newarray .int, 2) := by decide +kernel
theorem dX5_init_93 : decode cX5_init 93 = .ok (.putfield 44, 3) := by decide +kernel
theorem dX5_init_96 : decode cX5_init 96 = .ok (.aload_n 0, 1) := by decide +kernel
theorem dX5_init_97 : decode cX5_init 97 = .ok (.bipush 40, 2) := by decide +kernel
theorem dX5_init_99 : decode cX5_init 99 = .ok (.anewarray 47, 3) := by decide +kernel
theorem dX5_init_102 : decode cX5_init 102 = .ok (.putfield 49, 3) := by decide +kernel
theorem dX5_init_105 : decode cX5_init 105 = .ok (.aload_n 0, 1) := by decide +kernel
theorem dX5_init_106 : decode cX5_init 106 = .ok (.bipush 8, 2) := by decide +kernel
theorem dX5_init_108 : decode cX5_init 108 = .ok (.newarray .int, 2) := by decide +kernel
theorem dX5_init_110 : decode cX5_init 110 = .ok (.putfield 53, 3) := by decide +kernel
theorem dX5_init_113 : decode cX5_init 113 = .ok (.aload_n 0, 1) := by decide +kernel
theorem dX5_init_114 : decode cX5_init 114 = .ok (.new 56, 3) := by decide +kernel
theorem dX5_init_117 : decode cX5_init 117 = .ok (.dup, 1) := by decide +kernel
theorem dX5_init_118 : decode cX5_init 118 = .ok (.invokespecial 58, 3) := by decide +kernel
theorem dX5_init_121 : decode cX5_init 121 = .ok (.putfield 59, 3) := by decide +kernel
theorem dX5_init_124 : decode cX5_init 124 = .ok (.iconst 0, 1) := by decide +kernel
theorem dX5_init_125 : decode cX5_init 125 = .ok (.istore_n 1, 1) := by decide +kernel
theorem dX5_init_126 : decode cX5_init 126 = .ok (.iload_n 1, 1) := by decide +kernel
theorem dX5_init_127 : decode cX5_init 127 = .ok (.aload_n 0, 1) := by decide +kernel
theorem dX5_init_128 : decode cX5_init 128 = .ok (.getfield 49, 3) := by decide +kernel
theorem dX5_init_131 : decode cX5_init 131 = .ok (.arraylength, 1) := by decide +kernel
theorem dX5_init_132 : decode cX5_init 132 = .ok (.if_icmp .ge 22, 3) := by decide +kernel
theorem dX5_init_135 : decode cX5_init 135 = .ok (.aload_n 0, 1) := by decide +kernel
theorem dX5_init_136 : decode cX5_init 136 = .ok (.getfield 49, 3) := by decide +kernel
theorem dX5_init_139 : decode cX5_init 139 = .ok (.iload_n 1, 1) := by decide +kernel
theorem dX5_init_140 : decode cX5_init 140 = .ok (.new 47, 3) := by decide +kernel
theorem dX5_init_143 : decode cX5_init 143 = .ok (.dup, 1) := by decide +kernel
theorem dX5_init_144 : decode cX5_init 144 = .ok (.invokespecial 63, 3) := by decide +kernel
theorem dX5_init_147 : decode cX5_init 147 = .ok (.aastore, 1) := by decide +kernel
theorem dX5_init_148 : decode cX5_init 148 = .ok (.iinc 1 1, 3) := by decide +kernel
theorem dX5_init_151 : decode cX5_init 151 = .ok (.goto (-25), 3) := by decide +kernel
theorem dX5_init_154 : decode cX5_init 154 = .ok (.return_, 1) := by decide +kernel
set_option maxRecDepth 20000 in
theorem ggX5_addSmallType_X5_endType : GoodIn wsX5_addSmallType wsX5_endType := goodIn_r _ [8, 2, 9, 10, 1, 11, 12, 13, 14, 15, 16, 17, 18, 19, 20, 21, 22, 23, 24, 25, 26, 27, 28, 29, 30, 31, 32, 33, 34] rfl (by decide +kernel)
set_option maxRecDepth 20000 in
theorem gX5_addSmallType_X5_endType : GoodIn wsX5_addSmallType (wsV RX5 68 RX5 yX5_endType wsX5_endType) := goodIn_app (goodIn_of _ (by decide +kernel)) ggX5_addSmallType_X5_endType
theorem dX5_addSmallType_0 : decode cX5_addSmallType 0 = .ok (.aload_n 0, 1) := by decide +kernel
theorem dX5_addSmallType_1 : decode cX5_addSmallType 1 = .ok (.getfield 11, 3) := by decide +kernel
theorem dX5_addSmallType_4 : decode cX5_addSmallType 4 = .ok (.aload_n 0, 1) := by decide +kernel
theorem dX5_addSmallType_5 : decode cX5_addSmallType 5 = .ok (.getfield 64, 3) := by decide +kernel
theorem dX5_addSmallType_8 : decode cX5_addSmallType 8 = .ok (.aaload, 1) := by decide +kernel
theorem dX5_addSmallType_9 : decode cX5_addSmallType 9 = .ok (.iconst 0, 1) := by decide +kernel
theorem dX5_addSmallType_10 : decode cX5_addSmallType 10 = .ok (.iload_n 1, 1) := by decide +kernel
theorem dX5_addSmallType_11 : decode cX5_addSmallType 11 = .ok (.iastore, 1) := by decide +kernel
theorem dX5_addSmallType_12 : decode cX5_addSmallType 12 = .ok (.aload_n 0, 1) := by decide +kernel
theorem dX5_addSmallType_13 : decode cX5_addSmallType 13 = .ok (.getfield 20, 3) := by decide +kernel
theorem dX5_addSmallType_16 : decode cX5_addSmallType 16 = .ok (.aload_n 0, 1) := by decide +kernel
theorem dX5_addSmallType_17 : decode cX5_addSmallType 17 = .ok (.getfield 64, 3) := by decide +kernel
theorem dX5_addSmallType_20 : decode cX5_addSmallType 20 = .ok (.iload_n 1, 1) := by decide +kernel
theorem dX5_addSmallType_21 : decode cX5_addSmallType 21 = .ok (.ifCond .ne 7, 3) := by decide +kernel
theorem dX5_addSmallType_24 : decode cX5_addSmallType 24 = .ok (.iconst 0, 1) := by decide +kernel
theorem dX5_addSmallType_25 : decode cX5_addSmallType 25 = .ok (.goto 8, 3) := by decide +kernel
theorem dX5_addSmallType_28 : decode cX5_addSmallType 28 = .ok (.iconst 1, 1) := by decide +kernel
theorem dX5_addSmallType_29 : decode cX5_addSmallType 29 = .ok (.iload_n 1, 1) := by decide +kernel
theorem dX5_addSmallType_30 : decode cX5_addSmallType 30 = .ok (.iconst 2, 1) := by decide +kernel
theorem dX5_addSmallType_31 : decode cX5_addSmallType 31 = .ok (.isub, 1) := by decide +kernel
theorem dX5_addSmallType_32 : decode cX5_addSmallType 32 = .ok (.ishl, 1) := by decide +kernel
theorem dX5_addSmallType_33 : decode cX5_addSmallType 33 = .ok (.iastore, 1) := by decide +kernel
theorem dX5_addSmallType_34 : decode cX5_addSmallType 34 = .ok (.aload_n 0, 1) := by decide +kernel
theorem dX5_addSmallType_35 : decode cX5_addSmallType 35 = .ok (.iconst 1, 1) := by decide +kernel
theorem dX5_addSmallType_36 : decode cX5_addSmallType 36 = .ok (.invokevirtual 68, 3) := by decide +kernel
theorem dX5_addSmallType_39 : decode cX5_addSmallType 39 = .ok (.ireturn, 1) := by decide +kernel
theorem dX5_endType_0 : decode cX5_endType 0 = .ok (.aload_n 0, 1) := by decide +kernel
theorem dX5_endType_1 : decode cX5_endType 1 = .ok (.getfield 64, 3) := by decide +kernel
theorem dX5_endType_4 : decode cX5_endType 4 = .ok (.istore_n 2, 1) := by decide +kernel
theorem dX5_endType_5 : decode cX5_endType 5 = .ok (.aload_n 0, 1) := by decide +kernel
theorem dX5_endType_6 : decode cX5_endType 6 = .ok (.getfield 16, 3) := by decide +kernel
theorem dX5_endType_9 : decode cX5_endType 9 = .ok (.iload_n 2, 1) := by decide +kernel
theorem dX5_endType_10 : decode cX5_endType 10 = .ok (.iload_n 1, 1) := by decide +kernel
theorem dX5_endType_11 : decode cX5_endType 11 = .ok (.iastore, 1) := by decide +kernel
theorem dX5_endType_12 : decode cX5_endType 12 = .ok (.aload_n 0, 1) := by decide +kernel
theorem dX5_endType_13 : decode cX5_endType 13 = .ok (.getfield 23, 3) := by decide +kernel
theorem dX5_endType_16 : decode cX5_endType 16 = .ok (.iload_n 2, 1) := by decide +kernel
theorem dX5_endType_17 : decode cX5_endType 17 = .ok (.iload_n 2, 1) := by decide +kernel
theorem dX5_endType_18 : decode cX5_endType 18 = .ok (.iastore, 1) := by decide +kernel
theorem dX5_endType_19 : decode cX5_endType 19 = .ok (.iconst 0, 1) := by decide +kernel
theorem dX5_endType_20 : decode cX5_endType 20 = .ok (.istore_n 3, 1) := by decide +kernel
theorem dX5_endType_21 : decode cX5_endType 21 = .ok (.iload_n 3, 1) := by decide +kernel
theorem dX5_endType_22 : decode cX5_endType 22 = .ok (.iload_n 2, 1) := by decide +kernel
theorem dX5_endType_23 : decode cX5_endType 23 = .ok (.if_icmp .ge 51, 3) := by decide +kernel
theorem dX5_endType_26 : decode cX5_endType 26 = .ok (.aload_n 0, 1) := by decide +kernel
theorem dX5_endType_27 : decode cX5_endType 27 = .ok (.getfield 23, 3) := by decide +kernel
theorem dX5_endType_30 : decode cX5_endType 30 = .ok (.iload_n 2, 1) := by decide +kernel
theorem dX5_endType_31 : decode cX5_endType 31 = .ok (.iaload, 1) := by decide +kernel
theorem dX5_endType_32 : decode cX5_endType 32 = .ok (.iload_n 2, 1) := by decide +kernel
theorem dX5_endType_33 : decode cX5_endType 33 = .ok (.if_icmp .ne 41, 3) := by decide +kernel
theorem dX5_endType_36 : decode cX5_endType 36 = .ok (.aload_n 0, 1) := by decide +kernel
theorem dX5_endType_37 : decode cX5_endType 37 = .ok (.getfield 11, 3) := by decide +kernel
theorem dX5_endType_40 : decode cX5_endType 40 = .ok (.iload_n 3, 1) := by decide +kernel
theorem dX5_endType_41 : decode cX5_endType 41 = .ok (.aaload, 1) := by decide +kernel
theorem dX5_endType_42 : decode cX5_endType 42 = .ok (.aload_n 0, 1) := by decide +kernel
theorem dX5_endType_43 : decode cX5_endType 43 = .ok (.getfield 16, 3) := by decide +kernel
theorem dX5_endType_46 : decode cX5_endType 46 = .ok (.iload_n 3, 1) := by decide +kernel
theorem dX5_endType_47 : decode cX5_endType 47 = .ok (.iaload, 1) := by decide +kernel
theorem dX5_endType_48 : decode cX5_endType 48 = .ok (.aload_n 0, 1) := by decide +kernel
theorem dX5_endType_49 : decode cX5_endType 49 = .ok (.getfield 11, 3) := by decide +kernel
theorem dX5_endType_52 : decode cX5_endType 52 = .ok (.iload_n 2, 1) := by decide +kernel
theorem dX5_endType_53 : decode cX5_endType 53 = .ok (.aaload, 1) := by decide +kernel
theorem dX5_endType_54 : decode cX5_endType 54 = .ok (.iload_n 1, 1) := by decide +kernel
theorem dX5_endType_55 : decode cX5_endType 55 = .ok (.invokestatic 78, 3) := by decide +kernel
theorem dX5_endType_58 : decode cX5_endType 58 = .ok (.ifCond .eq 10, 3) := by decide +kernel
theorem dX5_endType_61 : decode cX5_endType 61 = .ok (.aload_n 0, 1) := by decide +kernel
theorem dX5_endType_62 : decode cX5_endType 62 = .ok (.getfield 23, 3) := by decide +kernel
theorem dX5_endType_65 : decode cX5_endType 65 = .ok (.iload_n 2, 1) := by decide +kernel
theorem dX5_endType_66 : decode cX5_endType 66 = .ok (.iload_n 3, 1) := by decide +kernel
theorem dX5_endType_67 : decode cX5_endType 67 = .ok (.iastore, 1) := by decide +kernel
theorem dX5_endType_68 : decode cX5_endType 68 = .ok (.iinc 3 1, 3) := by decide +kernel
theorem dX5_endType_71 : decode cX5_endType 71 = .ok (.goto (-50), 3) := by decide +kernel
theorem dX5_endType_74 : decode cX5_endType 74 = .ok (.aload_n 0, 1) := by decide +kernel
theorem dX5_endType_75 : decode cX5_endType 75 = .ok (.dup, 1) := by decide +kernel
theorem dX5_endType_76 : decode cX5_endType 76 = .ok (.getfield 64, 3) := by decide +kernel
theorem dX5_endType_79 : decode cX5_endType 79 = .ok (.iconst 1, 1) := by decide +kernel
theorem dX5_endType_80 : decode cX5_endType 80 = .ok (.iadd, 1) := by decide +kernel
theorem dX5_endType_81 : decode cX5_endType 81 = .ok (.putfield 64, 3) := by decide +kernel
theorem dX5_endType_84 : decode cX5_endType 84 = .ok (.iload_n 2, 1) := by decide +kernel
theorem dX5_endType_85 : decode cX5_endType 85 = .ok (.ireturn, 1) := by decide +kernel
set_option maxRecDepth 20000 in
theorem ggX5_addLeaf_X5_endExpression : GoodIn wsX5_addLeaf wsX5_endExpression := goodIn_r _ [12, 2, 13, 1, 3, 4, 5, 14, 15, 16, 17, 18, 19, 20, 21, 22, 23, 24, 25, 26, 27, 28, 29, 30, 31] rfl (by decide +kernel)
set_option maxRecDepth 20000 in
theorem gX5_addLeaf_X5_endExpression : GoodIn wsX5_addLeaf (wsV RX5 85 RX5 yX5_endExpression wsX5_endExpression) := goodIn_app (goodIn_of _ (by decide +kernel)) ggX5_addLeaf_X5_endExpression
theorem dX5_addLeaf_0 : decode cX5_addLeaf 0 = .ok (.aload_n 0, 1) := by decide +kernel
theorem dX5_addLeaf_1 : decode cX5_addLeaf 1 = .ok (.getfield 26, 3) := by decide +kernel
theorem dX5_addLeaf_4 : decode cX5_addLeaf 4 = .ok (.aload_n 0, 1) := by decide +kernel
theorem dX5_addLeaf_5 : decode cX5_addLeaf 5 = .ok (.getfield 82, 3) := by decide +kernel
theorem dX5_addLeaf_8 : decode cX5_addLeaf 8 = .ok (.iload_n 1, 1) := by decide +kernel
theorem dX5_addLeaf_9 : decode cX5_addLeaf 9 = .ok (.iastore, 1) := by decide +kernel
theorem dX5_addLeaf_10 : decode cX5_addLeaf 10 = .ok (.aload_n 0, 1) := by decide +kernel
theorem dX5_addLeaf_11 : decode cX5_addLeaf 11 = .ok (.getfield 29, 3) := by decide +kernel
theorem dX5_addLeaf_14 : decode cX5_addLeaf 14 = .ok (.aload_n 0, 1) := by decide +kernel
theorem dX5_addLeaf_15 : decode cX5_addLeaf 15 = .ok (.getfield 82, 3) := by decide +kernel
theorem dX5_addLeaf_18 : decode cX5_addLeaf 18 = .ok (.iload_n 2, 1) := by decide +kernel
theorem dX5_addLeaf_19 : decode cX5_addLeaf 19 = .ok (.iastore, 1) := by decide +kernel
theorem dX5_addLeaf_20 : decode cX5_addLeaf 20 = .ok (.aload_n 0, 1) := by decide +kernel
theorem dX5_addLeaf_21 : decode cX5_addLeaf 21 = .ok (.getfield 32, 3) := by decide +kernel
theorem dX5_addLeaf_24 : decode cX5_addLeaf 24 = .ok (.aload_n 0, 1) := by decide +kernel
theorem dX5_addLeaf_25 : decode cX5_addLeaf 25 = .ok (.getfield 82, 3) := by decide +kernel
theorem dX5_addLeaf_28 : decode cX5_addLeaf 28 = .ok (.iconst (-1), 1) := by decide +kernel
theorem dX5_addLeaf_29 : decode cX5_addLeaf 29 = .ok (.iastore, 1) := by decide +kernel
theorem dX5_addLeaf_30 : decode cX5_addLeaf 30 = .ok (.aload_n 0, 1) := by decide +kernel
theorem dX5_addLeaf_31 : decode cX5_addLeaf 31 = .ok (.getfield 35, 3) := by decide +kernel
theorem dX5_addLeaf_34 : decode cX5_addLeaf 34 = .ok (.aload_n 0, 1) := by decide +kernel
theorem dX5_addLeaf_35 : decode cX5_addLeaf 35 = .ok (.getfield 82, 3) := by decide +kernel
theorem dX5_addLeaf_38 : decode cX5_addLeaf 38 = .ok (.iconst (-1), 1) := by decide +kernel
theorem dX5_addLeaf_39 : decode cX5_addLeaf 39 = .ok (.iastore, 1) := by decide +kernel
theorem dX5_addLeaf_40 : decode cX5_addLeaf 40 = .ok (.aload_n 0, 1) := by decide +kernel
theorem dX5_addLeaf_41 : decode cX5_addLeaf 41 = .ok (.getfield 38, 3) := by decide +kernel
theorem dX5_addLeaf_44 : decode cX5_addLeaf 44 = .ok (.aload_n 0, 1) := by decide +kernel
theorem dX5_addLeaf_45 : decode cX5_addLeaf 45 = .ok (.getfield 82, 3) := by decide +kernel
theorem dX5_addLeaf_48 : decode cX5_addLeaf 48 = .ok (.iconst 1, 1) := by decide +kernel
theorem dX5_addLeaf_49 : decode cX5_addLeaf 49 = .ok (.iastore, 1) := by decide +kernel
theorem dX5_addLeaf_50 : decode cX5_addLeaf 50 = .ok (.aload_n 0, 1) := by decide +kernel
theorem dX5_addLeaf_51 : decode cX5_addLeaf 51 = .ok (.getfield 41, 3) := by decide +kernel
theorem dX5_addLeaf_54 : decode cX5_addLeaf 54 = .ok (.aload_n 0, 1) := by decide +kernel
theorem dX5_addLeaf_55 : decode cX5_addLeaf 55 = .ok (.getfield 82, 3) := by decide +kernel
theorem dX5_addLeaf_58 : decode cX5_addLeaf 58 = .ok (.iload_n 1, 1) := by decide +kernel
theorem dX5_addLeaf_59 : decode cX5_addLeaf 59 = .ok (.bipush 6, 2) := by decide +kernel
theorem dX5_addLeaf_61 : decode cX5_addLeaf 61 = .ok (.if_icmp .ne 9, 3) := by decide +kernel
theorem dX5_addLeaf_64 : decode cX5_addLeaf 64 = .ok (.iconst 1, 1) := by decide +kernel
theorem dX5_addLeaf_65 : decode cX5_addLeaf 65 = .ok (.iload_n 2, 1) := by decide +kernel
theorem dX5_addLeaf_66 : decode cX5_addLeaf 66 = .ok (.ishl, 1) := by decide +kernel
theorem dX5_addLeaf_67 : decode cX5_addLeaf 67 = .ok (.goto 4, 3) := by decide +kernel
theorem dX5_addLeaf_70 : decode cX5_addLeaf 70 = .ok (.iconst 0, 1) := by decide +kernel
theorem dX5_addLeaf_71 : decode cX5_addLeaf 71 = .ok (.iastore, 1) := by decide +kernel
theorem dX5_addLeaf_72 : decode cX5_addLeaf 72 = .ok (.aload_n 0, 1) := by decide +kernel
theorem dX5_addLeaf_73 : decode cX5_addLeaf 73 = .ok (.invokevirtual 85, 3) := by decide +kernel
theorem dX5_addLeaf_76 : decode cX5_addLeaf 76 = .ok (.ireturn, 1) := by decide +kernel
theorem dX5_endExpression_0 : decode cX5_endExpression 0 = .ok (.aload_n 0, 1) := by decide +kernel
theorem dX5_endExpression_1 : decode cX5_endExpression 1 = .ok (.getfield 82, 3) := by decide +kernel
theorem dX5_endExpression_4 : decode cX5_endExpression 4 = .ok (.istore_n 1, 1) := by decide +kernel
theorem dX5_endExpression_5 : decode cX5_endExpression 5 = .ok (.aload_n 0, 1) := by decide +kernel
theorem dX5_endExpression_6 : decode cX5_endExpression 6 = .ok (.getfield 44, 3) := by decide +kernel
theorem dX5_endExpression_9 : decode cX5_endExpression 9 = .ok (.iload_n 1, 1) := by decide +kernel
theorem dX5_endExpression_10 : decode cX5_endExpression 10 = .ok (.iload_n 1, 1) := by decide +kernel
theorem dX5_endExpression_11 : decode cX5_endExpression 11 = .ok (.iastore, 1) := by decide +kernel
theorem dX5_endExpression_12 : decode cX5_endExpression 12 = .ok (.iconst 0, 1) := by decide +kernel
theorem dX5_endExpression_13 : decode cX5_endExpression 13 = .ok (.istore_n 2, 1) := by decide +kernel
theorem dX5_endExpression_14 : decode cX5_endExpression 14 = .ok (.iload_n 2, 1) := by decide +kernel
theorem dX5_endExpression_15 : decode cX5_endExpression 15 = .ok (.iload_n 1, 1) := by decide +kernel
theorem dX5_endExpression_16 : decode cX5_endExpression 16 = .ok (.if_icmp .ge 86, 3) := by decide +kernel
theorem dX5_endExpression_19 : decode cX5_endExpression 19 = .ok (.aload_n 0, 1) := by decide +kernel
theorem dX5_endExpression_20 : decode cX5_endExpression 20 = .ok (.getfield 44, 3) := by decide +kernel
theorem dX5_endExpression_23 : decode cX5_endExpression 23 = .ok (.iload_n 1, 1) := by decide +kernel
theorem dX5_endExpression_24 : decode cX5_endExpression 24 = .ok (.iaload, 1) := by decide +kernel
theorem dX5_endExpression_25 : decode cX5_endExpression 25 = .ok (.iload_n 1, 1) := by decide +kernel
theorem dX5_endExpression_26 : decode cX5_endExpression 26 = .ok (.if_icmp .ne 76, 3) := by decide +kernel
theorem dX5_endExpression_29 : decode cX5_endExpression 29 = .ok (.aload_n 0, 1) := by decide +kernel
theorem dX5_endExpression_30 : decode cX5_endExpression 30 = .ok (.getfield 26, 3) := by decide +kernel
theorem dX5_endExpression_33 : decode cX5_endExpression 33 = .ok (.iload_n 2, 1) := by decide +kernel
theorem dX5_endExpression_34 : decode cX5_endExpression 34 = .ok (.iaload, 1) := by decide +kernel
theorem dX5_endExpression_35 : decode cX5_endExpression 35 = .ok (.aload_n 0, 1) := by decide +kernel
theorem dX5_endExpression_36 : decode cX5_endExpression 36 = .ok (.getfield 26, 3) := by decide +kernel
theorem dX5_endExpression_39 : decode cX5_endExpression 39 = .ok (.iload_n 1, 1) := by decide +kernel
theorem dX5_endExpression_40 : decode cX5_endExpression 40 = .ok (.iaload, 1) := by decide +kernel
theorem dX5_endExpression_41 : decode cX5_endExpression 41 = .ok (.if_icmp .ne 55, 3) := by decide +kernel
theorem dX5_endExpression_44 : decode cX5_endExpression 44 = .ok (.aload_n 0, 1) := by decide +kernel
theorem dX5_endExpression_45 : decode cX5_endExpression 45 = .ok (.getfield 29, 3) := by decide +kernel
theorem dX5_endExpression_48 : decode cX5_endExpression 48 = .ok (.iload_n 2, 1) := by decide +kernel
theorem dX5_endExpression_49 : decode cX5_endExpression 49 = .ok (.iaload, 1) := by decide +kernel
theorem dX5_endExpression_50 : decode cX5_endExpression 50 = .ok (.aload_n 0, 1) := by decide +kernel
theorem dX5_endExpression_51 : decode cX5_endExpression 51 = .ok (.getfield 29, 3) := by decide +kernel
theorem dX5_endExpression_54 : decode cX5_endExpression 54 = .ok (.iload_n 1, 1) := by decide +kernel
theorem dX5_endExpression_55 : decode cX5_endExpression 55 = .ok (.iaload, 1) := by decide +kernel
theorem dX5_endExpression_56 : decode cX5_endExpression 56 = .ok (.if_icmp .ne 40, 3) := by decide +kernel
theorem dX5_endExpression_59 : decode cX5_endExpression 59 = .ok (.aload_n 0, 1) := by decide +kernel
theorem dX5_endExpression_60 : decode cX5_endExpression 60 = .ok (.getfield 32, 3) := by decide +kernel
theorem dX5_endExpression_63 : decode cX5_endExpression 63 = .ok (.iload_n 2, 1) := by decide +kernel
theorem dX5_endExpression_64 : decode cX5_endExpression 64 = .ok (.iaload, 1) := by decide +kernel
theorem dX5_endExpression_65 : decode cX5_endExpression 65 = .ok (.aload_n 0, 1) := by decide +kernel
theorem dX5_endExpression_66 : decode cX5_endExpression 66 = .ok (.getfield 32, 3) := by decide +kernel
theorem dX5_endExpression_69 : decode cX5_endExpression 69 = .ok (.iload_n 1, 1) := by decide +kernel
theorem dX5_endExpression_70 : decode cX5_endExpression 70 = .ok (.iaload, 1) := by decide +kernel
theorem dX5_endExpression_71 : decode cX5_endExpression 71 = .ok (.if_icmp .ne 25, 3) := by decide +kernel
theorem dX5_endExpression_74 : decode cX5_endExpression 74 = .ok (.aload_n 0, 1) := by decide +kernel
theorem dX5_endExpression_75 : decode cX5_endExpression 75 = .ok (.getfield 35, 3) := by decide +kernel
theorem dX5_endExpression_78 : decode cX5_endExpression 78 = .ok (.iload_n 2, 1) := by decide +kernel
theorem dX5_endExpression_79 : decode cX5_endExpression 79 = .ok (.iaload, 1) := by decide +kernel
theorem dX5_endExpression_80 : decode cX5_endExpression 80 = .ok (.aload_n 0, 1) := by decide +kernel
theorem dX5_endExpression_81 : decode cX5_endExpression 81 = .ok (.getfield 35, 3) := by decide +kernel
theorem dX5_endExpression_84 : decode cX5_endExpression 84 = .ok (.iload_n 1, 1) := by decide +kernel
theorem dX5_endExpression_85 : decode cX5_endExpression 85 = .ok (.iaload, 1) := by decide +kernel
theorem dX5_endExpression_86 : decode cX5_endExpression 86 = .ok (.if_icmp .ne 10, 3) := by decide +kernel
theorem dX5_endExpression_89 : decode cX5_endExpression 89 = .ok (.aload_n 0, 1) := by decide +kernel
theorem dX5_endExpression_90 : decode cX5_endExpression 90 = .ok (.getfield 44, 3) := by decide +kernel
theorem dX5_endExpression_93 : decode cX5_endExpression 93 = .ok (.iload_n 1, 1) := by decide +kernel
theorem dX5_endExpression_94 : decode cX5_endExpression 94 = .ok (.iload_n 2, 1) := by decide +kernel
theorem dX5_endExpression_95 : decode cX5_endExpression 95 = .ok (.iastore, 1) := by decide +kernel
theorem dX5_endExpression_96 : decode cX5_endExpression 96 = .ok (.iinc 2 1, 3) := by decide +kernel
theorem dX5_endExpression_99 : decode cX5_endExpression 99 = .ok (.goto (-85), 3) := by decide +kernel
theorem dX5_endExpression_102 : decode cX5_endExpression 102 = .ok (.aload_n 0, 1) := by decide +kernel
theorem dX5_endExpression_103 : decode cX5_endExpression 103 = .ok (.dup, 1) := by decide +kernel
theorem dX5_endExpression_104 : decode cX5_endExpression 104 = .ok (.getfield 82, 3) := by decide +kernel
theorem dX5_endExpression_107 : decode cX5_endExpression 107 = .ok (.iconst 1, 1) := by decide +kernel
theorem dX5_endExpression_108 : decode cX5_endExpression 108 = .ok (.iadd, 1) := by decide +kernel
theorem dX5_endExpression_109 : decode cX5_endExpression 109 = .ok (.putfield 82, 3) := by decide +kernel
theorem dX5_endExpression_112 : decode cX5_endExpression 112 = .ok (.iload_n 1, 1) := by decide +kernel
theorem dX5_endExpression_113 : decode cX5_endExpression 113 = .ok (.ireturn, 1) := by decide +kernel
set_option maxRecDepth 20000 in
theorem ggX5_addUnit_X5_addVersion : GoodIn wsX5_addUnit wsX5_addVersion := goodIn_r _ [6, 7, 8, 9, 10, 11, 12, 5, 13, 14, 15, 16, 17, 18, 19, 20, 21, 22, 23, 24, 25, 26, 27, 28, 29, 30, 31, 32, 33, 34, 35, 36, 37, 38, 39, 40, 41, 42, 43, 44, 45, 46, 47, 48] rfl (by decide +kernel)
set_option maxRecDepth 20000 in
theorem gX5_addUnit_X5_addVersion : GoodIn wsX5_addUnit (wsV RX5 96 RX5 yX5_addVersion wsX5_addVersion) := goodIn_app (goodIn_of _ (by decide +kernel)) ggX5_addUnit_X5_addVersion
theorem dX5_addUnit_0 : decode cX5_addUnit 0 = .ok (.aload_n 0, 1) := by decide +kernel
theorem dX5_addUnit_1 : decode cX5_addUnit 1 = .ok (.dup, 1) := by decide +kernel
theorem dX5_addUnit_2 : decode cX5_addUnit 2 = .ok (.getfield 93, 3) := by decide +kernel
theorem dX5_addUnit_5 : decode cX5_addUnit 5 = .ok (.iconst 1, 1) := by decide +kernel
theorem dX5_addUnit_6 : decode cX5_addUnit 6 = .ok (.iadd, 1) := by decide +kernel
theorem dX5_addUnit_7 : decode cX5_addUnit 7 = .ok (.putfield 93, 3) := by decide +kernel
theorem dX5_addUnit_10 : decode cX5_addUnit 10 = .ok (.aload_n 0, 1) := by decide +kernel
theorem dX5_addUnit_11 : decode cX5_addUnit 11 = .ok (.aload_n 0, 1) := by decide +kernel
theorem dX5_addUnit_12 : decode cX5_addUnit 12 = .ok (.getfield 93, 3) := by decide +kernel
theorem dX5_addUnit_15 : decode cX5_addUnit 15 = .ok (.iconst 1, 1) := by decide +kernel
theorem dX5_addUnit_16 : decode cX5_addUnit 16 = .ok (.isub, 1) := by decide +kernel
theorem dX5_addUnit_17 : decode cX5_addUnit 17 = .ok (.invokevirtual 96, 3) := by decide +kernel
theorem dX5_addUnit_20 : decode cX5_addUnit 20 = .ok (.pop, 1) := by decide +kernel
theorem dX5_addUnit_21 : decode cX5_addUnit 21 = .ok (.aload_n 0, 1) := by decide +kernel
theorem dX5_addUnit_22 : decode cX5_addUnit 22 = .ok (.getfield 93, 3) := by decide +kernel
theorem dX5_addUnit_25 : decode cX5_addUnit 25 = .ok (.iconst 1, 1) := by decide +kernel
theorem dX5_addUnit_26 : decode cX5_addUnit 26 = .ok (.isub, 1) := by decide +kernel
theorem dX5_addUnit_27 : decode cX5_addUnit 27 = .ok (.ireturn, 1) := by decide +kernel
theorem dX5_addVersion_0 : decode cX5_addVersion 0 = .ok (.aload_n 0, 1) := by decide +kernel
theorem dX5_addVersion_1 : decode cX5_addVersion 1 = .ok (.getfield 53, 3) := by decide +kernel
theorem dX5_addVersion_4 : decode cX5_addVersion 4 = .ok (.iload_n 1, 1) := by decide +kernel
theorem dX5_addVersion_5 : decode cX5_addVersion 5 = .ok (.iaload, 1) := by decide +kernel
theorem dX5_addVersion_6 : decode cX5_addVersion 6 = .ok (.istore_n 2, 1) := by decide +kernel
theorem dX5_addVersion_7 : decode cX5_addVersion 7 = .ok (.iload_n 2, 1) := by decide +kernel
theorem dX5_addVersion_8 : decode cX5_addVersion 8 = .ok (.ifCond .le 21, 3) := by decide +kernel
theorem dX5_addVersion_11 : decode cX5_addVersion 11 = .ok (.aload_n 0, 1) := by decide +kernel
theorem dX5_addVersion_12 : decode cX5_addVersion 12 = .ok (.getfield 49, 3) := by decide +kernel
theorem dX5_addVersion_15 : decode cX5_addVersion 15 = .ok (.iload_n 1, 1) := by decide +kernel
theorem dX5_addVersion_16 : decode cX5_addVersion 16 = .ok (.iconst 5, 1) := by decide +kernel
theorem dX5_addVersion_17 : decode cX5_addVersion 17 = .ok (.imul, 1) := by decide +kernel
theorem dX5_addVersion_18 : decode cX5_addVersion 18 = .ok (.iload_n 2, 1) := by decide +kernel
theorem dX5_addVersion_19 : decode cX5_addVersion 19 = .ok (.iadd, 1) := by decide +kernel
theorem dX5_addVersion_20 : decode cX5_addVersion 20 = .ok (.aaload, 1) := by decide +kernel
theorem dX5_addVersion_21 : decode cX5_addVersion 21 = .ok (.aload_n 0, 1) := by decide +kernel
theorem dX5_addVersion_22 : decode cX5_addVersion 22 = .ok (.iload_n 1, 1) := by decide +kernel
theorem dX5_addVersion_23 : decode cX5_addVersion 23 = .ok (.invokevirtual 99, 3) := by decide +kernel
theorem dX5_addVersion_26 : decode cX5_addVersion 26 = .ok (.invokevirtual 103, 3) := by decide +kernel
theorem dX5_addVersion_29 : decode cX5_addVersion 29 = .ok (.aload_n 0, 1) := by decide +kernel
theorem dX5_addVersion_30 : decode cX5_addVersion 30 = .ok (.getfield 53, 3) := by decide +kernel
theorem dX5_addVersion_33 : decode cX5_addVersion 33 = .ok (.iload_n 1, 1) := by decide +kernel
theorem dX5_addVersion_34 : decode cX5_addVersion 34 = .ok (.dup2, 1) := by decide +kernel
theorem dX5_addVersion_35 : decode cX5_addVersion 35 = .ok (.iaload, 1) := by decide +kernel
theorem dX5_addVersion_36 : decode cX5_addVersion 36 = .ok (.iconst 1, 1) := by decide +kernel
theorem dX5_addVersion_37 : decode cX5_addVersion 37 = .ok (.iadd, 1) := by decide +kernel
theorem dX5_addVersion_38 : decode cX5_addVersion 38 = .ok (.iastore, 1) := by decide +kernel
theorem dX5_addVersion_39 : decode cX5_addVersion 39 = .ok (.aload_n 0, 1) := by decide +kernel
theorem dX5_addVersion_40 : decode cX5_addVersion 40 = .ok (.dup, 1) := by decide +kernel
theorem dX5_addVersion_41 : decode cX5_addVersion 41 = .ok (.getfield 107, 3) := by decide +kernel
theorem dX5_addVersion_44 : decode cX5_addVersion 44 = .ok (.iconst 1, 1) := by decide +kernel
theorem dX5_addVersion_45 : decode cX5_addVersion 45 = .ok (.iadd, 1) := by decide +kernel
theorem dX5_addVersion_46 : decode cX5_addVersion 46 = .ok (.putfield 107, 3) := by decide +kernel
theorem dX5_addVersion_49 : decode cX5_addVersion 49 = .ok (.iload_n 2, 1) := by decide +kernel
theorem dX5_addVersion_50 : decode cX5_addVersion 50 = .ok (.ireturn, 1) := by decide +kernel
theorem dX6_init_0 : decode cX6_init 0 = .ok (.aload_n 0, 1) := by decide +kernel
theorem dX6_init_1 : decode cX6_init 1 = .ok (.invokespecial 3, 3) := by decide +kernel
theorem dX6_init_4 : decode cX6_init 4 = .ok (.aload_n 0, 1) := by decide +kernel
theorem dX6_init_5 : decode cX6_init 5 = .ok (.bipush 16, 2) := by decide +kernel
theorem dX6_init_7 : decode cX6_init 7 = .ok (.newarray .int, 2) := by decide +kernel
theorem dX6_init_9 : decode cX6_init 9 = .ok (.putfield 9, 3) := by decide +kernel
theorem dX6_init_12 : decode cX6_init 12 = .ok (.return_, 1) := by decide +kernel
set_option maxRecDepth 20000 in
theorem ggX7_init_J7_fill_53178 : GoodIn wsX7_init wsJ7_fill_53178 := goodIn_r _ [10] rfl (by decide +kernel)
set_option maxRecDepth 20000 in
theorem gX7_init_J7_fill_53178 : GoodIn wsX7_init (va_wsS RX7 16 yJ7_fill_53178 wsJ7_fill_53178) := goodIn_app (goodIn_of _ (by decide +kernel)) ggX7_init_J7_fill_53178
theorem dX7_init_0 : decode cX7_init 0 = .ok (.aload_n 0, 1) := by decide +kernel
theorem dX7_init_1 : decode cX7_init 1 = .ok (.invokespecial 1, 3) := by decide +kernel
theorem dX7_init_4 : decode cX7_init 4 = .ok (.aload_n 0, 1) := by decide +kernel
theorem dX7_init_5 : decode cX7_init 5 = .ok (.sipush 320, 3) := by decide +kernel
theorem dX7_init_8 : decode cX7_init 8 = .ok (.newarray .int, 2) := by decide +kernel
theorem dX7_init_10 : decode cX7_init 10 = .ok (.putfield 9, 3) := by decide +kernel
theorem dX7_init_13 : decode cX7_init 13 = .ok (.aload_n 0, 1) := by decide +kernel
theorem dX7_init_14 : decode cX7_init 14 = .ok (.bipush 64, 2) := by decide +kernel
theorem dX7_init_16 : decode cX7_init 16 = .ok (.newarray .int, 2) := by decide +kernel
theorem dX7_init_18 : decode cX7_init 18 = .ok (.putfield 13, 3) := by decide +kernel
theorem dX7_init_21 : decode cX7_init 21 = .ok (.aload_n 0, 1) := by decide +kernel
theorem dX7_init_22 : decode cX7_init 22 = .ok (.getfield 13, 3) := by decide +kernel
theorem dX7_init_25 : decode cX7_init 25 = .ok (.iconst (-1), 1) := by decide +kernel
theorem dX7_init_26 : decode cX7_init 26 = .ok (.invokestatic 16, 3) := by decide +kernel
theorem dX7_init_29 : decode cX7_init 29 = .ok (.return_, 1) := by decide +kernel
theorem dX8_init_0 : decode cX8_init 0 = .ok (.aload_n 0, 1) := by decide +kernel
theorem dX8_init_1 : decode cX8_init 1 = .ok (.invokespecial 3, 3) := by decide +kernel
theorem dX8_init_4 : decode cX8_init 4 = .ok (.aload_n 0, 1) := by decide +kernel
theorem dX8_init_5 : decode cX8_init 5 = .ok (.sipush 200, 3) := by decide +kernel
theorem dX8_init_8 : decode cX8_init 8 = .ok (.newarray .int, 2) := by decide +kernel
theorem dX8_init_10 : decode cX8_init 10 = .ok (.putfield 9, 3) := by decide +kernel
theorem dX8_init_13 : decode cX8_init 13 = .ok (.aload_n 0, 1) := by decide +kernel
theorem dX8_init_14 : decode cX8_init 14 = .ok (.bipush 64, 2) := by decide +kernel
theorem dX8_init_16 : decode cX8_init 16 = .ok (.newarray .int, 2) := by decide +kernel
theorem dX8_init_18 : decode cX8_init 18 = .ok (.putfield 15, 3) := by decide +kernel
theorem dX8_init_21 : decode cX8_init 21 = .ok (.aload_n 0, 1) := by decide +kernel
theorem dX8_init_22 : decode cX8_init 22 = .ok (.aload_n 1, 1) := by decide +kernel
theorem dX8_init_23 : decode cX8_init 23 = .ok (.putfield 18, 3) := by decide +kernel
theorem dX8_init_26 : decode cX8_init 26 = .ok (.aload_n 0, 1) := by decide +kernel
theorem dX8_init_27 : decode cX8_init 27 = .ok (.aload_n 2, 1) := by decide +kernel
theorem dX8_init_28 : decode cX8_init 28 = .ok (.putfield 22, 3) := by decide +kernel
theorem dX8_init_31 : decode cX8_init 31 = .ok (.return_, 1) := by decide +kernel
theorem dX9_init_0 : decode cX9_init 0 = .ok (.aload_n 0, 1) := by decide +kernel
theorem dX9_init_1 : decode cX9_init 1 = .ok (.invokespecial 1, 3) := by decide +kernel
theorem dX9_init_4 : decode cX9_init 4 = .ok (.aload_n 0, 1) := by decide +kernel
theorem dX9_init_5 : decode cX9_init 5 = .ok (.bipush 32, 2) := by decide +kernel
theorem dX9_init_7 : decode cX9_init 7 = .ok (.newarray .int, 2) := by decide +kernel
theorem dX9_init_9 : decode cX9_init 9 = .ok (.putfield 7, 3) := by decide +kernel
theorem dX9_init_12 : decode cX9_init 12 = .ok (.aload_n 0, 1) := by decide +kernel
theorem dX9_init_13 : decode cX9_init 13 = .ok (.bipush 32, 2) := by decide +kernel
theorem dX9_init_15 : decode cX9_init 15 = .ok (.newarray .int, 2) := by decide +kernel
theorem dX9_init_17 : decode cX9_init 17 = .ok (.putfield 13, 3) := by decide +kernel
theorem dX9_init_20 : decode cX9_init 20 = .ok (.aload_n 0, 1) := by decide +kernel
theorem dX9_init_21 : decode cX9_init 21 = .ok (.bipush 32, 2) := by decide +kernel
theorem dX9_init_23 : decode cX9_init 23 = .ok (.newarray .long, 2) := by decide +kernel
theorem dX9_init_25 : decode cX9_init 25 = .ok (.putfield 16, 3) := by decide +kernel
theorem dX9_init_28 : decode cX9_init 28 = .ok (.aload_n 0, 1) := by decide +kernel
theorem dX9_init_29 : decode cX9_init 29 = .ok (.bipush 32, 2) := by decide +kernel
theorem dX9_init_31 : decode cX9_init 31 = .ok (.newarray .int, 2) := by decide +kernel
theorem dX9_init_33 : decode cX9_init 33 = .ok (.putfield 20, 3) := by decide +kernel
theorem dX9_init_36 : decode cX9_init 36 = .ok (.return_, 1) := by decide +kernel
set_option maxRecDepth 20000 in
theorem ggX10_init_J7_fill_53178 : GoodIn wsX10_init wsJ7_fill_53178 := goodIn_r _ [12] rfl (by decide +kernel)
set_option maxRecDepth 20000 in
theorem gX10_init_J7_fill_53178 : GoodIn wsX10_init (va_wsS RX10 24 yJ7_fill_53178 wsJ7_fill_53178) := goodIn_app (goodIn_of _ (by decide +kernel)) ggX10_init_J7_fill_53178
theorem dX10_init_0 : decode cX10_init 0 = .ok (.aload_n 0, 1) := by decide +kernel
theorem dX10_init_1 : decode cX10_init 1 = .ok (.invokespecial 3, 3) := by decide +kernel
theorem dX10_init_4 : decode cX10_init 4 = .ok (.aload_n 0, 1) := by decide +kernel
theorem dX10_init_5 : decode cX10_init 5 = .ok (.bipush 6, 2) := by decide +kernel
theorem dX10_init_7 : decode cX10_init 7 = .ok (.newarray .int, 2) := by decide +kernel
theorem dX10_init_9 : decode cX10_init 9 = .ok (.putfield 9, 3) := by decide +kernel
theorem dX10_init_12 : decode cX10_init 12 = .ok (.aload_n 0, 1) := by decide +kernel
theorem dX10_init_13 : decode cX10_init 13 = .ok (.bipush 10, 2) := by decide +kernel
theorem dX10_init_15 : decode cX10_init 15 = .ok (.newarray .int, 2) := by decide +kernel
theorem dX10_init_17 : decode cX10_init 17 = .ok (.putfield 15, 3) := by decide +kernel
theorem dX10_init_20 : decode cX10_init 20 = .ok (.aload_n 0, 1) := by decide +kernel
theorem dX10_init_21 : decode cX10_init 21 = .ok (.bipush 10, 2) := by decide +kernel
