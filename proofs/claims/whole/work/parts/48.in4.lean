/-! the law's words are the statement's -/
set_option maxRecDepth 20000 in
theorem q_X70 : ∀ w ∈ wsX70, w ∈ lw_tbl := by decide +kernel
set_option maxRecDepth 20000 in
theorem q_X80 : ∀ w ∈ wsX80, w ∈ lw_tbl := by decide +kernel
set_option maxRecDepth 20000 in
theorem q_X50 : ∀ w ∈ wsX50, w ∈ lw_tbl := by decide +kernel
set_option maxRecDepth 20000 in
theorem q_X20 : ∀ w ∈ wsX20, w ∈ lw_tbl := by decide +kernel
set_option maxRecDepth 20000 in
theorem q_Jx4a65c0 : ∀ w ∈ wsJx4a65c0, w ∈ lw_tbl := by decide +kernel
set_option maxRecDepth 20000 in
theorem q_X10 : ∀ w ∈ wsX10, w ∈ lw_tbl := by decide +kernel
set_option maxRecDepth 20000 in
theorem q_X40 : ∀ w ∈ wsX40, w ∈ lw_tbl := by decide +kernel
set_option maxRecDepth 20000 in
theorem q_X60 : ∀ w ∈ wsX60, w ∈ lw_tbl := by decide +kernel
set_option maxRecDepth 20000 in
theorem q_X30 : ∀ w ∈ wsX30, w ∈ lw_tbl := by decide +kernel
set_option maxRecDepth 20000 in
theorem q_X00 : ∀ w ∈ wsX00, w ∈ lw_tbl := by decide +kernel
set_option maxRecDepth 20000 in
theorem q_Jx000600 : ∀ w ∈ wsJx000600, w ∈ lw_tbl := by decide +kernel
set_option maxRecDepth 20000 in
theorem q_x0 : ∀ w ∈ (vx_atS RX7 58 "java/lang/IllegalArgumentException" ["java/lang/RuntimeException", "java/lang/Exception"]).filter goodWord, w ∈ lw_tbl := by decide +kernel
set_option maxRecDepth 20000 in
theorem q_x1 : ∀ w ∈ (vx_atS RX7 69 "java/lang/UnsupportedOperationException" ["java/lang/RuntimeException", "java/lang/Exception"]).filter goodWord, w ∈ lw_tbl := by decide +kernel
set_option maxRecDepth 20000 in
theorem q_x2 : ∀ w ∈ nxA.filter goodWord, w ∈ lw_tbl := by decide +kernel
set_option maxRecDepth 20000 in
theorem q_x3 : ∀ w ∈ (vx_atS RX7 175 "java/lang/IllegalStateException" ["java/lang/RuntimeException", "java/lang/Exception"]).filter goodWord, w ∈ lw_tbl := by decide +kernel
set_option maxRecDepth 20000 in
theorem q_x4 : ∀ w ∈ (vx_atS RX7 163 "java/lang/ArithmeticException" ["java/lang/RuntimeException", "java/lang/Exception"]).filter goodWord, w ∈ lw_tbl := by decide +kernel
set_option maxRecDepth 20000 in
theorem q_x5 : ∀ w ∈ ((.classLink RL 69 (exN 5) : Cond) :: (vx_atS RX7 228 (exN 5) N3).filter goodWord), w ∈ lw_tbl := by decide +kernel
theorem q_app {a b c : List Cond} (ha : ∀ w ∈ a, w ∈ c) (hb : ∀ w ∈ b, w ∈ c) : ∀ w ∈ a ++ b, w ∈ c := fun w h => (List.mem_append.mp h).elim (ha w) (hb w)
theorem q_law0 : ∀ w ∈ wsL_law0, w ∈ lw_tbl := q_app (q_app (q_app (q_app (q_app (q_app (q_app (q_app (q_app (q_app (q_app (q_app (q_app q_r1 (q_app q_r2 (q_app q_r3 (q_app q_r4 (q_app q_r5 (q_app q_r6 (q_app q_r7 (q_app q_r8 (q_app q_r9 (q_app q_r10 (q_app q_r11 (q_app q_r12 (q_app q_r13 (q_app q_r14 (q_app q_r15 (q_app q_r16 (q_app q_r17 (q_app q_r18 (q_app q_r19 (q_app q_r20 (q_app q_r21 (q_app q_r22 (q_app q_r23 (q_app q_r24 (q_app q_r25 (q_app q_r26 (q_app q_r27 (q_app q_r28 (q_app q_r29 (q_app q_r30 (q_r31))))))))))))))))))))))))))))))) q_X70) q_X80) q_X50) q_X20) q_Jx4a65c0) q_X10) q_X40) q_X60) q_X30) q_X00) q_Jx000600) (fun _ h => absurd h List.not_mem_nil)
theorem q_law9 : ∀ w ∈ wsL_law9, w ∈ lw_tbl := q_app (q_app (q_app (q_app (q_app (q_app q_law0 q_x0) q_x1) q_x2) q_x3) q_x4) q_x5
