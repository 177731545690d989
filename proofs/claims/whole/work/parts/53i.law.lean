theorem inX0 : ∀ w ∈ wsX00, w ∈ lw_tbl := by decide +kernel
theorem inX1 : ∀ w ∈ wsX10, w ∈ lw_tbl := by decide +kernel
theorem inX2 : ∀ w ∈ wsX20, w ∈ lw_tbl := by decide +kernel
theorem inX3 : ∀ w ∈ wsX30, w ∈ lw_tbl := by decide +kernel
theorem inX4 : ∀ w ∈ wsX40, w ∈ lw_tbl := by decide +kernel
theorem inX5 : ∀ w ∈ wsX50, w ∈ lw_tbl := by decide +kernel
theorem inX6 : ∀ w ∈ wsX60, w ∈ lw_tbl := by decide +kernel
theorem inX7 : ∀ w ∈ wsX70, w ∈ lw_tbl := by decide +kernel
theorem inX8 : ∀ w ∈ wsX80, w ∈ lw_tbl := by decide +kernel
theorem inJ6 : ∀ w ∈ wsJ60, w ∈ lw_tbl := by decide +kernel
theorem inJ9 : ∀ w ∈ wsJ90, w ∈ lw_tbl := by decide +kernel
theorem inJ10 : ∀ w ∈ wsJ100, w ∈ lw_tbl := by decide +kernel
def wsL_law : List Cond := (wsL_law_r1 ++ (wsL_law_r2 ++ (wsL_law_r3 ++ (wsL_law_r4 ++ (wsL_law_r5 ++ (wsL_law_r6 ++ (wsL_law_r7 ++ (wsL_law_r8 ++ (wsL_law_r9 ++ (wsL_law_r10 ++ (wsL_law_r11 ++ (wsL_law_r12 ++ (wsL_law_r13 ++ (wsL_law_r14 ++ (wsL_law_r15 ++ (wsL_law_r16 ++ (wsL_law_r17 ++ (wsL_law_r18 ++ (wsL_law_r19 ++ (wsL_law_r20 ++ (wsL_law_r21 ++ (wsL_law_r22 ++ (wsL_law_r23 ++ (wsL_law_r24 ++ (wsL_law_r25 ++ (wsL_law_r26 ++ (wsL_law_r27 ++ (wsL_law_r28 ++ (wsL_law_r29 ++ (wsL_law_r30 ++ (wsL_law_r31 ++ wsL_law_r32))))))))))))))))))))))))))))))) ++ wsX70 ++ wsX80 ++ wsX30 ++ wsX00 ++ wsX10 ++ wsX20 ++ wsX50 ++ wsX40 ++ wsX60 ++ ([] : List Cond)
theorem ap_in {a b c : List Cond} (h1 : ∀ w ∈ a, w ∈ c) (h2 : ∀ w ∈ b, w ∈ c) : ∀ w ∈ a ++ b, w ∈ c := fun w h => (List.mem_append.mp h).elim (h1 w) (h2 w)
theorem wsL_law_in : ∀ w ∈ wsL_law, w ∈ lw_tbl := (ap_in (ap_in (ap_in (ap_in (ap_in (ap_in (ap_in (ap_in (ap_in (ap_in (ap_in wsL_law_r1_in (ap_in wsL_law_r2_in (ap_in wsL_law_r3_in (ap_in wsL_law_r4_in (ap_in wsL_law_r5_in (ap_in wsL_law_r6_in (ap_in wsL_law_r7_in (ap_in wsL_law_r8_in (ap_in wsL_law_r9_in (ap_in wsL_law_r10_in (ap_in wsL_law_r11_in (ap_in wsL_law_r12_in (ap_in wsL_law_r13_in (ap_in wsL_law_r14_in (ap_in wsL_law_r15_in (ap_in wsL_law_r16_in (ap_in wsL_law_r17_in (ap_in wsL_law_r18_in (ap_in wsL_law_r19_in (ap_in wsL_law_r20_in (ap_in wsL_law_r21_in (ap_in wsL_law_r22_in (ap_in wsL_law_r23_in (ap_in wsL_law_r24_in (ap_in wsL_law_r25_in (ap_in wsL_law_r26_in (ap_in wsL_law_r27_in (ap_in wsL_law_r28_in (ap_in wsL_law_r29_in (ap_in wsL_law_r30_in (ap_in wsL_law_r31_in wsL_law_r32_in))))))))))))))))))))))))))))))) inX7) inX8) inX3) inX0) inX1) inX2) inX5) inX4) inX6) (fun _ h => nomatch h))
