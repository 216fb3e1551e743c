theorem inq_r1 : ∀ w ∈ wsL_law0_r1, w ∈ lw_tbl := by decide +kernel
theorem inq_r2 : ∀ w ∈ wsL_law0_r2, w ∈ lw_tbl := by decide +kernel
theorem inq_r3 : ∀ w ∈ wsL_law0_r3, w ∈ lw_tbl := by decide +kernel
theorem inq_r4 : ∀ w ∈ wsL_law0_r4, w ∈ lw_tbl := by decide +kernel
theorem inq_r5 : ∀ w ∈ wsL_law0_r5, w ∈ lw_tbl := by decide +kernel
theorem inq_r6 : ∀ w ∈ wsL_law0_r6, w ∈ lw_tbl := by decide +kernel
theorem inq_r7 : ∀ w ∈ wsL_law0_r7, w ∈ lw_tbl := by decide +kernel
theorem inq_r8 : ∀ w ∈ wsL_law0_r8, w ∈ lw_tbl := by decide +kernel
theorem inq_r9 : ∀ w ∈ wsL_law0_r9, w ∈ lw_tbl := by decide +kernel
theorem inq_r10 : ∀ w ∈ wsL_law0_r10, w ∈ lw_tbl := by decide +kernel
theorem inq_r11 : ∀ w ∈ wsL_law0_r11, w ∈ lw_tbl := by decide +kernel
theorem inq_r12 : ∀ w ∈ wsL_law0_r12, w ∈ lw_tbl := by decide +kernel
theorem inq_r13 : ∀ w ∈ wsL_law0_r13, w ∈ lw_tbl := by decide +kernel
theorem inq_r14 : ∀ w ∈ wsL_law0_r14, w ∈ lw_tbl := by decide +kernel
theorem inq_15_0 : Cond.static yL_some ∈ lw_tbl := by decide +kernel
theorem inq_15_1 : Cond.code yL_some cL_some 2 (some .int) ∈ lw_tbl := by decide +kernel
theorem inq_15_2 : Cond.methodLink RL 130 yL_sets ∈ lw_tbl := by decide +kernel
theorem inq_15_3 : Cond.static yL_sets ∈ lw_tbl := by decide +kernel
theorem inq_15_4 : Cond.code yL_sets cL_sets 15 (some .boolean) ∈ lw_tbl := List.mem_append_right _ (List.mem_append_right _ (List.mem_append_right _ (List.mem_of_getElem? (i := 33) rfl)))
theorem inq_15_5 : Cond.constant RL 110 (1000001) ∈ lw_tbl := by decide +kernel
theorem inq_15_6 : Cond.constant RL 111 (-1000001) ∈ lw_tbl := by decide +kernel
theorem inq_15_7 : Cond.constant RL 112 (100001) ∈ lw_tbl := by decide +kernel
theorem inq_15_8 : Cond.methodLink RL 134 yL_pays ∈ lw_tbl := by decide +kernel
theorem inq_15_9 : Cond.static yL_pays ∈ lw_tbl := by decide +kernel
theorem inq_15_10 : Cond.code yL_pays cL_pays 13 (some .int) ∈ lw_tbl := List.mem_append_right _ (List.mem_append_right _ (List.mem_append_right _ (List.mem_of_getElem? (i := 39) rfl)))
theorem inq_15_11 : Cond.methodLink RL 138 yL_lends ∈ lw_tbl := by decide +kernel
theorem inq_15_12 : Cond.static yL_lends ∈ lw_tbl := by decide +kernel
theorem inq_15_13 : Cond.code yL_lends cL_lends 17 (some .boolean) ∈ lw_tbl := List.mem_append_right _ (List.mem_append_right _ (List.mem_append_right _ (List.mem_of_getElem? (i := 45) rfl)))
theorem inq_15_14 : Cond.methodLink RL 116 yL_lend ∈ lw_tbl := by decide +kernel
theorem inq_15_15 : Cond.static yL_lend ∈ lw_tbl := by decide +kernel
theorem inq_15_16 : Cond.codeWith yL_lend cL_lend 7 (some .int) [(0, 11, 12, 14), (0, 11, 17, 17), (0, 11, 22, 20)] ∈ lw_tbl := by decide +kernel
theorem inq_15_17 : Cond.methodLink RL 23 yX4_lend ∈ lw_tbl := by decide +kernel
theorem inq_15_18 : Cond.instanceMethod yX4_lend ∈ lw_tbl := by decide +kernel
theorem inq_15_19 : Cond.selects RX4 yX4_lend yX4_lend ∈ lw_tbl := by decide +kernel
theorem inq_15_20 : Cond.code yX4_lend cX4_lend 6 (some .int) ∈ lw_tbl := by decide +kernel
theorem inq_15_21 : Cond.methodLink RX4 161 yX4_requireLoanable ∈ lw_tbl := by decide +kernel
theorem inq_15_22 : Cond.instanceMethod yX4_requireLoanable ∈ lw_tbl := by decide +kernel
theorem inq_15_23 : Cond.selects RX4 yX4_requireLoanable yX4_requireLoanable ∈ lw_tbl := by decide +kernel
theorem inq_r15 : ∀ w ∈ wsL_law0_r15, w ∈ lw_tbl := List.forall_mem_cons.mpr ⟨inq_15_0, List.forall_mem_cons.mpr ⟨inq_15_1, List.forall_mem_cons.mpr ⟨inq_15_2, List.forall_mem_cons.mpr ⟨inq_15_3, List.forall_mem_cons.mpr ⟨inq_15_4, List.forall_mem_cons.mpr ⟨inq_15_5, List.forall_mem_cons.mpr ⟨inq_15_6, List.forall_mem_cons.mpr ⟨inq_15_7, List.forall_mem_cons.mpr ⟨inq_15_8, List.forall_mem_cons.mpr ⟨inq_15_9, List.forall_mem_cons.mpr ⟨inq_15_10, List.forall_mem_cons.mpr ⟨inq_15_11, List.forall_mem_cons.mpr ⟨inq_15_12, List.forall_mem_cons.mpr ⟨inq_15_13, List.forall_mem_cons.mpr ⟨inq_15_14, List.forall_mem_cons.mpr ⟨inq_15_15, List.forall_mem_cons.mpr ⟨inq_15_16, List.forall_mem_cons.mpr ⟨inq_15_17, List.forall_mem_cons.mpr ⟨inq_15_18, List.forall_mem_cons.mpr ⟨inq_15_19, List.forall_mem_cons.mpr ⟨inq_15_20, List.forall_mem_cons.mpr ⟨inq_15_21, List.forall_mem_cons.mpr ⟨inq_15_22, List.forall_mem_cons.mpr ⟨inq_15_23, fun _ h => absurd h List.not_mem_nil⟩⟩⟩⟩⟩⟩⟩⟩⟩⟩⟩⟩⟩⟩⟩⟩⟩⟩⟩⟩⟩⟩⟩⟩
theorem inq_16_0 : Cond.code yX4_requireLoanable cX4_requireLoanable 5 none ∈ lw_tbl := by decide +kernel
theorem inq_16_1 : Cond.methodLink RX4 210 yX4_pledgeWorth ∈ lw_tbl := by decide +kernel
theorem inq_16_2 : Cond.instanceMethod yX4_pledgeWorth ∈ lw_tbl := by decide +kernel
theorem inq_16_3 : Cond.selects RX4 yX4_pledgeWorth yX4_pledgeWorth ∈ lw_tbl := by decide +kernel
theorem inq_16_4 : Cond.code yX4_pledgeWorth cX4_pledgeWorth 2 (some .int) ∈ lw_tbl := by decide +kernel
theorem inq_16_5 : Cond.methodLink RX4 168 yX1_enter ∈ lw_tbl := by decide +kernel
theorem inq_16_6 : Cond.instanceMethod yX1_enter ∈ lw_tbl := by decide +kernel
theorem inq_16_7 : Cond.selects RX1 yX1_enter yX1_enter ∈ lw_tbl := by decide +kernel
theorem inq_16_8 : Cond.code yX1_enter cX1_enter 6 (some .int) ∈ lw_tbl := by decide +kernel
theorem inq_16_9 : Cond.fieldLink RX1 24 "Queuefloat$Loans" "made" "I" ∈ lw_tbl := by decide +kernel
theorem inq_16_10 : Cond.methodLink RL 141 yL_runs ∈ lw_tbl := by decide +kernel
theorem inq_16_11 : Cond.static yL_runs ∈ lw_tbl := by decide +kernel
theorem inq_16_12 : Cond.code yL_runs cL_runs 13 (some .boolean) ∈ lw_tbl := List.mem_append_right _ (List.mem_append_right _ (List.mem_append_right _ (List.mem_of_getElem? (i := 42) rfl)))
theorem inq_16_13 : Cond.methodLink RL 144 yL_comes ∈ lw_tbl := by decide +kernel
theorem inq_16_14 : Cond.static yL_comes ∈ lw_tbl := by decide +kernel
theorem inq_16_15 : Cond.code yL_comes cL_comes 11 (some .boolean) ∈ lw_tbl := List.mem_append_right _ (List.mem_append_right _ (List.mem_append_right _ (List.mem_of_getElem? (i := 70) rfl)))
theorem inq_r16 : ∀ w ∈ wsL_law0_r16, w ∈ lw_tbl := List.forall_mem_cons.mpr ⟨inq_16_0, List.forall_mem_cons.mpr ⟨inq_16_1, List.forall_mem_cons.mpr ⟨inq_16_2, List.forall_mem_cons.mpr ⟨inq_16_3, List.forall_mem_cons.mpr ⟨inq_16_4, List.forall_mem_cons.mpr ⟨inq_16_5, List.forall_mem_cons.mpr ⟨inq_16_6, List.forall_mem_cons.mpr ⟨inq_16_7, List.forall_mem_cons.mpr ⟨inq_16_8, List.forall_mem_cons.mpr ⟨inq_16_9, List.forall_mem_cons.mpr ⟨inq_16_10, List.forall_mem_cons.mpr ⟨inq_16_11, List.forall_mem_cons.mpr ⟨inq_16_12, List.forall_mem_cons.mpr ⟨inq_16_13, List.forall_mem_cons.mpr ⟨inq_16_14, List.forall_mem_cons.mpr ⟨inq_16_15, fun _ h => absurd h List.not_mem_nil⟩⟩⟩⟩⟩⟩⟩⟩⟩⟩⟩⟩⟩⟩⟩⟩
theorem inq_X4 : ∀ w ∈ wsX40, w ∈ lw_tbl := by decide +kernel
theorem inq_X3 : ∀ w ∈ wsX30, w ∈ lw_tbl := by decide +kernel
theorem inq_X0 : ∀ w ∈ wsX00, w ∈ lw_tbl := by decide +kernel
theorem inq_X2 : ∀ w ∈ wsX20, w ∈ lw_tbl := by decide +kernel
theorem inq_X1 : ∀ w ∈ wsX10, w ∈ lw_tbl := by decide +kernel
theorem inq_law0 : ∀ w ∈ wsL_law0, w ∈ lw_tbl := List.forall_mem_append.mpr ⟨List.forall_mem_append.mpr ⟨List.forall_mem_append.mpr ⟨List.forall_mem_append.mpr ⟨List.forall_mem_append.mpr ⟨List.forall_mem_append.mpr ⟨List.forall_mem_append.mpr ⟨inq_r1, List.forall_mem_append.mpr ⟨inq_r2, List.forall_mem_append.mpr ⟨inq_r3, List.forall_mem_append.mpr ⟨inq_r4, List.forall_mem_append.mpr ⟨inq_r5, List.forall_mem_append.mpr ⟨inq_r6, List.forall_mem_append.mpr ⟨inq_r7, List.forall_mem_append.mpr ⟨inq_r8, List.forall_mem_append.mpr ⟨inq_r9, List.forall_mem_append.mpr ⟨inq_r10, List.forall_mem_append.mpr ⟨inq_r11, List.forall_mem_append.mpr ⟨inq_r12, List.forall_mem_append.mpr ⟨inq_r13, List.forall_mem_append.mpr ⟨inq_r14, List.forall_mem_append.mpr ⟨inq_r15, inq_r16⟩⟩⟩⟩⟩⟩⟩⟩⟩⟩⟩⟩⟩⟩⟩, inq_X4⟩, inq_X3⟩, inq_X0⟩, inq_X2⟩, inq_X1⟩, fun _ h => absurd h List.not_mem_nil⟩
theorem inq_law : ∀ w ∈ wsL_law, w ∈ lw_tbl := List.forall_mem_append.mpr ⟨List.forall_mem_append.mpr ⟨List.forall_mem_append.mpr ⟨inq_law0, wsL_law_x0⟩, wsL_law_x1⟩, wsL_law_x2⟩
