theorem m_X4_pledgeWorth_f55 : Cond.fieldLink RX4 55 "Queuefloat" "paperPrice" "I" ∈ wsX4_pledgeWorth := by decide +kernel
theorem i_X4_pledgeWorth_X4 : ∀ w ∈ wsX40, w ∈ wsX4_pledgeWorth := by decide +kernel
theorem m_X4_pledgeWorth_f58 : Cond.fieldLink RX4 58 "Queuefloat" "paperCut" "I" ∈ wsX4_pledgeWorth := by decide +kernel
theorem m_X4_canRepay_f36 : Cond.fieldLink RX4 36 "Queuefloat" "market" "LQueuefloat$Loans;" ∈ wsX4_canRepay := by decide +kernel
theorem i_X4_canRepay_X4 : ∀ w ∈ wsX40, w ∈ wsX4_canRepay := by decide +kernel
theorem m_X4_canRepay_f183 : Cond.fieldLink RX4 183 "Queuefloat$Loans" "borrower" "[I" ∈ wsX4_canRepay := by decide +kernel
theorem i_X4_canRepay_X1 : ∀ w ∈ wsX10, w ∈ wsX4_canRepay := by decide +kernel
theorem m_X4_canRepay_f40 : Cond.fieldLink RX4 40 "Queuefloat" "closed" "[Z" ∈ wsX4_canRepay := by decide +kernel
theorem m_X4_canRepay_f10 : Cond.fieldLink RX4 10 "Queuefloat" "sums" "LQueuefloat$Sums;" ∈ wsX4_canRepay := by decide +kernel
theorem m_X4_canRepay_f73 : Cond.fieldLink RX4 73 "Queuefloat$Sums" "accountOf" "[I" ∈ wsX4_canRepay := by decide +kernel
theorem i_X4_canRepay_X3 : ∀ w ∈ wsX30, w ∈ wsX4_canRepay := by decide +kernel
theorem m_X4_canRepay_f261 : Cond.fieldLink RX4 261 "Queuefloat$Loans" "due" "[I" ∈ wsX4_canRepay := by decide +kernel
theorem m_X4_canRepay_f22 : Cond.fieldLink RX4 22 "Queuefloat" "limits" "LQueuefloat$Limits;" ∈ wsX4_canRepay := by decide +kernel
theorem m_X4_canRepay_f91 : Cond.fieldLink RX4 91 "Queuefloat$Limits" "floorOf" "[I" ∈ wsX4_canRepay := by decide +kernel
theorem i_X4_canRepay_X0 : ∀ w ∈ wsX00, w ∈ wsX4_canRepay := by decide +kernel
theorem m_X4_repay_f36 : Cond.fieldLink RX4 36 "Queuefloat" "market" "LQueuefloat$Loans;" ∈ wsX4_repay := by decide +kernel
theorem i_X4_repay_X4 : ∀ w ∈ wsX40, w ∈ wsX4_repay := by decide +kernel
theorem m_X4_repay_f183 : Cond.fieldLink RX4 183 "Queuefloat$Loans" "borrower" "[I" ∈ wsX4_repay := by decide +kernel
theorem i_X4_repay_X1 : ∀ w ∈ wsX10, w ∈ wsX4_repay := by decide +kernel
theorem m_X4_repay_f10 : Cond.fieldLink RX4 10 "Queuefloat" "sums" "LQueuefloat$Sums;" ∈ wsX4_repay := by decide +kernel
theorem m_X4_repay_f264 : Cond.fieldLink RX4 264 "Queuefloat$Loans" "lender" "[I" ∈ wsX4_repay := by decide +kernel
theorem m_X4_repay_f261 : Cond.fieldLink RX4 261 "Queuefloat$Loans" "due" "[I" ∈ wsX4_repay := by decide +kernel
theorem m_X4_repay_f44 : Cond.fieldLink RX4 44 "Queuefloat" "papersOf" "[I" ∈ wsX4_repay := by decide +kernel
theorem m_X4_repay_f267 : Cond.fieldLink RX4 267 "Queuefloat$Loans" "pledge" "[I" ∈ wsX4_repay := by decide +kernel
theorem m_X4_close_f40 : Cond.fieldLink RX4 40 "Queuefloat" "closed" "[Z" ∈ wsX4_close := by decide +kernel
theorem i_X4_close_X4 : ∀ w ∈ wsX40, w ∈ wsX4_close := by decide +kernel
theorem m_X4_close_f29 : Cond.fieldLink RX4 29 "Queuefloat" "payments" "LQueuefloat$Payments;" ∈ wsX4_close := by decide +kernel
theorem m_X4_sellPledge_f36 : Cond.fieldLink RX4 36 "Queuefloat" "market" "LQueuefloat$Loans;" ∈ wsX4_sellPledge := by decide +kernel
theorem i_X4_sellPledge_X4 : ∀ w ∈ wsX40, w ∈ wsX4_sellPledge := by decide +kernel
theorem m_X4_sellPledge_f267 : Cond.fieldLink RX4 267 "Queuefloat$Loans" "pledge" "[I" ∈ wsX4_sellPledge := by decide +kernel
theorem i_X4_sellPledge_X1 : ∀ w ∈ wsX10, w ∈ wsX4_sellPledge := by decide +kernel
theorem m_X4_sellPledge_f55 : Cond.fieldLink RX4 55 "Queuefloat" "paperPrice" "I" ∈ wsX4_sellPledge := by decide +kernel
theorem m_X4_sellPledge_f261 : Cond.fieldLink RX4 261 "Queuefloat$Loans" "due" "[I" ∈ wsX4_sellPledge := by decide +kernel
theorem m_X4_sellPledge_l85 : Cond.methodLink RX4 85 Lib.Math.min.name ∈ wsX4_sellPledge := by decide +kernel
theorem m_X4_sellPledge_lsmin : Cond.static Lib.Math.min.name ∈ wsX4_sellPledge := by decide +kernel
theorem m_X4_sellPledge_lmath : Cond.initialized "java/lang/Math" ∈ wsX4_sellPledge := by decide +kernel
theorem m_X4_sellPledge_lcmin : Cond.code Lib.Math.min.name Lib.Math.min.code 2 (some .int) ∈ wsX4_sellPledge := by decide +kernel
theorem m_X4_sellPledge_f10 : Cond.fieldLink RX4 10 "Queuefloat" "sums" "LQueuefloat$Sums;" ∈ wsX4_sellPledge := by decide +kernel
theorem m_X4_sellPledge_f73 : Cond.fieldLink RX4 73 "Queuefloat$Sums" "accountOf" "[I" ∈ wsX4_sellPledge := by decide +kernel
theorem i_X4_sellPledge_X3 : ∀ w ∈ wsX30, w ∈ wsX4_sellPledge := by decide +kernel
theorem m_X4_sellPledge_f264 : Cond.fieldLink RX4 264 "Queuefloat$Loans" "lender" "[I" ∈ wsX4_sellPledge := by decide +kernel
theorem m_X4_sellPledge_f183 : Cond.fieldLink RX4 183 "Queuefloat$Loans" "borrower" "[I" ∈ wsX4_sellPledge := by decide +kernel
theorem m_X4_sellPledge_f192 : Cond.fieldLink RX4 192 "Queuefloat" "proceeds" "I" ∈ wsX4_sellPledge := by decide +kernel
theorem m_X4_morning_f10 : Cond.fieldLink RX4 10 "Queuefloat" "sums" "LQueuefloat$Sums;" ∈ wsX4_morning := by decide +kernel
theorem i_X4_morning_X4 : ∀ w ∈ wsX40, w ∈ wsX4_morning := by decide +kernel
theorem m_X4_morning_f36 : Cond.fieldLink RX4 36 "Queuefloat" "market" "LQueuefloat$Loans;" ∈ wsX4_morning := by decide +kernel
theorem m_X4_morning_f170 : Cond.fieldLink RX4 170 "Queuefloat$Loans" "ended" "I" ∈ wsX4_morning := by decide +kernel
theorem i_X4_morning_X1 : ∀ w ∈ wsX10, w ∈ wsX4_morning := by decide +kernel
theorem m_X4_morning_f169 : Cond.fieldLink RX4 169 "Queuefloat$Loans" "made" "I" ∈ wsX4_morning := by decide +kernel
theorem m_X4_morning_f183 : Cond.fieldLink RX4 183 "Queuefloat$Loans" "borrower" "[I" ∈ wsX4_morning := by decide +kernel
theorem m_X4_loans_f36 : Cond.fieldLink RX4 36 "Queuefloat" "market" "LQueuefloat$Loans;" ∈ wsX4_loans := by decide +kernel
theorem i_X4_loans_X4 : ∀ w ∈ wsX40, w ∈ wsX4_loans := by decide +kernel
theorem m_X4_loans_f169 : Cond.fieldLink RX4 169 "Queuefloat$Loans" "made" "I" ∈ wsX4_loans := by decide +kernel
theorem i_X4_loans_X1 : ∀ w ∈ wsX10, w ∈ wsX4_loans := by decide +kernel
theorem m_X4_loans_f170 : Cond.fieldLink RX4 170 "Queuefloat$Loans" "ended" "I" ∈ wsX4_loans := by decide +kernel
theorem m_X4_sold_f192 : Cond.fieldLink RX4 192 "Queuefloat" "proceeds" "I" ∈ wsX4_sold := by decide +kernel
theorem i_X4_sold_X4 : ∀ w ∈ wsX40, w ∈ wsX4_sold := by decide +kernel
theorem x_X4_requireBank_9_1 : ∀ w ∈ (vx_atS RX4 144 "java/lang/IndexOutOfBoundsException" ["java/lang/RuntimeException", "java/lang/Exception"]).filter goodWord, w ∈ wsX4_requireBank := by decide +kernel
theorem x_X4_requireBank_9_2 : ∀ w ∈ (vx_atS RX4 144 "java/lang/IndexOutOfBoundsException" ["java/lang/RuntimeException", "java/lang/Exception"]).filter (fun w => !goodWord w), w = .castable "java/lang/IndexOutOfBoundsException" "java/lang/IndexOutOfBoundsException" ∨ w ∈ zDs.map Cond.declares := by decide +kernel
theorem x_X4_requireBank_9_3 : ∀ w ∈ Cond.classLink RX4 140 "java/lang/IndexOutOfBoundsException" :: Cond.initialized "java/lang/IndexOutOfBoundsException" :: vx_atS RX4 144 "java/lang/IndexOutOfBoundsException" ["java/lang/RuntimeException", "java/lang/Exception"], vx_ot w = true := by decide +kernel
theorem m_X4_requireBank_c140 : Cond.classLink RX4 140 "java/lang/IndexOutOfBoundsException" ∈ wsX4_requireBank := by decide +kernel
theorem m_X4_requireBank_n140 : Cond.initialized "java/lang/IndexOutOfBoundsException" ∈ wsX4_requireBank := by decide +kernel
theorem x_X4_requireTwo_5_1 : ∀ w ∈ (vx_atS RX4 201 "java/lang/IllegalArgumentException" ["java/lang/RuntimeException", "java/lang/Exception"]).filter goodWord, w ∈ wsX4_requireTwo := by decide +kernel
theorem x_X4_requireTwo_5_2 : ∀ w ∈ (vx_atS RX4 201 "java/lang/IllegalArgumentException" ["java/lang/RuntimeException", "java/lang/Exception"]).filter (fun w => !goodWord w), w = .castable "java/lang/IllegalArgumentException" "java/lang/IllegalArgumentException" ∨ w ∈ zDs.map Cond.declares := by decide +kernel
theorem x_X4_requireTwo_5_3 : ∀ w ∈ Cond.classLink RX4 197 "java/lang/IllegalArgumentException" :: Cond.initialized "java/lang/IllegalArgumentException" :: vx_atS RX4 201 "java/lang/IllegalArgumentException" ["java/lang/RuntimeException", "java/lang/Exception"], vx_ot w = true := by decide +kernel
theorem m_X4_requireTwo_c197 : Cond.classLink RX4 197 "java/lang/IllegalArgumentException" ∈ wsX4_requireTwo := by decide +kernel
theorem m_X4_requireTwo_n197 : Cond.initialized "java/lang/IllegalArgumentException" ∈ wsX4_requireTwo := by decide +kernel
theorem x_X4_requireRange_10_1 : ∀ w ∈ (vx_atS RX4 201 "java/lang/IllegalArgumentException" ["java/lang/RuntimeException", "java/lang/Exception"]).filter goodWord, w ∈ wsX4_requireRange := by decide +kernel
theorem x_X4_requireRange_10_2 : ∀ w ∈ (vx_atS RX4 201 "java/lang/IllegalArgumentException" ["java/lang/RuntimeException", "java/lang/Exception"]).filter (fun w => !goodWord w), w = .castable "java/lang/IllegalArgumentException" "java/lang/IllegalArgumentException" ∨ w ∈ zDs.map Cond.declares := by decide +kernel
theorem x_X4_requireRange_10_3 : ∀ w ∈ Cond.classLink RX4 197 "java/lang/IllegalArgumentException" :: Cond.initialized "java/lang/IllegalArgumentException" :: vx_atS RX4 201 "java/lang/IllegalArgumentException" ["java/lang/RuntimeException", "java/lang/Exception"], vx_ot w = true := by decide +kernel
theorem m_X4_requireRange_c197 : Cond.classLink RX4 197 "java/lang/IllegalArgumentException" ∈ wsX4_requireRange := by decide +kernel
theorem m_X4_requireRange_n197 : Cond.initialized "java/lang/IllegalArgumentException" ∈ wsX4_requireRange := by decide +kernel
theorem m_X4_requireOpen_f40 : Cond.fieldLink RX4 40 "Queuefloat" "closed" "[Z" ∈ wsX4_requireOpen := by decide +kernel
theorem i_X4_requireOpen_X4 : ∀ w ∈ wsX40, w ∈ wsX4_requireOpen := by decide +kernel
theorem x_X4_requireOpen_9_1 : ∀ w ∈ (vx_atS RX4 81 "java/lang/IllegalStateException" ["java/lang/RuntimeException", "java/lang/Exception"]).filter goodWord, w ∈ wsX4_requireOpen := by decide +kernel
theorem x_X4_requireOpen_9_2 : ∀ w ∈ (vx_atS RX4 81 "java/lang/IllegalStateException" ["java/lang/RuntimeException", "java/lang/Exception"]).filter (fun w => !goodWord w), w = .castable "java/lang/IllegalStateException" "java/lang/IllegalStateException" ∨ w ∈ zDs.map Cond.declares := by decide +kernel
theorem x_X4_requireOpen_9_3 : ∀ w ∈ Cond.classLink RX4 77 "java/lang/IllegalStateException" :: Cond.initialized "java/lang/IllegalStateException" :: vx_atS RX4 81 "java/lang/IllegalStateException" ["java/lang/RuntimeException", "java/lang/Exception"], vx_ot w = true := by decide +kernel
theorem m_X4_requireOpen_c77 : Cond.classLink RX4 77 "java/lang/IllegalStateException" ∈ wsX4_requireOpen := by decide +kernel
theorem m_X4_requireOpen_n77 : Cond.initialized "java/lang/IllegalStateException" ∈ wsX4_requireOpen := by decide +kernel
theorem m_X4_requirePayment_f29 : Cond.fieldLink RX4 29 "Queuefloat" "payments" "LQueuefloat$Payments;" ∈ wsX4_requirePayment := by decide +kernel
theorem i_X4_requirePayment_X4 : ∀ w ∈ wsX40, w ∈ wsX4_requirePayment := by decide +kernel
theorem m_X4_requirePayment_f113 : Cond.fieldLink RX4 113 "Queuefloat$Payments" "made" "I" ∈ wsX4_requirePayment := by decide +kernel
theorem i_X4_requirePayment_X2 : ∀ w ∈ wsX20, w ∈ wsX4_requirePayment := by decide +kernel
theorem x_X4_requirePayment_15_1 : ∀ w ∈ (vx_atS RX4 144 "java/lang/IndexOutOfBoundsException" ["java/lang/RuntimeException", "java/lang/Exception"]).filter goodWord, w ∈ wsX4_requirePayment := by decide +kernel
theorem x_X4_requirePayment_15_2 : ∀ w ∈ (vx_atS RX4 144 "java/lang/IndexOutOfBoundsException" ["java/lang/RuntimeException", "java/lang/Exception"]).filter (fun w => !goodWord w), w = .castable "java/lang/IndexOutOfBoundsException" "java/lang/IndexOutOfBoundsException" ∨ w ∈ zDs.map Cond.declares := by decide +kernel
theorem x_X4_requirePayment_15_3 : ∀ w ∈ Cond.classLink RX4 140 "java/lang/IndexOutOfBoundsException" :: Cond.initialized "java/lang/IndexOutOfBoundsException" :: vx_atS RX4 144 "java/lang/IndexOutOfBoundsException" ["java/lang/RuntimeException", "java/lang/Exception"], vx_ot w = true := by decide +kernel
theorem m_X4_requirePayment_c140 : Cond.classLink RX4 140 "java/lang/IndexOutOfBoundsException" ∈ wsX4_requirePayment := by decide +kernel
theorem m_X4_requirePayment_n140 : Cond.initialized "java/lang/IndexOutOfBoundsException" ∈ wsX4_requirePayment := by decide +kernel
theorem m_X4_requireLoanable_f36 : Cond.fieldLink RX4 36 "Queuefloat" "market" "LQueuefloat$Loans;" ∈ wsX4_requireLoanable := by decide +kernel
theorem i_X4_requireLoanable_X4 : ∀ w ∈ wsX40, w ∈ wsX4_requireLoanable := by decide +kernel
theorem m_X4_requireLoanable_f169 : Cond.fieldLink RX4 169 "Queuefloat$Loans" "made" "I" ∈ wsX4_requireLoanable := by decide +kernel
theorem i_X4_requireLoanable_X1 : ∀ w ∈ wsX10, w ∈ wsX4_requireLoanable := by decide +kernel
theorem m_X4_requireLoanable_f44 : Cond.fieldLink RX4 44 "Queuefloat" "papersOf" "[I" ∈ wsX4_requireLoanable := by decide +kernel
theorem x_X4_requireLoanable_43_1 : ∀ w ∈ (vx_atS RX4 81 "java/lang/IllegalStateException" ["java/lang/RuntimeException", "java/lang/Exception"]).filter goodWord, w ∈ wsX4_requireLoanable := by decide +kernel
theorem x_X4_requireLoanable_43_2 : ∀ w ∈ (vx_atS RX4 81 "java/lang/IllegalStateException" ["java/lang/RuntimeException", "java/lang/Exception"]).filter (fun w => !goodWord w), w = .castable "java/lang/IllegalStateException" "java/lang/IllegalStateException" ∨ w ∈ zDs.map Cond.declares := by decide +kernel
theorem x_X4_requireLoanable_43_3 : ∀ w ∈ Cond.classLink RX4 77 "java/lang/IllegalStateException" :: Cond.initialized "java/lang/IllegalStateException" :: vx_atS RX4 81 "java/lang/IllegalStateException" ["java/lang/RuntimeException", "java/lang/Exception"], vx_ot w = true := by decide +kernel
theorem m_X4_requireLoanable_f10 : Cond.fieldLink RX4 10 "Queuefloat" "sums" "LQueuefloat$Sums;" ∈ wsX4_requireLoanable := by decide +kernel
theorem m_X4_requireLoanable_f73 : Cond.fieldLink RX4 73 "Queuefloat$Sums" "accountOf" "[I" ∈ wsX4_requireLoanable := by decide +kernel
theorem i_X4_requireLoanable_X3 : ∀ w ∈ wsX30, w ∈ wsX4_requireLoanable := by decide +kernel
theorem m_X4_requireLoanable_f22 : Cond.fieldLink RX4 22 "Queuefloat" "limits" "LQueuefloat$Limits;" ∈ wsX4_requireLoanable := by decide +kernel
theorem m_X4_requireLoanable_f91 : Cond.fieldLink RX4 91 "Queuefloat$Limits" "floorOf" "[I" ∈ wsX4_requireLoanable := by decide +kernel
theorem i_X4_requireLoanable_X0 : ∀ w ∈ wsX00, w ∈ wsX4_requireLoanable := by decide +kernel
theorem x_X4_requireLoanable_76_1 : ∀ w ∈ (vx_atS RX4 81 "java/lang/IllegalStateException" ["java/lang/RuntimeException", "java/lang/Exception"]).filter goodWord, w ∈ wsX4_requireLoanable := by decide +kernel
theorem x_X4_requireLoanable_76_2 : ∀ w ∈ (vx_atS RX4 81 "java/lang/IllegalStateException" ["java/lang/RuntimeException", "java/lang/Exception"]).filter (fun w => !goodWord w), w = .castable "java/lang/IllegalStateException" "java/lang/IllegalStateException" ∨ w ∈ zDs.map Cond.declares := by decide +kernel
theorem x_X4_requireLoanable_76_3 : ∀ w ∈ Cond.classLink RX4 77 "java/lang/IllegalStateException" :: Cond.initialized "java/lang/IllegalStateException" :: vx_atS RX4 81 "java/lang/IllegalStateException" ["java/lang/RuntimeException", "java/lang/Exception"], vx_ot w = true := by decide +kernel
theorem x_X4_requireLoanable_12_1 : ∀ w ∈ (vx_atS RX4 81 "java/lang/IllegalStateException" ["java/lang/RuntimeException", "java/lang/Exception"]).filter goodWord, w ∈ wsX4_requireLoanable := by decide +kernel
theorem x_X4_requireLoanable_12_2 : ∀ w ∈ (vx_atS RX4 81 "java/lang/IllegalStateException" ["java/lang/RuntimeException", "java/lang/Exception"]).filter (fun w => !goodWord w), w = .castable "java/lang/IllegalStateException" "java/lang/IllegalStateException" ∨ w ∈ zDs.map Cond.declares := by decide +kernel
theorem x_X4_requireLoanable_12_3 : ∀ w ∈ Cond.classLink RX4 77 "java/lang/IllegalStateException" :: Cond.initialized "java/lang/IllegalStateException" :: vx_atS RX4 81 "java/lang/IllegalStateException" ["java/lang/RuntimeException", "java/lang/Exception"], vx_ot w = true := by decide +kernel
theorem m_X4_requireLoanable_c77 : Cond.classLink RX4 77 "java/lang/IllegalStateException" ∈ wsX4_requireLoanable := by decide +kernel
theorem m_X4_requireLoanable_n77 : Cond.initialized "java/lang/IllegalStateException" ∈ wsX4_requireLoanable := by decide +kernel
set_option maxHeartbeats 4000000 in
set_option maxRecDepth 100000 in
theorem c_X4_pledgeWorth (l : Launch) (sa : Nat → Nat) (D : va_G) (cI cZ cL : ClassId) (ad : Nat → Nat) (acc net tacc tnet flo bnd frm too amt pri wai byp ldr bor due plg clo pap cnd : Nat → Int32) (small price cut proc : Int32) (mk lm le : Nat) (x : Int32)  : zMi (T := Unit) sa D vwCl (zty cI cZ cL) l yX4_pledgeWorth wsX4_pledgeWorth ({ frames := 0, cells := 0, slots := 0, locals := 0 } : Room) [.ref (ad 0), .int x] (wX ad cI cZ acc net tacc tnet flo bnd frm too amt pri wai byp ldr bor due plg clo pap cnd small price cut proc (nI mk) (nI lm) (nI le)) (fun r9 _ => r9 = (x * price * (1000 - cut) / 1000)) (fun _ => (wX ad cI cZ acc net tacc tnet flo bnd frm too amt pri wai byp ldr bor due plg clo pap cnd small price cut proc (nI mk) (nI lm) (nI le))) 0 0 := by
  refine zMi.of (ret := (some .int)) (cc := cX4_pledgeWorth) (nL := 2) (own := RX4) (by decide +kernel) rfl [(0, .ref (ad 0)), (1, .int x)] rfl (Nat.le_of_ble_eq_true rfl) rfl ?_
  intro A p e s m args below meth c C hmn
  refine z_iload_n C dX4_pledgeWorth_0 rfl 1 rfl ?_
  refine z_aload_n C dX4_pledgeWorth_1 rfl 0 rfl ?_
  refine z_get C 0 rfl i_X4_pledgeWorth_X4 rfl 9 (by decide) m_X4_pledgeWorth_f55 rfl rfl dX4_pledgeWorth_2 ?_
  refine z_imul C (v := (x * price)) dX4_pledgeWorth_5 rfl ?_
  refine z_sipush C (v := 1000) dX4_pledgeWorth_6 (by decide) ?_
  refine z_aload_n C dX4_pledgeWorth_9 rfl 0 rfl ?_
  refine z_get C 0 rfl i_X4_pledgeWorth_X4 rfl 10 (by decide) m_X4_pledgeWorth_f58 rfl rfl dX4_pledgeWorth_10 ?_
  refine z_isub C (v := (1000 - cut)) dX4_pledgeWorth_13 rfl ?_
  refine z_imul C (v := ((x * price) * (1000 - cut))) dX4_pledgeWorth_14 rfl ?_
  refine z_sipush C (v := 1000) dX4_pledgeWorth_15 (by decide) ?_
  refine z_idiv C (v := (((x * price) * (1000 - cut)) / 1000)) dX4_pledgeWorth_18 (by decide) rfl ?_
  exact z_iret C () rfl rfl (by decide) (by decide) dX4_pledgeWorth_19
set_option maxHeartbeats 4000000 in
set_option maxRecDepth 100000 in
theorem c_X4_canRepay (l : Launch) (sa : Nat → Nat) (D : va_G) (cI cZ cL : ClassId) (ad : Nat → Nat) (acc net tacc tnet flo bnd frm too amt pri wai byp ldr bor due plg clo pap cnd : Nat → Int32) (small price cut proc : Int32) (mk lm le : Nat) (l9 : Nat) (hl9 : l9 < lm) (hlm : lm ≤ 40) (hldr : wf5 lm ldr) (hbor : wf5 lm bor) : zMi (T := Unit) sa D vwCl (zty cI cZ cL) l yX4_canRepay wsX4_canRepay ({ frames := 0, cells := 0, slots := 0, locals := 0 } : Room) [.ref (ad 0), .int (nI l9)] (wX ad cI cZ acc net tacc tnet flo bnd frm too amt pri wai byp ldr bor due plg clo pap cnd small price cut proc (nI mk) (nI lm) (nI le)) (fun r9 _ => r9 = if clo (ix (bor l9)) = 0 ∧ flo (ix (bor l9)) ≤ acc (ix (bor l9)) - due l9 then 1 else 0) (fun _ => (wX ad cI cZ acc net tacc tnet flo bnd frm too amt pri wai byp ldr bor due plg clo pap cnd small price cut proc (nI mk) (nI lm) (nI le))) 0 0 := by
  refine zMi.of (ret := (some .boolean)) (cc := cX4_canRepay) (nL := 3) (own := RX4) (by decide +kernel) rfl [(0, .ref (ad 0)), (1, .int (nI l9))] rfl (Nat.le_of_ble_eq_true rfl) rfl ?_
  intro A p e s m args below meth c C hmn
  refine z_aload_n C dX4_canRepay_0 rfl 0 rfl ?_
  refine z_get C 0 rfl i_X4_canRepay_X4 rfl 4 (by decide) m_X4_canRepay_f36 rfl rfl dX4_canRepay_1 ?_
  refine z_get C 5 rfl i_X4_canRepay_X1 rfl 1 (by decide) m_X4_canRepay_f183 rfl rfl dX4_canRepay_4 ?_
  refine z_iload_n C dX4_canRepay_7 rfl 1 rfl ?_
  have := (hbor l9 (by omega)).2
  refine z_iald C 19 0 rfl rfl l9 (nI_clamp (by omega)) (vp_in_nI (by omega) (by omega)) (nI (ix (bor l9))) (hbor l9 (by omega)).1 dX4_canRepay_8 ?_
  refine z_istore_n C dX4_canRepay_9 rfl (by decide) [(0, .ref (ad 0)), (1, .int (nI l9)), (2, .int (nI (ix (bor l9))))] [1, 2, 0] rfl ?_
  refine z_aload_n C dX4_canRepay_10 rfl 0 rfl ?_
  refine z_get C 0 rfl i_X4_canRepay_X4 rfl 5 (by decide) m_X4_canRepay_f40 rfl rfl dX4_canRepay_11 ?_
  refine z_iload_n C dX4_canRepay_14 rfl 2 rfl ?_
  refine z_zald C 22 1 rfl rfl (ix (bor l9)) (nI_clamp (by omega)) (vp_in_nI (by omega) (by omega)) (clo (ix (bor l9))) rfl dX4_canRepay_15 ?_
  refine z_if_ne C (tgt := 54) dX4_canRepay_16 (by decide) (fun c16_1 => ?_) (fun c16_1 => ?_)
  · skip
    refine z_iconst C (v := 0) dX4_canRepay_54 (by decide) ?_
    exact z_zret C () (by first | (rw [if_neg (fun q => absurd q.1 (by assumption))]) | (rw [if_neg (fun q => absurd (by assumption) (Int32.not_lt.mpr q.2))])) rfl (by decide) (by decide) (by decide) dX4_canRepay_55
  · skip
    refine z_aload_n C dX4_canRepay_19 rfl 0 rfl ?_
    refine z_get C 0 rfl i_X4_canRepay_X4 rfl 0 (by decide) m_X4_canRepay_f10 rfl rfl dX4_canRepay_20 ?_
    refine z_get C 1 rfl i_X4_canRepay_X3 rfl 0 (by decide) m_X4_canRepay_f73 rfl rfl dX4_canRepay_23 ?_
    refine z_iload_n C dX4_canRepay_26 rfl 2 rfl ?_
    refine z_iald C 6 0 rfl rfl (ix (bor l9)) (nI_clamp (by omega)) (vp_in_nI (by omega) (by omega)) (acc (ix (bor l9))) rfl dX4_canRepay_27 ?_
    refine z_aload_n C dX4_canRepay_28 rfl 0 rfl ?_
    refine z_get C 0 rfl i_X4_canRepay_X4 rfl 4 (by decide) m_X4_canRepay_f36 rfl rfl dX4_canRepay_29 ?_
    refine z_get C 5 rfl i_X4_canRepay_X1 rfl 2 (by decide) m_X4_canRepay_f261 rfl rfl dX4_canRepay_32 ?_
    refine z_iload_n C dX4_canRepay_35 rfl 1 rfl ?_
    refine z_iald C 20 0 rfl rfl l9 (nI_clamp (by omega)) (vp_in_nI (by omega) (by omega)) (due l9) rfl dX4_canRepay_36 ?_
    refine z_isub C (v := ((acc (ix (bor l9))) - (due l9))) dX4_canRepay_37 rfl ?_
    refine z_aload_n C dX4_canRepay_38 rfl 0 rfl ?_
    refine z_get C 0 rfl i_X4_canRepay_X4 rfl 2 (by decide) m_X4_canRepay_f22 rfl rfl dX4_canRepay_39 ?_
    refine z_get C 3 rfl i_X4_canRepay_X0 rfl 0 (by decide) m_X4_canRepay_f91 rfl rfl dX4_canRepay_42 ?_
    refine z_iload_n C dX4_canRepay_45 rfl 2 rfl ?_
    refine z_iald C 10 0 rfl rfl (ix (bor l9)) (nI_clamp (by omega)) (vp_in_nI (by omega) (by omega)) (flo (ix (bor l9))) rfl dX4_canRepay_46 ?_
    refine z_icmp_lt C (tgt := 54) dX4_canRepay_47 (by decide) (fun c47_2 => ?_) (fun c47_2 => ?_)
    · skip
      refine z_iconst C (v := 0) dX4_canRepay_54 (by decide) ?_
      exact z_zret C () (by first | (rw [if_neg (fun q => absurd q.1 (by assumption))]) | (rw [if_neg (fun q => absurd (by assumption) (Int32.not_lt.mpr q.2))])) rfl (by decide) (by decide) (by decide) dX4_canRepay_55
    · skip
      refine z_iconst C (v := 1) dX4_canRepay_50 (by decide) ?_
      refine z_goto C (tgt := 55) dX4_canRepay_51 (by decide) ?_
      exact z_zret C () (by simp only [c16_1, c47_2, true_and, false_and, Int32.not_lt.mp c47_2, if_true]) rfl (by decide) (by decide) (by decide) dX4_canRepay_55
set_option maxHeartbeats 4000000 in
set_option maxRecDepth 100000 in
theorem c_X4_repay (l : Launch) (sa : Nat → Nat) (D : va_G) (cI cZ cL : ClassId) (ad : Nat → Nat) (acc net tacc tnet flo bnd frm too amt pri wai byp ldr bor due plg clo pap cnd : Nat → Int32) (small price cut proc : Int32) (mk lm le : Nat) (l9 : Nat) (hl9 : l9 < lm) (hlm : lm ≤ 40) (hldr : wf5 lm ldr) (hbor : wf5 lm bor) : zMv (T := Unit) sa D vwCl (zty cI cZ cL) l yX4_repay wsX4_repay ({ frames := 1, cells := 0, slots := 0, locals := 23 } : Room) [.ref (ad 0), .int (nI l9)] (wX ad cI cZ acc net tacc tnet flo bnd frm too amt pri wai byp ldr bor due plg clo pap cnd small price cut proc (nI mk) (nI lm) (nI le)) (fun _ => True) (fun _ => (wX ad cI cZ (mvA (ix (bor l9)) (ix (ldr l9)) (due l9) acc) net tacc tnet flo bnd frm too amt pri wai byp ldr bor due plg clo (upd pap (ix (bor l9)) (pap (ix (bor l9)) + plg l9)) cnd small price cut proc (nI mk) (nI lm) (nI le))) 0 0 := by
  refine zMv.of (ret := none) (cc := cX4_repay) (nL := 3) (own := RX4) (by decide +kernel) rfl [(0, .ref (ad 0)), (1, .int (nI l9))] rfl (Nat.le_of_ble_eq_true rfl) rfl ?_
  intro A p e s m args below meth c C hmn
  refine z_aload_n C dX4_repay_0 rfl 0 rfl ?_
  refine z_get C 0 rfl i_X4_repay_X4 rfl 4 (by decide) m_X4_repay_f36 rfl rfl dX4_repay_1 ?_
  refine z_get C 5 rfl i_X4_repay_X1 rfl 1 (by decide) m_X4_repay_f183 rfl rfl dX4_repay_4 ?_
  refine z_iload_n C dX4_repay_7 rfl 1 rfl ?_
  have := (hbor l9 (by omega)).2
  refine z_iald C 19 0 rfl rfl l9 (nI_clamp (by omega)) (vp_in_nI (by omega) (by omega)) (nI (ix (bor l9))) (hbor l9 (by omega)).1 dX4_repay_8 ?_
  refine z_istore_n C dX4_repay_9 rfl (by decide) [(0, .ref (ad 0)), (1, .int (nI l9)), (2, .int (nI (ix (bor l9))))] [1, 2, 0] rfl ?_
  refine z_aload_n C dX4_repay_10 rfl 0 rfl ?_
  refine z_get C 0 rfl i_X4_repay_X4 rfl 0 (by decide) m_X4_repay_f10 rfl rfl dX4_repay_11 ?_
  refine z_iload_n C dX4_repay_14 rfl 2 rfl ?_
  refine z_aload_n C dX4_repay_15 rfl 0 rfl ?_
  refine z_get C 0 rfl i_X4_repay_X4 rfl 4 (by decide) m_X4_repay_f36 rfl rfl dX4_repay_16 ?_
  refine z_get C 5 rfl i_X4_repay_X1 rfl 0 (by decide) m_X4_repay_f264 rfl rfl dX4_repay_19 ?_
  refine z_iload_n C dX4_repay_22 rfl 1 rfl ?_
  have := (hldr l9 (by omega)).2
  refine z_iald C 18 0 rfl rfl l9 (nI_clamp (by omega)) (vp_in_nI (by omega) (by omega)) (nI (ix (ldr l9))) (hldr l9 (by omega)).1 dX4_repay_23 ?_
  refine z_aload_n C dX4_repay_24 rfl 0 rfl ?_
  refine z_get C 0 rfl i_X4_repay_X4 rfl 4 (by decide) m_X4_repay_f36 rfl rfl dX4_repay_25 ?_
  refine z_get C 5 rfl i_X4_repay_X1 rfl 2 (by decide) m_X4_repay_f261 rfl rfl dX4_repay_28 ?_
  refine z_iload_n C dX4_repay_31 rfl 1 rfl ?_
  refine z_iald C 20 0 rfl rfl l9 (nI_clamp (by omega)) (vp_in_nI (by omega) (by omega)) (due l9) rfl dX4_repay_32 ?_
  refine z_callVv C (T := Unit) (As := [.int (nI (ix (bor l9))), .int (nI (ix (ldr l9))), .int (due l9)]) (rest := []) (ws' := fun _ => (wX ad cI cZ (mvA (ix (bor l9)) (ix (ldr l9)) (due l9) acc) net tacc tnet flo bnd frm too amt pri wai byp ldr bor due plg clo pap cnd small price cut proc (nI mk) (nI lm) (nI le))) (c_X3_move l sa D cI cZ cL (ad 1) (ad 6) (ad 7) acc net (ix (bor l9)) (ix (ldr l9)) (due l9) (by first | assumption | omega) (by first | assumption | omega)) (cwV 3 C.2.2.2.2.1 gX4_repay_X3_move rfl rfl rfl (by decide +kernel) ⟨Nat.le_of_ble_eq_true rfl, Nat.le_of_ble_eq_true rfl⟩) 1 rfl rfl rfl (fun _ => (zSub.of (wr := [((ad 0), .inr (4, [.ref (ad 1), .ref (ad 2), .ref (ad 3), .ref (ad 4), .ref (ad 5), .ref (ad 22), .ref (ad 23), .ref (ad 24), .int small, .int price, .int cut, .int proc])), ((ad 2), .inr (3, [.ref (ad 8), .ref (ad 9)])), ((ad 3), .inr (0, [.ref (ad 10), .ref (ad 11)])), ((ad 4), .inr (2, [.ref (ad 12), .ref (ad 13), .ref (ad 14), .ref (ad 15), .ref (ad 16), .ref (ad 17), .int (nI mk)])), ((ad 5), .inr (1, [.ref (ad 18), .ref (ad 19), .ref (ad 20), .ref (ad 21), .int (nI lm), .int (nI le)])), ((ad 8), .inl (cI, 5, .inl tacc)), ((ad 9), .inl (cI, 25, .inl tnet)), ((ad 10), .inl (cI, 5, .inl flo)), ((ad 11), .inl (cI, 25, .inl bnd)), ((ad 12), .inl (cI, 60, .inl frm)), ((ad 13), .inl (cI, 60, .inl too)), ((ad 14), .inl (cI, 60, .inl amt)), ((ad 15), .inl (cI, 60, .inl pri)), ((ad 16), .inl (cZ, 60, .inl wai)), ((ad 17), .inl (cI, 60, .inl byp)), ((ad 18), .inl (cI, 40, .inl ldr)), ((ad 19), .inl (cI, 40, .inl bor)), ((ad 20), .inl (cI, 40, .inl due)), ((ad 21), .inl (cI, 40, .inl plg)), ((ad 22), .inl (cZ, 5, .inl clo)), ((ad 23), .inl (cI, 5, .inl pap)), ((ad 24), .inl (cI, 10, .inl cnd))]) [1, 6, 7] [0, 2, 3, 4, 5, 8, 9, 10, 11, 12, 13, 14, 15, 16, 17, 18, 19, 20, 21, 22, 23, 24] [0, 22, 1, 2, 3, 4, 23, 24, 5, 6, 7, 8, 9, 10, 11, 12, 13, 14, 15, 16, 17, 18, 19, 20, 21] rfl rfl rfl rfl (by decide) rfl rfl)) (zIn.of [1, 6, 7] rfl rfl) rfl (Nat.le_of_ble_eq_true rfl) ⟨Nat.le_of_ble_eq_true rfl, Nat.le_of_ble_eq_true rfl⟩ dX4_repay_33 (fun _ _ => ?_)
  refine z_aload_n C dX4_repay_36 rfl 0 rfl ?_
  refine z_get C 0 rfl i_X4_repay_X4 rfl 6 (by decide) m_X4_repay_f44 rfl rfl dX4_repay_37 ?_
  refine z_iload_n C dX4_repay_40 rfl 2 rfl ?_
  refine z_dup2 C dX4_repay_41 rfl rfl ?_
  refine z_iald C 23 0 rfl rfl (ix (bor l9)) (nI_clamp (by omega)) (vp_in_nI (by omega) (by omega)) (pap (ix (bor l9))) rfl dX4_repay_42 ?_
  refine z_aload_n C dX4_repay_43 rfl 0 rfl ?_
  refine z_get C 0 rfl i_X4_repay_X4 rfl 4 (by decide) m_X4_repay_f36 rfl rfl dX4_repay_44 ?_
  refine z_get C 5 rfl i_X4_repay_X1 rfl 3 (by decide) m_X4_repay_f267 rfl rfl dX4_repay_47 ?_
  refine z_iload_n C dX4_repay_50 rfl 1 rfl ?_
  refine z_iald C 21 0 rfl rfl l9 (nI_clamp (by omega)) (vp_in_nI (by omega) (by omega)) (plg l9) rfl dX4_repay_51 ?_
  refine z_iadd C (v := ((pap (ix (bor l9))) + (plg l9))) dX4_repay_52 rfl ?_
  refine z_iast C 23 0 rfl rfl (ix (bor l9)) (nI_clamp (by omega)) (vp_in_nI (by omega) (by omega)) ((pap (ix (bor l9))) + (plg l9)) rfl dX4_repay_53 (wX ad cI cZ (mvA (ix (bor l9)) (ix (ldr l9)) (due l9) acc) net tacc tnet flo bnd frm too amt pri wai byp ldr bor due plg clo (upd pap (ix (bor l9)) ((pap (ix (bor l9))) + (plg l9))) cnd small price cut proc (nI mk) (nI lm) (nI le)) rfl ?_
  exact z_vret C () (by exact trivial) rfl (by decide) (by decide) dX4_repay_54
set_option maxHeartbeats 4000000 in
set_option maxRecDepth 100000 in
theorem c_X4_close_y (l : Launch) (sa : Nat → Nat) (D : va_G) (cI cZ cL : ClassId) (ad : Nat → Nat) (acc net tacc tnet flo bnd frm too amt pri wai byp ldr bor due plg clo pap cnd : Nat → Int32) (small price cut proc : Int32) (mk lm le : Nat) (b : Nat) (hb : b < 5) (hcl : clo b = 0) (hmk : mk ≤ 60) (hfrm : wf5 mk frm) (htoo : wf5 mk too) : zMi (T := Unit) sa D vwCl (zty cI cZ cL) l yX4_close wsX4_close ({ frames := 1, cells := 0, slots := 0, locals := 22 } : Room) [.ref (ad 0), .int (nI b)] (wX ad cI cZ acc net tacc tnet flo bnd frm too amt pri wai byp ldr bor due plg clo pap cnd small price cut proc (nI mk) (nI lm) (nI le)) (fun r9 _ => r9 = 1) (fun _ => (wX ad cI cZ acc net tacc tnet flo bnd frm too amt pri (dropW frm too b mk wai) byp ldr bor due plg (upd clo b 1) pap cnd small price cut proc (nI mk) (nI lm) (nI le))) 0 0 := by
  refine zMi.of (ret := (some .int)) (cc := cX4_close) (nL := 2) (own := RX4) (by decide +kernel) rfl [(0, .ref (ad 0)), (1, .int (nI b))] rfl (Nat.le_of_ble_eq_true rfl) rfl ?_
  intro A p e s m args below meth c C hmn
  refine z_aload_n C dX4_close_0 rfl 0 rfl ?_
  refine z_get C 0 rfl i_X4_close_X4 rfl 5 (by decide) m_X4_close_f40 rfl rfl dX4_close_1 ?_
  refine z_iload_n C dX4_close_4 rfl 1 rfl ?_
  refine z_zald C 22 1 rfl rfl b (nI_clamp (by omega)) (vp_in_nI (by omega) (by omega)) (clo b) rfl dX4_close_5 ?_
  refine z_if_eq C (tgt := 11) dX4_close_6 (by decide) (fun c6_1 => ?_) (fun c6_1 => ?_)
  · skip
    refine z_aload_n C dX4_close_11 rfl 0 rfl ?_
    refine z_get C 0 rfl i_X4_close_X4 rfl 5 (by decide) m_X4_close_f40 rfl rfl dX4_close_12 ?_
    refine z_iload_n C dX4_close_15 rfl 1 rfl ?_
    refine z_iconst C (v := 1) dX4_close_16 (by decide) ?_
    refine z_zast C 22 1 rfl rfl b (nI_clamp (by omega)) (vp_in_nI (by omega) (by omega)) 1 (by decide) dX4_close_17 (wX ad cI cZ acc net tacc tnet flo bnd frm too amt pri wai byp ldr bor due plg (upd clo b 1) pap cnd small price cut proc (nI mk) (nI lm) (nI le)) rfl ?_
    refine z_aload_n C dX4_close_18 rfl 0 rfl ?_
    refine z_get C 0 rfl i_X4_close_X4 rfl 3 (by decide) m_X4_close_f29 rfl rfl dX4_close_19 ?_
    refine z_iload_n C dX4_close_22 rfl 1 rfl ?_
    refine z_callVv C (T := Unit) (As := [.int (nI b)]) (rest := []) (ws' := fun _ => (wX ad cI cZ acc net tacc tnet flo bnd frm too amt pri (dropW frm too b mk wai) byp ldr bor due plg (upd clo b 1) pap cnd small price cut proc (nI mk) (nI lm) (nI le))) (c_X2_dropAllOf l sa D cI cZ cL ad acc net tacc tnet flo bnd frm too amt pri wai byp ldr bor due plg (upd clo b 1) pap cnd small price cut proc mk lm le b (by first | assumption | omega) (by first | assumption | omega) (by first | assumption | omega) (by first | assumption | omega)) (cwV 1 C.2.2.2.2.1 gX4_close_X2_dropAllOf rfl rfl rfl (by decide +kernel) ⟨Nat.le_of_ble_eq_true rfl, Nat.le_of_ble_eq_true rfl⟩) 4 rfl rfl rfl (fun _ => zSub.full) zIn.full rfl (Nat.le_of_ble_eq_true rfl) ⟨Nat.le_of_ble_eq_true rfl, Nat.le_of_ble_eq_true rfl⟩ dX4_close_23 (fun _ _ => ?_)
    refine z_iconst C (v := 1) dX4_close_26 (by decide) ?_
    exact z_iret C () rfl (by first | rfl | contradiction) (by decide) (by decide) dX4_close_27
  · skip
    refine z_iconst C (v := 0) dX4_close_9 (by decide) ?_
    exact z_iret C () (by contradiction) (by first | rfl | contradiction) (by decide) (by decide) dX4_close_10
set_option maxHeartbeats 4000000 in
set_option maxRecDepth 100000 in
theorem c_X4_close_n (l : Launch) (sa : Nat → Nat) (D : va_G) (cI cZ cL : ClassId) (ad : Nat → Nat) (acc net tacc tnet flo bnd frm too amt pri wai byp ldr bor due plg clo pap cnd : Nat → Int32) (small price cut proc : Int32) (mk lm le : Nat) (b : Nat) (hb : b < 5) (hcl : ¬ clo b = 0) (hmk : mk ≤ 60) (hfrm : wf5 mk frm) (htoo : wf5 mk too) : zMi (T := Unit) sa D vwCl (zty cI cZ cL) l yX4_close wsX4_close ({ frames := 1, cells := 0, slots := 0, locals := 22 } : Room) [.ref (ad 0), .int (nI b)] (wX ad cI cZ acc net tacc tnet flo bnd frm too amt pri wai byp ldr bor due plg clo pap cnd small price cut proc (nI mk) (nI lm) (nI le)) (fun r9 _ => r9 = 0) (fun _ => (wX ad cI cZ acc net tacc tnet flo bnd frm too amt pri wai byp ldr bor due plg clo pap cnd small price cut proc (nI mk) (nI lm) (nI le))) 0 0 := by
  refine zMi.of (ret := (some .int)) (cc := cX4_close) (nL := 2) (own := RX4) (by decide +kernel) rfl [(0, .ref (ad 0)), (1, .int (nI b))] rfl (Nat.le_of_ble_eq_true rfl) rfl ?_
  intro A p e s m args below meth c C hmn
  refine z_aload_n C dX4_close_0 rfl 0 rfl ?_
  refine z_get C 0 rfl i_X4_close_X4 rfl 5 (by decide) m_X4_close_f40 rfl rfl dX4_close_1 ?_
  refine z_iload_n C dX4_close_4 rfl 1 rfl ?_
  refine z_zald C 22 1 rfl rfl b (nI_clamp (by omega)) (vp_in_nI (by omega) (by omega)) (clo b) rfl dX4_close_5 ?_
  refine z_if_eq C (tgt := 11) dX4_close_6 (by decide) (fun c6_1 => ?_) (fun c6_1 => ?_)
  · skip
    refine z_aload_n C dX4_close_11 rfl 0 rfl ?_
    refine z_get C 0 rfl i_X4_close_X4 rfl 5 (by decide) m_X4_close_f40 rfl rfl dX4_close_12 ?_
    refine z_iload_n C dX4_close_15 rfl 1 rfl ?_
    refine z_iconst C (v := 1) dX4_close_16 (by decide) ?_
    refine z_zast C 22 1 rfl rfl b (nI_clamp (by omega)) (vp_in_nI (by omega) (by omega)) 1 (by decide) dX4_close_17 (wX ad cI cZ acc net tacc tnet flo bnd frm too amt pri wai byp ldr bor due plg (upd clo b 1) pap cnd small price cut proc (nI mk) (nI lm) (nI le)) rfl ?_
    refine z_aload_n C dX4_close_18 rfl 0 rfl ?_
    refine z_get C 0 rfl i_X4_close_X4 rfl 3 (by decide) m_X4_close_f29 rfl rfl dX4_close_19 ?_
    refine z_iload_n C dX4_close_22 rfl 1 rfl ?_
    refine z_callVv C (T := Unit) (As := [.int (nI b)]) (rest := []) (ws' := fun _ => (wX ad cI cZ acc net tacc tnet flo bnd frm too amt pri (dropW frm too b mk wai) byp ldr bor due plg (upd clo b 1) pap cnd small price cut proc (nI mk) (nI lm) (nI le))) (c_X2_dropAllOf l sa D cI cZ cL ad acc net tacc tnet flo bnd frm too amt pri wai byp ldr bor due plg (upd clo b 1) pap cnd small price cut proc mk lm le b (by first | assumption | omega) (by first | assumption | omega) (by first | assumption | omega) (by first | assumption | omega)) (cwV 1 C.2.2.2.2.1 gX4_close_X2_dropAllOf rfl rfl rfl (by decide +kernel) ⟨Nat.le_of_ble_eq_true rfl, Nat.le_of_ble_eq_true rfl⟩) 4 rfl rfl rfl (fun _ => zSub.full) zIn.full rfl (Nat.le_of_ble_eq_true rfl) ⟨Nat.le_of_ble_eq_true rfl, Nat.le_of_ble_eq_true rfl⟩ dX4_close_23 (fun _ _ => ?_)
    refine z_iconst C (v := 1) dX4_close_26 (by decide) ?_
    exact z_iret C () (by contradiction) (by first | rfl | contradiction) (by decide) (by decide) dX4_close_27
  · skip
    refine z_iconst C (v := 0) dX4_close_9 (by decide) ?_
    exact z_iret C () rfl (by first | rfl | contradiction) (by decide) (by decide) dX4_close_10
set_option maxHeartbeats 4000000 in
set_option maxRecDepth 100000 in
theorem c_X4_sellPledge (l : Launch) (sa : Nat → Nat) (D : va_G) (cI cZ cL : ClassId) (ad : Nat → Nat) (acc net tacc tnet flo bnd frm too amt pri wai byp ldr bor due plg clo pap cnd : Nat → Int32) (small price cut proc : Int32) (mk lm le : Nat) (l9 : Nat) (hl9 : l9 < lm) (hlm : lm ≤ 40) (hldr : wf5 lm ldr) (hbor : wf5 lm bor) : zMv (T := Unit) sa D vwCl (zty cI cZ cL) l yX4_sellPledge wsX4_sellPledge ({ frames := 1, cells := 0, slots := 0, locals := 13 } : Room) [.ref (ad 0), .int (nI l9)] (wX ad cI cZ acc net tacc tnet flo bnd frm too amt pri wai byp ldr bor due plg clo pap cnd small price cut proc (nI mk) (nI lm) (nI le)) (fun _ => True) (fun _ => (wX ad cI cZ (selA (ix (bor l9)) (ix (ldr l9)) (due l9) (plg l9 * price) acc) net tacc tnet flo bnd frm too amt pri wai byp ldr bor due plg clo pap cnd small price cut (proc + plg l9 * price) (nI mk) (nI lm) (nI le))) 0 0 := by
  refine zMv.of (ret := none) (cc := cX4_sellPledge) (nL := 4) (own := RX4) (by decide +kernel) rfl [(0, .ref (ad 0)), (1, .int (nI l9))] rfl (Nat.le_of_ble_eq_true rfl) rfl ?_
  intro A p e s m args below meth c C hmn
  refine z_aload_n C dX4_sellPledge_0 rfl 0 rfl ?_
  refine z_get C 0 rfl i_X4_sellPledge_X4 rfl 4 (by decide) m_X4_sellPledge_f36 rfl rfl dX4_sellPledge_1 ?_
  refine z_get C 5 rfl i_X4_sellPledge_X1 rfl 3 (by decide) m_X4_sellPledge_f267 rfl rfl dX4_sellPledge_4 ?_
  refine z_iload_n C dX4_sellPledge_7 rfl 1 rfl ?_
  refine z_iald C 21 0 rfl rfl l9 (nI_clamp (by omega)) (vp_in_nI (by omega) (by omega)) (plg l9) rfl dX4_sellPledge_8 ?_
  refine z_aload_n C dX4_sellPledge_9 rfl 0 rfl ?_
  refine z_get C 0 rfl i_X4_sellPledge_X4 rfl 9 (by decide) m_X4_sellPledge_f55 rfl rfl dX4_sellPledge_10 ?_
  refine z_imul C (v := ((plg l9) * price)) dX4_sellPledge_13 rfl ?_
  refine z_istore_n C dX4_sellPledge_14 rfl (by decide) [(0, .ref (ad 0)), (1, .int (nI l9)), (2, .int ((plg l9) * price))] [1, 2, 0] rfl ?_
  refine z_iload_n C dX4_sellPledge_15 rfl 2 rfl ?_
  refine z_aload_n C dX4_sellPledge_16 rfl 0 rfl ?_
  refine z_get C 0 rfl i_X4_sellPledge_X4 rfl 4 (by decide) m_X4_sellPledge_f36 rfl rfl dX4_sellPledge_17 ?_
  refine z_get C 5 rfl i_X4_sellPledge_X1 rfl 2 (by decide) m_X4_sellPledge_f261 rfl rfl dX4_sellPledge_20 ?_
  refine z_iload_n C dX4_sellPledge_23 rfl 1 rfl ?_
  refine z_iald C 20 0 rfl rfl l9 (nI_clamp (by omega)) (vp_in_nI (by omega) (by omega)) (due l9) rfl dX4_sellPledge_24 ?_
  refine z_mmin C m_X4_sellPledge_l85 m_X4_sellPledge_lsmin m_X4_sellPledge_lmath m_X4_sellPledge_lcmin ⟨Nat.le_of_ble_eq_true rfl, Nat.le_of_ble_eq_true rfl, Nat.le_of_ble_eq_true rfl, Nat.le_of_ble_eq_true rfl⟩ (v := (if (due l9) < ((plg l9) * price) then (due l9) else ((plg l9) * price))) dX4_sellPledge_25 rfl ?_
  refine z_istore_n C dX4_sellPledge_28 rfl (by decide) [(0, .ref (ad 0)), (1, .int (nI l9)), (2, .int ((plg l9) * price)), (3, .int (if (due l9) < ((plg l9) * price) then (due l9) else ((plg l9) * price)))] [1, 2, 3, 0] rfl ?_
  refine z_aload_n C dX4_sellPledge_29 rfl 0 rfl ?_
  refine z_get C 0 rfl i_X4_sellPledge_X4 rfl 0 (by decide) m_X4_sellPledge_f10 rfl rfl dX4_sellPledge_30 ?_
  refine z_get C 1 rfl i_X4_sellPledge_X3 rfl 0 (by decide) m_X4_sellPledge_f73 rfl rfl dX4_sellPledge_33 ?_
  refine z_aload_n C dX4_sellPledge_36 rfl 0 rfl ?_
  refine z_get C 0 rfl i_X4_sellPledge_X4 rfl 4 (by decide) m_X4_sellPledge_f36 rfl rfl dX4_sellPledge_37 ?_
  refine z_get C 5 rfl i_X4_sellPledge_X1 rfl 0 (by decide) m_X4_sellPledge_f264 rfl rfl dX4_sellPledge_40 ?_
  refine z_iload_n C dX4_sellPledge_43 rfl 1 rfl ?_
  have := (hldr l9 (by omega)).2
  refine z_iald C 18 0 rfl rfl l9 (nI_clamp (by omega)) (vp_in_nI (by omega) (by omega)) (nI (ix (ldr l9))) (hldr l9 (by omega)).1 dX4_sellPledge_44 ?_
  refine z_dup2 C dX4_sellPledge_45 rfl rfl ?_
  refine z_iald C 6 0 rfl rfl (ix (ldr l9)) (nI_clamp (by omega)) (vp_in_nI (by omega) (by omega)) (acc (ix (ldr l9))) rfl dX4_sellPledge_46 ?_
  refine z_iload_n C dX4_sellPledge_47 rfl 3 rfl ?_
  refine z_iadd C (v := ((acc (ix (ldr l9))) + (if (due l9) < ((plg l9) * price) then (due l9) else ((plg l9) * price)))) dX4_sellPledge_48 rfl ?_
  refine z_iast C 6 0 rfl rfl (ix (ldr l9)) (nI_clamp (by omega)) (vp_in_nI (by omega) (by omega)) ((acc (ix (ldr l9))) + (if (due l9) < ((plg l9) * price) then (due l9) else ((plg l9) * price))) rfl dX4_sellPledge_49 (wX ad cI cZ (upd acc (ix (ldr l9)) ((acc (ix (ldr l9))) + (if (due l9) < ((plg l9) * price) then (due l9) else ((plg l9) * price)))) net tacc tnet flo bnd frm too amt pri wai byp ldr bor due plg clo pap cnd small price cut proc (nI mk) (nI lm) (nI le)) rfl ?_
  refine z_aload_n C dX4_sellPledge_50 rfl 0 rfl ?_
  refine z_get C 0 rfl i_X4_sellPledge_X4 rfl 0 (by decide) m_X4_sellPledge_f10 rfl rfl dX4_sellPledge_51 ?_
  refine z_get C 1 rfl i_X4_sellPledge_X3 rfl 0 (by decide) m_X4_sellPledge_f73 rfl rfl dX4_sellPledge_54 ?_
  refine z_aload_n C dX4_sellPledge_57 rfl 0 rfl ?_
  refine z_get C 0 rfl i_X4_sellPledge_X4 rfl 4 (by decide) m_X4_sellPledge_f36 rfl rfl dX4_sellPledge_58 ?_
  refine z_get C 5 rfl i_X4_sellPledge_X1 rfl 1 (by decide) m_X4_sellPledge_f183 rfl rfl dX4_sellPledge_61 ?_
  refine z_iload_n C dX4_sellPledge_64 rfl 1 rfl ?_
  have := (hbor l9 (by omega)).2
  refine z_iald C 19 0 rfl rfl l9 (nI_clamp (by omega)) (vp_in_nI (by omega) (by omega)) (nI (ix (bor l9))) (hbor l9 (by omega)).1 dX4_sellPledge_65 ?_
  refine z_dup2 C dX4_sellPledge_66 rfl rfl ?_
  refine z_iald C 6 0 rfl rfl (ix (bor l9)) (nI_clamp (by omega)) (vp_in_nI (by omega) (by omega)) ((upd acc (ix (ldr l9)) ((acc (ix (ldr l9))) + (if (due l9) < ((plg l9) * price) then (due l9) else ((plg l9) * price)))) (ix (bor l9))) rfl dX4_sellPledge_67 ?_
  refine z_iload_n C dX4_sellPledge_68 rfl 2 rfl ?_
  refine z_iload_n C dX4_sellPledge_69 rfl 3 rfl ?_
  refine z_isub C (v := (((plg l9) * price) - (if (due l9) < ((plg l9) * price) then (due l9) else ((plg l9) * price)))) dX4_sellPledge_70 rfl ?_
  refine z_iadd C (v := (((upd acc (ix (ldr l9)) ((acc (ix (ldr l9))) + (if (due l9) < ((plg l9) * price) then (due l9) else ((plg l9) * price)))) (ix (bor l9))) + (((plg l9) * price) - (if (due l9) < ((plg l9) * price) then (due l9) else ((plg l9) * price))))) dX4_sellPledge_71 rfl ?_
  refine z_iast C 6 0 rfl rfl (ix (bor l9)) (nI_clamp (by omega)) (vp_in_nI (by omega) (by omega)) (((upd acc (ix (ldr l9)) ((acc (ix (ldr l9))) + (if (due l9) < ((plg l9) * price) then (due l9) else ((plg l9) * price)))) (ix (bor l9))) + (((plg l9) * price) - (if (due l9) < ((plg l9) * price) then (due l9) else ((plg l9) * price)))) rfl dX4_sellPledge_72 (wX ad cI cZ (upd (upd acc (ix (ldr l9)) ((acc (ix (ldr l9))) + (if (due l9) < ((plg l9) * price) then (due l9) else ((plg l9) * price)))) (ix (bor l9)) (((upd acc (ix (ldr l9)) ((acc (ix (ldr l9))) + (if (due l9) < ((plg l9) * price) then (due l9) else ((plg l9) * price)))) (ix (bor l9))) + (((plg l9) * price) - (if (due l9) < ((plg l9) * price) then (due l9) else ((plg l9) * price))))) net tacc tnet flo bnd frm too amt pri wai byp ldr bor due plg clo pap cnd small price cut proc (nI mk) (nI lm) (nI le)) rfl ?_
  refine z_aload_n C dX4_sellPledge_73 rfl 0 rfl ?_
  refine z_dup C dX4_sellPledge_74 rfl ?_
  refine z_get C 0 rfl i_X4_sellPledge_X4 rfl 11 (by decide) m_X4_sellPledge_f192 rfl rfl dX4_sellPledge_75 ?_
  refine z_iload_n C dX4_sellPledge_78 rfl 2 rfl ?_
  refine z_iadd C (v := (proc + ((plg l9) * price))) dX4_sellPledge_79 rfl ?_
  refine z_put C 0 rfl i_X4_sellPledge_X4 rfl 11 (by decide) m_X4_sellPledge_f192 rfl tyX4 tyX4_ok nmX4 rfl (ty := .int) (by decide +kernel) rfl rfl (Nat.le_of_ble_eq_true rfl) dX4_sellPledge_80 (wX ad cI cZ (upd (upd acc (ix (ldr l9)) ((acc (ix (ldr l9))) + (if (due l9) < ((plg l9) * price) then (due l9) else ((plg l9) * price)))) (ix (bor l9)) (((upd acc (ix (ldr l9)) ((acc (ix (ldr l9))) + (if (due l9) < ((plg l9) * price) then (due l9) else ((plg l9) * price)))) (ix (bor l9))) + (((plg l9) * price) - (if (due l9) < ((plg l9) * price) then (due l9) else ((plg l9) * price))))) net tacc tnet flo bnd frm too amt pri wai byp ldr bor due plg clo pap cnd small price cut (proc + ((plg l9) * price)) (nI mk) (nI lm) (nI le)) rfl ?_
  exact z_vret C () (by exact trivial) rfl (by decide) (by decide) dX4_sellPledge_83
set_option maxHeartbeats 4000000 in
set_option maxRecDepth 100000 in
theorem c_X4_morning (l : Launch) (sa : Nat → Nat) (D : va_G) (cI cZ cL : ClassId) (ad : Nat → Nat) (acc net tacc tnet flo bnd frm too amt pri wai byp ldr bor due plg clo pap cnd : Nat → Int32) (small price cut proc : Int32) (mk lm le : Nat)  (hmk : mk ≤ 60) (hfrm : wf5 mk frm) (htoo : wf5 mk too) (hlm : lm ≤ 40) (hldr : wf5 lm ldr) (hbor : wf5 lm bor) (hle : le ≤ lm) : zMi (T := Unit) sa D vwCl (zty cI cZ cL) l yX4_morning wsX4_morning ({ frames := 2, cells := 0, slots := 0, locals := 45 } : Room) [.ref (ad 0)] (wX ad cI cZ acc net tacc tnet flo bnd frm too amt pri wai byp ldr bor due plg clo pap cnd small price cut proc (nI mk) (nI lm) (nI le)) (fun r9 _ => r9 = (nI ((mnF flo frm too ldr bor due plg price mk (acc, pap, clo, wai, proc, 0) le (lm - le)).2.2.2.2.2))) (fun _ => (wX ad cI cZ ((mnF flo frm too ldr bor due plg price mk (acc, pap, clo, wai, proc, 0) le (lm - le)).1) (clrN net 25) tacc tnet flo bnd frm too amt pri ((mnF flo frm too ldr bor due plg price mk (acc, pap, clo, wai, proc, 0) le (lm - le)).2.2.2.1) byp ldr bor due plg ((mnF flo frm too ldr bor due plg price mk (acc, pap, clo, wai, proc, 0) le (lm - le)).2.2.1) ((mnF flo frm too ldr bor due plg price mk (acc, pap, clo, wai, proc, 0) le (lm - le)).2.1) cnd small price cut ((mnF flo frm too ldr bor due plg price mk (acc, pap, clo, wai, proc, 0) le (lm - le)).2.2.2.2.1) (nI mk) (nI lm) (nI lm))) 0 0 := by
  refine zMi.of (ret := (some .int)) (cc := cX4_morning) (nL := 3) (own := RX4) (by decide +kernel) rfl [(0, .ref (ad 0))] rfl (Nat.le_of_ble_eq_true rfl) rfl ?_
  intro A p e s m args below meth c C hmn
  refine z_aload_n C dX4_morning_0 rfl 0 rfl ?_
  refine z_get C 0 rfl i_X4_morning_X4 rfl 0 (by decide) m_X4_morning_f10 rfl rfl dX4_morning_1 ?_
  refine z_callVv C (T := Unit) (As := []) (rest := []) (ws' := fun _ => (wX ad cI cZ acc (clrN net 25) tacc tnet flo bnd frm too amt pri wai byp ldr bor due plg clo pap cnd small price cut proc (nI mk) (nI lm) (nI le))) (c_X3_forgetPaid l sa D cI cZ cL (ad 1) (ad 6) (ad 7) acc net  ) (cwV 0 C.2.2.2.2.1 gX4_morning_X3_forgetPaid rfl rfl rfl (by decide +kernel) ⟨Nat.le_of_ble_eq_true rfl, Nat.le_of_ble_eq_true rfl⟩) 1 rfl rfl rfl (fun _ => (zSub.of (wr := [((ad 0), .inr (4, [.ref (ad 1), .ref (ad 2), .ref (ad 3), .ref (ad 4), .ref (ad 5), .ref (ad 22), .ref (ad 23), .ref (ad 24), .int small, .int price, .int cut, .int proc])), ((ad 2), .inr (3, [.ref (ad 8), .ref (ad 9)])), ((ad 3), .inr (0, [.ref (ad 10), .ref (ad 11)])), ((ad 4), .inr (2, [.ref (ad 12), .ref (ad 13), .ref (ad 14), .ref (ad 15), .ref (ad 16), .ref (ad 17), .int (nI mk)])), ((ad 5), .inr (1, [.ref (ad 18), .ref (ad 19), .ref (ad 20), .ref (ad 21), .int (nI lm), .int (nI le)])), ((ad 8), .inl (cI, 5, .inl tacc)), ((ad 9), .inl (cI, 25, .inl tnet)), ((ad 10), .inl (cI, 5, .inl flo)), ((ad 11), .inl (cI, 25, .inl bnd)), ((ad 12), .inl (cI, 60, .inl frm)), ((ad 13), .inl (cI, 60, .inl too)), ((ad 14), .inl (cI, 60, .inl amt)), ((ad 15), .inl (cI, 60, .inl pri)), ((ad 16), .inl (cZ, 60, .inl wai)), ((ad 17), .inl (cI, 60, .inl byp)), ((ad 18), .inl (cI, 40, .inl ldr)), ((ad 19), .inl (cI, 40, .inl bor)), ((ad 20), .inl (cI, 40, .inl due)), ((ad 21), .inl (cI, 40, .inl plg)), ((ad 22), .inl (cZ, 5, .inl clo)), ((ad 23), .inl (cI, 5, .inl pap)), ((ad 24), .inl (cI, 10, .inl cnd))]) [1, 6, 7] [0, 2, 3, 4, 5, 8, 9, 10, 11, 12, 13, 14, 15, 16, 17, 18, 19, 20, 21, 22, 23, 24] [0, 22, 1, 2, 3, 4, 23, 24, 5, 6, 7, 8, 9, 10, 11, 12, 13, 14, 15, 16, 17, 18, 19, 20, 21] rfl rfl rfl rfl (by decide) rfl rfl)) (zIn.of [1, 6, 7] rfl rfl) rfl (Nat.le_of_ble_eq_true rfl) ⟨Nat.le_of_ble_eq_true rfl, Nat.le_of_ble_eq_true rfl⟩ dX4_morning_4 (fun _ _ => ?_)
  refine z_iconst C (v := 0) dX4_morning_7 (by decide) ?_
  refine z_istore_n C dX4_morning_8 rfl (by decide) [(0, .ref (ad 0)), (1, .int 0)] [1, 0] rfl ?_
  refine z_aload_n C dX4_morning_9 rfl 0 rfl ?_
  refine z_get C 0 rfl i_X4_morning_X4 rfl 4 (by decide) m_X4_morning_f36 rfl rfl dX4_morning_10 ?_
  refine z_get C 5 rfl i_X4_morning_X1 rfl 5 (by decide) m_X4_morning_f170 rfl rfl dX4_morning_13 ?_
  refine z_istore_n C dX4_morning_16 rfl (by decide) [(0, .ref (ad 0)), (1, .int 0), (2, .int (nI le))] [1, 2, 0] rfl ?_
  have L17_k_1 : ∀ (n : Nat) (k : Nat), lm - (le + k) < n → (le + k ≤ lm) → zW 0 p l e ({ frames := 2, cells := 0, slots := 0, locals := 45 } : Room) s m args below meth c (MQ below (zQi (T := Unit) D vwCl (zty cI cZ cL) A (fun r9 _ => r9 = (nI ((mnF flo frm too ldr bor due plg price mk (acc, pap, clo, wai, proc, 0) le (lm - le)).2.2.2.2.2))) (fun _ => (wX ad cI cZ ((mnF flo frm too ldr bor due plg price mk (acc, pap, clo, wai, proc, 0) le (lm - le)).1) (clrN net 25) tacc tnet flo bnd frm too amt pri ((mnF flo frm too ldr bor due plg price mk (acc, pap, clo, wai, proc, 0) le (lm - le)).2.2.2.1) byp ldr bor due plg ((mnF flo frm too ldr bor due plg price mk (acc, pap, clo, wai, proc, 0) le (lm - le)).2.2.1) ((mnF flo frm too ldr bor due plg price mk (acc, pap, clo, wai, proc, 0) le (lm - le)).2.1) cnd small price cut ((mnF flo frm too ldr bor due plg price mk (acc, pap, clo, wai, proc, 0) le (lm - le)).2.2.2.2.1) (nI mk) (nI lm) (nI lm)))) args s 0 0 A) D vwCl A 3 0 0 (wX ad cI cZ ((mnF flo frm too ldr bor due plg price mk (acc, pap, clo, wai, proc, 0) le k).1) (clrN net 25) tacc tnet flo bnd frm too amt pri ((mnF flo frm too ldr bor due plg price mk (acc, pap, clo, wai, proc, 0) le k).2.2.2.1) byp ldr bor due plg ((mnF flo frm too ldr bor due plg price mk (acc, pap, clo, wai, proc, 0) le k).2.2.1) ((mnF flo frm too ldr bor due plg price mk (acc, pap, clo, wai, proc, 0) le k).2.1) cnd small price cut ((mnF flo frm too ldr bor due plg price mk (acc, pap, clo, wai, proc, 0) le k).2.2.2.2.1) (nI mk) (nI lm) (nI le)) [(0, .ref (ad 0)), (1, .int (nI ((mnF flo frm too ldr bor due plg price mk (acc, pap, clo, wai, proc, 0) le k).2.2.2.2.2))), (2, .int (nI (le + k)))] 17 [] := by
    intro n
    induction n with
    | zero => intros; omega
    | succ n ih_2 =>
      intro k hm_3 hi
      refine z_iload_n C dX4_morning_17 rfl 2 rfl ?_
      refine z_aload_n C dX4_morning_18 rfl 0 rfl ?_
      refine z_get C 0 rfl i_X4_morning_X4 rfl 4 (by decide) m_X4_morning_f36 rfl rfl dX4_morning_19 ?_
      refine z_get C 5 rfl i_X4_morning_X1 rfl 4 (by decide) m_X4_morning_f169 rfl rfl dX4_morning_22 ?_
      refine z_icmp_ge C (tgt := 71) dX4_morning_25 (by decide) (fun c25_4 => ?_) (fun c25_4 => ?_)
      · skip
        have n_5 : lm ≤ (le + k) := (nI_leI (a := lm) (b := le + k) (by omega) (by omega)).mp c25_4
        refine z_aload_n C dX4_morning_71 rfl 0 rfl ?_
        refine z_get C 0 rfl i_X4_morning_X4 rfl 4 (by decide) m_X4_morning_f36 rfl rfl dX4_morning_72 ?_
        refine z_aload_n C dX4_morning_75 rfl 0 rfl ?_
        refine z_get C 0 rfl i_X4_morning_X4 rfl 4 (by decide) m_X4_morning_f36 rfl rfl dX4_morning_76 ?_
        refine z_get C 5 rfl i_X4_morning_X1 rfl 4 (by decide) m_X4_morning_f169 rfl rfl dX4_morning_79 ?_
        refine z_put C 5 rfl i_X4_morning_X1 rfl 5 (by decide) m_X4_morning_f170 rfl tyX1 tyX1_ok nmX1 rfl (ty := .int) (by decide +kernel) rfl rfl (Nat.le_of_ble_eq_true rfl) dX4_morning_82 (wX ad cI cZ ((mnF flo frm too ldr bor due plg price mk (acc, pap, clo, wai, proc, 0) le k).1) (clrN net 25) tacc tnet flo bnd frm too amt pri ((mnF flo frm too ldr bor due plg price mk (acc, pap, clo, wai, proc, 0) le k).2.2.2.1) byp ldr bor due plg ((mnF flo frm too ldr bor due plg price mk (acc, pap, clo, wai, proc, 0) le k).2.2.1) ((mnF flo frm too ldr bor due plg price mk (acc, pap, clo, wai, proc, 0) le k).2.1) cnd small price cut ((mnF flo frm too ldr bor due plg price mk (acc, pap, clo, wai, proc, 0) le k).2.2.2.2.1) (nI mk) (nI lm) (nI lm)) rfl ?_
        refine z_iload_n C dX4_morning_85 rfl 1 rfl ?_
        exact z_iret C () (by obtain rfl : k = lm - le := (by omega); rfl) (by obtain rfl : k = lm - le := (by omega); rfl) (by decide) (by decide) dX4_morning_86
      · skip
        have n_6 : ¬ lm ≤ (le + k) := fun q => c25_4 ((nI_leI (a := lm) (b := le + k) (by omega) (by omega)).mpr q)
        refine z_aload_n C dX4_morning_28 rfl 0 rfl ?_
        refine z_iload_n C dX4_morning_29 rfl 2 rfl ?_
        refine z_case (((mnF flo frm too ldr bor due plg price mk (acc, pap, clo, wai, proc, 0) le k).2.2.1) (ix (bor (le + k))) = 0 ∧ flo (ix (bor (le + k))) ≤ ((mnF flo frm too ldr bor due plg price mk (acc, pap, clo, wai, proc, 0) le k).1) (ix (bor (le + k))) - due (le + k)) (fun hp_7 => ?_) (fun hp_7 => ?_)
        · skip
          refine z_callVi C (T := Unit) (As := [.int (nI (le + k))]) (rest := []) (ws' := fun _ => (wX ad cI cZ ((mnF flo frm too ldr bor due plg price mk (acc, pap, clo, wai, proc, 0) le k).1) (clrN net 25) tacc tnet flo bnd frm too amt pri ((mnF flo frm too ldr bor due plg price mk (acc, pap, clo, wai, proc, 0) le k).2.2.2.1) byp ldr bor due plg ((mnF flo frm too ldr bor due plg price mk (acc, pap, clo, wai, proc, 0) le k).2.2.1) ((mnF flo frm too ldr bor due plg price mk (acc, pap, clo, wai, proc, 0) le k).2.1) cnd small price cut ((mnF flo frm too ldr bor due plg price mk (acc, pap, clo, wai, proc, 0) le k).2.2.2.2.1) (nI mk) (nI lm) (nI le))) (c_X4_canRepay l sa D cI cZ cL ad ((mnF flo frm too ldr bor due plg price mk (acc, pap, clo, wai, proc, 0) le k).1) (clrN net 25) tacc tnet flo bnd frm too amt pri ((mnF flo frm too ldr bor due plg price mk (acc, pap, clo, wai, proc, 0) le k).2.2.2.1) byp ldr bor due plg ((mnF flo frm too ldr bor due plg price mk (acc, pap, clo, wai, proc, 0) le k).2.2.1) ((mnF flo frm too ldr bor due plg price mk (acc, pap, clo, wai, proc, 0) le k).2.1) cnd small price cut ((mnF flo frm too ldr bor due plg price mk (acc, pap, clo, wai, proc, 0) le k).2.2.2.2.1) mk lm le (le + k) (by first | assumption | omega) (by first | assumption | omega) (by first | assumption | omega) (by first | assumption | omega)) (cwV 1 C.2.2.2.2.1 gX4_morning_X4_canRepay rfl rfl rfl (by decide +kernel) ⟨Nat.le_of_ble_eq_true rfl, Nat.le_of_ble_eq_true rfl⟩) 0 rfl rfl rfl (fun _ => zSub.full) zIn.full rfl (Nat.le_of_ble_eq_true rfl) ⟨Nat.le_of_ble_eq_true rfl, Nat.le_of_ble_eq_true rfl⟩ dX4_morning_30 (fun r_8 _ h_9 => ?_)
          obtain rfl : r_8 = 1 := h_9.trans (if_pos hp_7)
          refine z_if_eq C (tgt := 44) dX4_morning_33 (by decide) (fun h => absurd h (by decide)) (fun _ => ?_)
          refine z_aload_n C dX4_morning_36 rfl 0 rfl ?_
          refine z_iload_n C dX4_morning_37 rfl 2 rfl ?_
          refine z_callVv C (T := Unit) (As := [.int (nI (le + k))]) (rest := []) (ws' := fun _ => (wX ad cI cZ (mvA (ix (bor (le + k))) (ix (ldr (le + k))) (due (le + k)) ((mnF flo frm too ldr bor due plg price mk (acc, pap, clo, wai, proc, 0) le k).1)) (clrN net 25) tacc tnet flo bnd frm too amt pri ((mnF flo frm too ldr bor due plg price mk (acc, pap, clo, wai, proc, 0) le k).2.2.2.1) byp ldr bor due plg ((mnF flo frm too ldr bor due plg price mk (acc, pap, clo, wai, proc, 0) le k).2.2.1) (upd ((mnF flo frm too ldr bor due plg price mk (acc, pap, clo, wai, proc, 0) le k).2.1) (ix (bor (le + k))) (((mnF flo frm too ldr bor due plg price mk (acc, pap, clo, wai, proc, 0) le k).2.1) (ix (bor (le + k))) + plg (le + k))) cnd small price cut ((mnF flo frm too ldr bor due plg price mk (acc, pap, clo, wai, proc, 0) le k).2.2.2.2.1) (nI mk) (nI lm) (nI le))) (c_X4_repay l sa D cI cZ cL ad ((mnF flo frm too ldr bor due plg price mk (acc, pap, clo, wai, proc, 0) le k).1) (clrN net 25) tacc tnet flo bnd frm too amt pri ((mnF flo frm too ldr bor due plg price mk (acc, pap, clo, wai, proc, 0) le k).2.2.2.1) byp ldr bor due plg ((mnF flo frm too ldr bor due plg price mk (acc, pap, clo, wai, proc, 0) le k).2.2.1) ((mnF flo frm too ldr bor due plg price mk (acc, pap, clo, wai, proc, 0) le k).2.1) cnd small price cut ((mnF flo frm too ldr bor due plg price mk (acc, pap, clo, wai, proc, 0) le k).2.2.2.2.1) mk lm le (le + k) (by first | assumption | omega) (by first | assumption | omega) (by first | assumption | omega) (by first | assumption | omega)) (cwV 1 C.2.2.2.2.1 gX4_morning_X4_repay rfl rfl rfl (by decide +kernel) ⟨Nat.le_of_ble_eq_true rfl, Nat.le_of_ble_eq_true rfl⟩) 0 rfl rfl rfl (fun _ => zSub.full) zIn.full rfl (Nat.le_of_ble_eq_true rfl) ⟨Nat.le_of_ble_eq_true rfl, Nat.le_of_ble_eq_true rfl⟩ dX4_morning_38 (fun _ _ => ?_)
          refine z_goto C (tgt := 65) dX4_morning_41 (by decide) ?_
          refine z_iinc C (v := (nI ((le + k) + 1))) dX4_morning_65 2 rfl (nI_add (le + k) 1) (by decide) [(0, .ref (ad 0)), (1, .int (nI ((mnF flo frm too ldr bor due plg price mk (acc, pap, clo, wai, proc, 0) le k).2.2.2.2.2))), (2, .int (nI ((le + k) + 1)))] [1, 2, 0] rfl ?_
          refine z_goto C (tgt := 17) dX4_morning_68 (by decide) ?_
          refine z_ws (wX ad cI cZ ((mnF flo frm too ldr bor due plg price mk (acc, pap, clo, wai, proc, 0) le (k + 1)).1) (clrN net 25) tacc tnet flo bnd frm too amt pri ((mnF flo frm too ldr bor due plg price mk (acc, pap, clo, wai, proc, 0) le (k + 1)).2.2.2.1) byp ldr bor due plg ((mnF flo frm too ldr bor due plg price mk (acc, pap, clo, wai, proc, 0) le (k + 1)).2.2.1) ((mnF flo frm too ldr bor due plg price mk (acc, pap, clo, wai, proc, 0) le (k + 1)).2.1) cnd small price cut ((mnF flo frm too ldr bor due plg price mk (acc, pap, clo, wai, proc, 0) le (k + 1)).2.2.2.2.1) (nI mk) (nI lm) (nI le)) (by simp only [mnF]; (first | (rw [mnS_r (by assumption)]) | (rw [mnS_c (by assumption) (by assumption)]) | (rw [mnS_o (by assumption) (by assumption)])); try rfl) ?_
          refine z_lveq [(0, .ref (ad 0)), (1, .int (nI ((mnF flo frm too ldr bor due plg price mk (acc, pap, clo, wai, proc, 0) le (k + 1)).2.2.2.2.2))), (2, .int (nI (le + (k + 1))))] (by simp only [mnF]; (first | (rw [mnS_r (by assumption)]) | (rw [mnS_c (by assumption) (by assumption)]) | (rw [mnS_o (by assumption) (by assumption)])); try rfl) ?_
          exact ih_2 (k + 1) (by omega) (by first | assumption | omega)
        · skip
          refine z_callVi C (T := Unit) (As := [.int (nI (le + k))]) (rest := []) (ws' := fun _ => (wX ad cI cZ ((mnF flo frm too ldr bor due plg price mk (acc, pap, clo, wai, proc, 0) le k).1) (clrN net 25) tacc tnet flo bnd frm too amt pri ((mnF flo frm too ldr bor due plg price mk (acc, pap, clo, wai, proc, 0) le k).2.2.2.1) byp ldr bor due plg ((mnF flo frm too ldr bor due plg price mk (acc, pap, clo, wai, proc, 0) le k).2.2.1) ((mnF flo frm too ldr bor due plg price mk (acc, pap, clo, wai, proc, 0) le k).2.1) cnd small price cut ((mnF flo frm too ldr bor due plg price mk (acc, pap, clo, wai, proc, 0) le k).2.2.2.2.1) (nI mk) (nI lm) (nI le))) (c_X4_canRepay l sa D cI cZ cL ad ((mnF flo frm too ldr bor due plg price mk (acc, pap, clo, wai, proc, 0) le k).1) (clrN net 25) tacc tnet flo bnd frm too amt pri ((mnF flo frm too ldr bor due plg price mk (acc, pap, clo, wai, proc, 0) le k).2.2.2.1) byp ldr bor due plg ((mnF flo frm too ldr bor due plg price mk (acc, pap, clo, wai, proc, 0) le k).2.2.1) ((mnF flo frm too ldr bor due plg price mk (acc, pap, clo, wai, proc, 0) le k).2.1) cnd small price cut ((mnF flo frm too ldr bor due plg price mk (acc, pap, clo, wai, proc, 0) le k).2.2.2.2.1) mk lm le (le + k) (by first | assumption | omega) (by first | assumption | omega) (by first | assumption | omega) (by first | assumption | omega)) (cwV 1 C.2.2.2.2.1 gX4_morning_X4_canRepay rfl rfl rfl (by decide +kernel) ⟨Nat.le_of_ble_eq_true rfl, Nat.le_of_ble_eq_true rfl⟩) 0 rfl rfl rfl (fun _ => zSub.full) zIn.full rfl (Nat.le_of_ble_eq_true rfl) ⟨Nat.le_of_ble_eq_true rfl, Nat.le_of_ble_eq_true rfl⟩ dX4_morning_30 (fun r_10 _ h_11 => ?_)
          obtain rfl : r_10 = 0 := h_11.trans (if_neg hp_7)
          refine z_if_eq C (tgt := 44) dX4_morning_33 (by decide) (fun _ => ?_) (fun h => absurd h (by decide))
          refine z_iload_n C dX4_morning_44 rfl 1 rfl ?_
          refine z_aload_n C dX4_morning_45 rfl 0 rfl ?_
          refine z_aload_n C dX4_morning_46 rfl 0 rfl ?_
          refine z_get C 0 rfl i_X4_morning_X4 rfl 4 (by decide) m_X4_morning_f36 rfl rfl dX4_morning_47 ?_
          refine z_get C 5 rfl i_X4_morning_X1 rfl 1 (by decide) m_X4_morning_f183 rfl rfl dX4_morning_50 ?_
          refine z_iload_n C dX4_morning_53 rfl 2 rfl ?_
          have := (hbor (le + k) (by omega)).2
          refine z_iald C 19 0 rfl rfl (le + k) (nI_clamp (by omega)) (vp_in_nI (by omega) (by omega)) (nI (ix (bor (le + k)))) (hbor (le + k) (by omega)).1 dX4_morning_54 ?_
          refine z_case (((mnF flo frm too ldr bor due plg price mk (acc, pap, clo, wai, proc, 0) le k).2.2.1) (ix (bor (le + k))) = 0) (fun hp_12 => ?_) (fun hp_12 => ?_)
          · skip
            refine z_callVi C (T := Unit) (As := [.int (nI (ix (bor (le + k))))]) (rest := [.int (nI ((mnF flo frm too ldr bor due plg price mk (acc, pap, clo, wai, proc, 0) le k).2.2.2.2.2))]) (ws' := fun _ => (wX ad cI cZ ((mnF flo frm too ldr bor due plg price mk (acc, pap, clo, wai, proc, 0) le k).1) (clrN net 25) tacc tnet flo bnd frm too amt pri (dropW frm too (ix (bor (le + k))) mk ((mnF flo frm too ldr bor due plg price mk (acc, pap, clo, wai, proc, 0) le k).2.2.2.1)) byp ldr bor due plg (upd ((mnF flo frm too ldr bor due plg price mk (acc, pap, clo, wai, proc, 0) le k).2.2.1) (ix (bor (le + k))) 1) ((mnF flo frm too ldr bor due plg price mk (acc, pap, clo, wai, proc, 0) le k).2.1) cnd small price cut ((mnF flo frm too ldr bor due plg price mk (acc, pap, clo, wai, proc, 0) le k).2.2.2.2.1) (nI mk) (nI lm) (nI le))) (c_X4_close_y l sa D cI cZ cL ad ((mnF flo frm too ldr bor due plg price mk (acc, pap, clo, wai, proc, 0) le k).1) (clrN net 25) tacc tnet flo bnd frm too amt pri ((mnF flo frm too ldr bor due plg price mk (acc, pap, clo, wai, proc, 0) le k).2.2.2.1) byp ldr bor due plg ((mnF flo frm too ldr bor due plg price mk (acc, pap, clo, wai, proc, 0) le k).2.2.1) ((mnF flo frm too ldr bor due plg price mk (acc, pap, clo, wai, proc, 0) le k).2.1) cnd small price cut ((mnF flo frm too ldr bor due plg price mk (acc, pap, clo, wai, proc, 0) le k).2.2.2.2.1) mk lm le (ix (bor (le + k))) (by first | assumption | omega) (by first | assumption | omega) (by first | assumption | omega) (by first | assumption | omega) (by first | assumption | omega)) (cwV 1 C.2.2.2.2.1 gX4_morning_X4_close rfl rfl rfl (by decide +kernel) ⟨Nat.le_of_ble_eq_true rfl, Nat.le_of_ble_eq_true rfl⟩) 0 rfl rfl rfl (fun _ => zSub.full) zIn.full rfl (Nat.le_of_ble_eq_true rfl) ⟨Nat.le_of_ble_eq_true rfl, Nat.le_of_ble_eq_true rfl⟩ dX4_morning_55 (fun r_13 _ h_14 => ?_)
            obtain rfl : r_13 = 1 := h_14
            refine z_iadd C (v := (nI (((mnF flo frm too ldr bor due plg price mk (acc, pap, clo, wai, proc, 0) le k).2.2.2.2.2) + 1))) dX4_morning_58 (nI_add ((mnF flo frm too ldr bor due plg price mk (acc, pap, clo, wai, proc, 0) le k).2.2.2.2.2) 1) ?_
            refine z_istore_n C dX4_morning_59 rfl (by decide) [(0, .ref (ad 0)), (1, .int (nI (((mnF flo frm too ldr bor due plg price mk (acc, pap, clo, wai, proc, 0) le k).2.2.2.2.2) + 1))), (2, .int (nI (le + k)))] [1, 0, 2] rfl ?_
            refine z_aload_n C dX4_morning_60 rfl 0 rfl ?_
            refine z_iload_n C dX4_morning_61 rfl 2 rfl ?_
            refine z_callVv C (T := Unit) (As := [.int (nI (le + k))]) (rest := []) (ws' := fun _ => (wX ad cI cZ (selA (ix (bor (le + k))) (ix (ldr (le + k))) (due (le + k)) (plg (le + k) * price) ((mnF flo frm too ldr bor due plg price mk (acc, pap, clo, wai, proc, 0) le k).1)) (clrN net 25) tacc tnet flo bnd frm too amt pri (dropW frm too (ix (bor (le + k))) mk ((mnF flo frm too ldr bor due plg price mk (acc, pap, clo, wai, proc, 0) le k).2.2.2.1)) byp ldr bor due plg (upd ((mnF flo frm too ldr bor due plg price mk (acc, pap, clo, wai, proc, 0) le k).2.2.1) (ix (bor (le + k))) 1) ((mnF flo frm too ldr bor due plg price mk (acc, pap, clo, wai, proc, 0) le k).2.1) cnd small price cut (((mnF flo frm too ldr bor due plg price mk (acc, pap, clo, wai, proc, 0) le k).2.2.2.2.1) + plg (le + k) * price) (nI mk) (nI lm) (nI le))) (c_X4_sellPledge l sa D cI cZ cL ad ((mnF flo frm too ldr bor due plg price mk (acc, pap, clo, wai, proc, 0) le k).1) (clrN net 25) tacc tnet flo bnd frm too amt pri (dropW frm too (ix (bor (le + k))) mk ((mnF flo frm too ldr bor due plg price mk (acc, pap, clo, wai, proc, 0) le k).2.2.2.1)) byp ldr bor due plg (upd ((mnF flo frm too ldr bor due plg price mk (acc, pap, clo, wai, proc, 0) le k).2.2.1) (ix (bor (le + k))) 1) ((mnF flo frm too ldr bor due plg price mk (acc, pap, clo, wai, proc, 0) le k).2.1) cnd small price cut ((mnF flo frm too ldr bor due plg price mk (acc, pap, clo, wai, proc, 0) le k).2.2.2.2.1) mk lm le (le + k) (by first | assumption | omega) (by first | assumption | omega) (by first | assumption | omega) (by first | assumption | omega)) (cwV 1 C.2.2.2.2.1 gX4_morning_X4_sellPledge rfl rfl rfl (by decide +kernel) ⟨Nat.le_of_ble_eq_true rfl, Nat.le_of_ble_eq_true rfl⟩) 0 rfl rfl rfl (fun _ => zSub.full) zIn.full rfl (Nat.le_of_ble_eq_true rfl) ⟨Nat.le_of_ble_eq_true rfl, Nat.le_of_ble_eq_true rfl⟩ dX4_morning_62 (fun _ _ => ?_)
            refine z_iinc C (v := (nI ((le + k) + 1))) dX4_morning_65 2 rfl (nI_add (le + k) 1) (by decide) [(0, .ref (ad 0)), (1, .int (nI (((mnF flo frm too ldr bor due plg price mk (acc, pap, clo, wai, proc, 0) le k).2.2.2.2.2) + 1))), (2, .int (nI ((le + k) + 1)))] [1, 2, 0] rfl ?_
            refine z_goto C (tgt := 17) dX4_morning_68 (by decide) ?_
            refine z_ws (wX ad cI cZ ((mnF flo frm too ldr bor due plg price mk (acc, pap, clo, wai, proc, 0) le (k + 1)).1) (clrN net 25) tacc tnet flo bnd frm too amt pri ((mnF flo frm too ldr bor due plg price mk (acc, pap, clo, wai, proc, 0) le (k + 1)).2.2.2.1) byp ldr bor due plg ((mnF flo frm too ldr bor due plg price mk (acc, pap, clo, wai, proc, 0) le (k + 1)).2.2.1) ((mnF flo frm too ldr bor due plg price mk (acc, pap, clo, wai, proc, 0) le (k + 1)).2.1) cnd small price cut ((mnF flo frm too ldr bor due plg price mk (acc, pap, clo, wai, proc, 0) le (k + 1)).2.2.2.2.1) (nI mk) (nI lm) (nI le)) (by simp only [mnF]; (first | (rw [mnS_r (by assumption)]) | (rw [mnS_c (by assumption) (by assumption)]) | (rw [mnS_o (by assumption) (by assumption)])); try rfl) ?_
            refine z_lveq [(0, .ref (ad 0)), (1, .int (nI ((mnF flo frm too ldr bor due plg price mk (acc, pap, clo, wai, proc, 0) le (k + 1)).2.2.2.2.2))), (2, .int (nI (le + (k + 1))))] (by simp only [mnF]; (first | (rw [mnS_r (by assumption)]) | (rw [mnS_c (by assumption) (by assumption)]) | (rw [mnS_o (by assumption) (by assumption)])); try rfl) ?_
            exact ih_2 (k + 1) (by omega) (by first | assumption | omega)
          · skip
            refine z_callVi C (T := Unit) (As := [.int (nI (ix (bor (le + k))))]) (rest := [.int (nI ((mnF flo frm too ldr bor due plg price mk (acc, pap, clo, wai, proc, 0) le k).2.2.2.2.2))]) (ws' := fun _ => (wX ad cI cZ ((mnF flo frm too ldr bor due plg price mk (acc, pap, clo, wai, proc, 0) le k).1) (clrN net 25) tacc tnet flo bnd frm too amt pri ((mnF flo frm too ldr bor due plg price mk (acc, pap, clo, wai, proc, 0) le k).2.2.2.1) byp ldr bor due plg ((mnF flo frm too ldr bor due plg price mk (acc, pap, clo, wai, proc, 0) le k).2.2.1) ((mnF flo frm too ldr bor due plg price mk (acc, pap, clo, wai, proc, 0) le k).2.1) cnd small price cut ((mnF flo frm too ldr bor due plg price mk (acc, pap, clo, wai, proc, 0) le k).2.2.2.2.1) (nI mk) (nI lm) (nI le))) (c_X4_close_n l sa D cI cZ cL ad ((mnF flo frm too ldr bor due plg price mk (acc, pap, clo, wai, proc, 0) le k).1) (clrN net 25) tacc tnet flo bnd frm too amt pri ((mnF flo frm too ldr bor due plg price mk (acc, pap, clo, wai, proc, 0) le k).2.2.2.1) byp ldr bor due plg ((mnF flo frm too ldr bor due plg price mk (acc, pap, clo, wai, proc, 0) le k).2.2.1) ((mnF flo frm too ldr bor due plg price mk (acc, pap, clo, wai, proc, 0) le k).2.1) cnd small price cut ((mnF flo frm too ldr bor due plg price mk (acc, pap, clo, wai, proc, 0) le k).2.2.2.2.1) mk lm le (ix (bor (le + k))) (by first | assumption | omega) (by first | assumption | omega) (by first | assumption | omega) (by first | assumption | omega) (by first | assumption | omega)) (cwV 1 C.2.2.2.2.1 gX4_morning_X4_close rfl rfl rfl (by decide +kernel) ⟨Nat.le_of_ble_eq_true rfl, Nat.le_of_ble_eq_true rfl⟩) 0 rfl rfl rfl (fun _ => zSub.full) zIn.full rfl (Nat.le_of_ble_eq_true rfl) ⟨Nat.le_of_ble_eq_true rfl, Nat.le_of_ble_eq_true rfl⟩ dX4_morning_55 (fun r_15 _ h_16 => ?_)
            obtain rfl : r_15 = 0 := h_16
            refine z_iadd C (v := (nI ((mnF flo frm too ldr bor due plg price mk (acc, pap, clo, wai, proc, 0) le k).2.2.2.2.2))) dX4_morning_58 (z_add0 _) ?_
            refine z_istore_n C dX4_morning_59 rfl (by decide) [(0, .ref (ad 0)), (1, .int (nI ((mnF flo frm too ldr bor due plg price mk (acc, pap, clo, wai, proc, 0) le k).2.2.2.2.2))), (2, .int (nI (le + k)))] [1, 0, 2] rfl ?_
            refine z_aload_n C dX4_morning_60 rfl 0 rfl ?_
            refine z_iload_n C dX4_morning_61 rfl 2 rfl ?_
            refine z_callVv C (T := Unit) (As := [.int (nI (le + k))]) (rest := []) (ws' := fun _ => (wX ad cI cZ (selA (ix (bor (le + k))) (ix (ldr (le + k))) (due (le + k)) (plg (le + k) * price) ((mnF flo frm too ldr bor due plg price mk (acc, pap, clo, wai, proc, 0) le k).1)) (clrN net 25) tacc tnet flo bnd frm too amt pri ((mnF flo frm too ldr bor due plg price mk (acc, pap, clo, wai, proc, 0) le k).2.2.2.1) byp ldr bor due plg ((mnF flo frm too ldr bor due plg price mk (acc, pap, clo, wai, proc, 0) le k).2.2.1) ((mnF flo frm too ldr bor due plg price mk (acc, pap, clo, wai, proc, 0) le k).2.1) cnd small price cut (((mnF flo frm too ldr bor due plg price mk (acc, pap, clo, wai, proc, 0) le k).2.2.2.2.1) + plg (le + k) * price) (nI mk) (nI lm) (nI le))) (c_X4_sellPledge l sa D cI cZ cL ad ((mnF flo frm too ldr bor due plg price mk (acc, pap, clo, wai, proc, 0) le k).1) (clrN net 25) tacc tnet flo bnd frm too amt pri ((mnF flo frm too ldr bor due plg price mk (acc, pap, clo, wai, proc, 0) le k).2.2.2.1) byp ldr bor due plg ((mnF flo frm too ldr bor due plg price mk (acc, pap, clo, wai, proc, 0) le k).2.2.1) ((mnF flo frm too ldr bor due plg price mk (acc, pap, clo, wai, proc, 0) le k).2.1) cnd small price cut ((mnF flo frm too ldr bor due plg price mk (acc, pap, clo, wai, proc, 0) le k).2.2.2.2.1) mk lm le (le + k) (by first | assumption | omega) (by first | assumption | omega) (by first | assumption | omega) (by first | assumption | omega)) (cwV 1 C.2.2.2.2.1 gX4_morning_X4_sellPledge rfl rfl rfl (by decide +kernel) ⟨Nat.le_of_ble_eq_true rfl, Nat.le_of_ble_eq_true rfl⟩) 0 rfl rfl rfl (fun _ => zSub.full) zIn.full rfl (Nat.le_of_ble_eq_true rfl) ⟨Nat.le_of_ble_eq_true rfl, Nat.le_of_ble_eq_true rfl⟩ dX4_morning_62 (fun _ _ => ?_)
            refine z_iinc C (v := (nI ((le + k) + 1))) dX4_morning_65 2 rfl (nI_add (le + k) 1) (by decide) [(0, .ref (ad 0)), (1, .int (nI ((mnF flo frm too ldr bor due plg price mk (acc, pap, clo, wai, proc, 0) le k).2.2.2.2.2))), (2, .int (nI ((le + k) + 1)))] [1, 2, 0] rfl ?_
            refine z_goto C (tgt := 17) dX4_morning_68 (by decide) ?_
            refine z_ws (wX ad cI cZ ((mnF flo frm too ldr bor due plg price mk (acc, pap, clo, wai, proc, 0) le (k + 1)).1) (clrN net 25) tacc tnet flo bnd frm too amt pri ((mnF flo frm too ldr bor due plg price mk (acc, pap, clo, wai, proc, 0) le (k + 1)).2.2.2.1) byp ldr bor due plg ((mnF flo frm too ldr bor due plg price mk (acc, pap, clo, wai, proc, 0) le (k + 1)).2.2.1) ((mnF flo frm too ldr bor due plg price mk (acc, pap, clo, wai, proc, 0) le (k + 1)).2.1) cnd small price cut ((mnF flo frm too ldr bor due plg price mk (acc, pap, clo, wai, proc, 0) le (k + 1)).2.2.2.2.1) (nI mk) (nI lm) (nI le)) (by simp only [mnF]; (first | (rw [mnS_r (by assumption)]) | (rw [mnS_c (by assumption) (by assumption)]) | (rw [mnS_o (by assumption) (by assumption)])); try rfl) ?_
            refine z_lveq [(0, .ref (ad 0)), (1, .int (nI ((mnF flo frm too ldr bor due plg price mk (acc, pap, clo, wai, proc, 0) le (k + 1)).2.2.2.2.2))), (2, .int (nI (le + (k + 1))))] (by simp only [mnF]; (first | (rw [mnS_r (by assumption)]) | (rw [mnS_c (by assumption) (by assumption)]) | (rw [mnS_o (by assumption) (by assumption)])); try rfl) ?_
            exact ih_2 (k + 1) (by omega) (by first | assumption | omega)
  refine z_ws (wX ad cI cZ ((mnF flo frm too ldr bor due plg price mk (acc, pap, clo, wai, proc, 0) le 0).1) (clrN net 25) tacc tnet flo bnd frm too amt pri ((mnF flo frm too ldr bor due plg price mk (acc, pap, clo, wai, proc, 0) le 0).2.2.2.1) byp ldr bor due plg ((mnF flo frm too ldr bor due plg price mk (acc, pap, clo, wai, proc, 0) le 0).2.2.1) ((mnF flo frm too ldr bor due plg price mk (acc, pap, clo, wai, proc, 0) le 0).2.1) cnd small price cut ((mnF flo frm too ldr bor due plg price mk (acc, pap, clo, wai, proc, 0) le 0).2.2.2.2.1) (nI mk) (nI lm) (nI le)) (by rfl) ?_
  refine z_lveq [(0, .ref (ad 0)), (1, .int (nI ((mnF flo frm too ldr bor due plg price mk (acc, pap, clo, wai, proc, 0) le 0).2.2.2.2.2))), (2, .int (nI (le + 0)))] (by rfl) ?_
  exact L17_k_1 (lm - (le + 0) + 1) 0 (Nat.lt_succ_self _) (by first | assumption | omega)
set_option maxHeartbeats 4000000 in
set_option maxRecDepth 100000 in
theorem c_X4_loans (l : Launch) (sa : Nat → Nat) (D : va_G) (cI cZ cL : ClassId) (ad : Nat → Nat) (acc net tacc tnet flo bnd frm too amt pri wai byp ldr bor due plg clo pap cnd : Nat → Int32) (small price cut proc : Int32) (mk lm le : Nat)  (hle : le ≤ lm) (hlm : lm ≤ 40) : zMi (T := Unit) sa D vwCl (zty cI cZ cL) l yX4_loans wsX4_loans ({ frames := 0, cells := 0, slots := 0, locals := 0 } : Room) [.ref (ad 0)] (wX ad cI cZ acc net tacc tnet flo bnd frm too amt pri wai byp ldr bor due plg clo pap cnd small price cut proc (nI mk) (nI lm) (nI le)) (fun r9 _ => r9 = (nI (lm - le))) (fun _ => (wX ad cI cZ acc net tacc tnet flo bnd frm too amt pri wai byp ldr bor due plg clo pap cnd small price cut proc (nI mk) (nI lm) (nI le))) 0 0 := by
  refine zMi.of (ret := (some .int)) (cc := cX4_loans) (nL := 1) (own := RX4) (by decide +kernel) rfl [(0, .ref (ad 0))] rfl (Nat.le_of_ble_eq_true rfl) rfl ?_
  intro A p e s m args below meth c C hmn
  refine z_aload_n C dX4_loans_0 rfl 0 rfl ?_
  refine z_get C 0 rfl i_X4_loans_X4 rfl 4 (by decide) m_X4_loans_f36 rfl rfl dX4_loans_1 ?_
  refine z_get C 5 rfl i_X4_loans_X1 rfl 4 (by decide) m_X4_loans_f169 rfl rfl dX4_loans_4 ?_
  refine z_aload_n C dX4_loans_7 rfl 0 rfl ?_
  refine z_get C 0 rfl i_X4_loans_X4 rfl 4 (by decide) m_X4_loans_f36 rfl rfl dX4_loans_8 ?_
  refine z_get C 5 rfl i_X4_loans_X1 rfl 5 (by decide) m_X4_loans_f170 rfl rfl dX4_loans_11 ?_
  refine z_isub C (v := (nI (lm - le))) dX4_loans_14 (pk_sub (a := lm) (b := le) (by omega)) ?_
  exact z_iret C () rfl rfl (by decide) (by decide) dX4_loans_15
set_option maxHeartbeats 4000000 in
set_option maxRecDepth 100000 in
theorem c_X4_sold (l : Launch) (sa : Nat → Nat) (D : va_G) (cI cZ cL : ClassId) (ad : Nat → Nat) (acc net tacc tnet flo bnd frm too amt pri wai byp ldr bor due plg clo pap cnd : Nat → Int32) (small price cut proc : Int32) (mk lm le : Nat)   : zMi (T := Unit) sa D vwCl (zty cI cZ cL) l yX4_sold wsX4_sold ({ frames := 0, cells := 0, slots := 0, locals := 0 } : Room) [.ref (ad 0)] (wX ad cI cZ acc net tacc tnet flo bnd frm too amt pri wai byp ldr bor due plg clo pap cnd small price cut proc (nI mk) (nI lm) (nI le)) (fun r9 _ => r9 = proc) (fun _ => (wX ad cI cZ acc net tacc tnet flo bnd frm too amt pri wai byp ldr bor due plg clo pap cnd small price cut proc (nI mk) (nI lm) (nI le))) 0 0 := by
  refine zMi.of (ret := (some .int)) (cc := cX4_sold) (nL := 1) (own := RX4) (by decide +kernel) rfl [(0, .ref (ad 0))] rfl (Nat.le_of_ble_eq_true rfl) rfl ?_
  intro A p e s m args below meth c C hmn
  refine z_aload_n C dX4_sold_0 rfl 0 rfl ?_
  refine z_get C 0 rfl i_X4_sold_X4 rfl 11 (by decide) m_X4_sold_f192 rfl rfl dX4_sold_1 ?_
  exact z_iret C () rfl rfl (by decide) (by decide) dX4_sold_4
set_option maxHeartbeats 4000000 in
set_option maxRecDepth 100000 in
theorem ok_requireBank (l : Launch) (sa : Nat → Nat) (D : va_G) (cI cZ cL : ClassId)  (b : Nat) (hb : b < 5) : zMv (T := Unit) sa D vwCl (zty cI cZ cL) l yX4_requireBank wsX4_requireBank ({ frames := 6, cells := 0, slots := 0, locals := 82 } : Room) [.int (nI b)] [] (fun _ => True) (fun _ => []) 0 0 := by
  refine zMv.of (ret := none) (cc := cX4_requireBank) (nL := 1) (own := RX4) (by decide +kernel) rfl [(0, .int (nI b))] rfl (Nat.le_of_ble_eq_true rfl) rfl ?_
  intro A p e s m args below meth c C hmn
  refine z_iload_n C dX4_requireBank_0 rfl 0 rfl ?_
  refine z_if_lt C (tgt := 9) dX4_requireBank_1 (by decide) (fun h => absurd h (nI_pos (by omega))) (fun _ => ?_)
  refine z_iload_n C dX4_requireBank_4 rfl 0 rfl ?_
  refine z_iconst C (v := 5) dX4_requireBank_5 (by decide) ?_
  refine z_icmp_lt C (tgt := 19) dX4_requireBank_6 (by decide) (fun c6_1 => ?_) (fun c6_1 => ?_)
  · skip
    have n_2 : b < 5 := (nI_ltI (a := b) (b := 5) (by omega) (by omega)).mp c6_1
    exact z_vret C () (by exact trivial) rfl (by decide) (by decide) dX4_requireBank_19
  · skip
    have n_3 : ¬ b < 5 := fun q => c6_1 ((nI_ltI (a := b) (b := 5) (by omega) (by omega)).mpr q)
    exfalso
    first | omega | contradiction | exact absurd (by assumption) (Int32.not_le.mpr (by assumption))
set_option maxHeartbeats 4000000 in
set_option maxRecDepth 100000 in
theorem bad_requireBank (l : Launch) (hfl : l.stackTraces = false) (sa : Nat → Nat) (D : va_G) (cI cZ cL : ClassId)  (b : Int32) (hb : b < 0 ∨ 5 ≤ b) : zX sa D vwCl (zty cI cZ cL) l yX4_requireBank wsX4_requireBank ({ frames := 6, cells := 1, slots := 6, locals := 82 } : Room) [.int b] [] "java/lang/IndexOutOfBoundsException" 1 6 := by
  refine zX.of (ret := none) (cc := cX4_requireBank) (nL := 1) (own := RX4) (by decide +kernel) rfl [(0, .int b)] rfl (Nat.le_of_ble_eq_true rfl) rfl ?_
  intro A p e s m args below meth c C hmn ht
  refine z_iload_n C dX4_requireBank_0 rfl 0 rfl ?_
  refine z_if_lt C (tgt := 9) dX4_requireBank_1 (by decide) (fun c1_1 => ?_) (fun c1_1 => ?_)
  · skip
    exact z_throwS C (names := ["java/lang/RuntimeException", "java/lang/Exception"]) ht hfl rfl (by decide +kernel) (by decide +kernel) m_X4_requireBank_c140 m_X4_requireBank_n140 (is := 195) (text := "there is no such bank") (by decide +kernel) (by decide +kernel) x_X4_requireBank_9_1 x_X4_requireBank_9_2 x_X4_requireBank_9_3 dX4_requireBank_9 dX4_requireBank_12 dX4_requireBank_13 dX4_requireBank_15 dX4_requireBank_18 ⟨Nat.le_of_ble_eq_true rfl, Nat.le_of_ble_eq_true rfl, Nat.le_of_ble_eq_true rfl, Nat.le_of_ble_eq_true rfl⟩ (by decide) (by decide)
  · skip
    refine z_iload_n C dX4_requireBank_4 rfl 0 rfl ?_
    refine z_iconst C (v := 5) dX4_requireBank_5 (by decide) ?_
    refine z_icmp_lt C (tgt := 19) dX4_requireBank_6 (by decide) (fun c6_2 => ?_) (fun c6_2 => ?_)
    · skip
      exfalso
      exact hb.elim (fun h => c1_1 h) (fun h => absurd c6_2 (Int32.not_lt.mpr h))
    · skip
      exact z_throwS C (names := ["java/lang/RuntimeException", "java/lang/Exception"]) ht hfl rfl (by decide +kernel) (by decide +kernel) m_X4_requireBank_c140 m_X4_requireBank_n140 (is := 195) (text := "there is no such bank") (by decide +kernel) (by decide +kernel) x_X4_requireBank_9_1 x_X4_requireBank_9_2 x_X4_requireBank_9_3 dX4_requireBank_9 dX4_requireBank_12 dX4_requireBank_13 dX4_requireBank_15 dX4_requireBank_18 ⟨Nat.le_of_ble_eq_true rfl, Nat.le_of_ble_eq_true rfl, Nat.le_of_ble_eq_true rfl, Nat.le_of_ble_eq_true rfl⟩ (by decide) (by decide)
set_option maxHeartbeats 4000000 in
set_option maxRecDepth 100000 in
theorem ok_requireTwo (l : Launch) (sa : Nat → Nat) (D : va_G) (cI cZ cL : ClassId)  (f : Nat) (t : Nat) (hf : f < 5) (ht : t < 5) (hft : f ≠ t) : zMv (T := Unit) sa D vwCl (zty cI cZ cL) l yX4_requireTwo wsX4_requireTwo ({ frames := 6, cells := 0, slots := 0, locals := 82 } : Room) [.int (nI f), .int (nI t)] [] (fun _ => True) (fun _ => []) 0 0 := by
  refine zMv.of (ret := none) (cc := cX4_requireTwo) (nL := 2) (own := RX4) (by decide +kernel) rfl [(0, .int (nI f)), (1, .int (nI t))] rfl (Nat.le_of_ble_eq_true rfl) rfl ?_
  intro A p e s m args below meth c C hmn
  refine z_iload_n C dX4_requireTwo_0 rfl 0 rfl ?_
  refine z_iload_n C dX4_requireTwo_1 rfl 1 rfl ?_
  refine z_icmp_ne C (tgt := 15) dX4_requireTwo_2 (by decide) (fun c2_1 => ?_) (fun c2_1 => ?_)
  · skip
    have n_2 : ¬ f = t := fun q => c2_1 ((nI_eq (a := f) (b := t) (by omega) (by omega)).mpr q)
    exact z_vret C () (by exact trivial) rfl (by decide) (by decide) dX4_requireTwo_15
  · skip
    have n_3 : f = t := (nI_eq (a := f) (b := t) (by omega) (by omega)).mp c2_1
    exfalso
    first | omega | contradiction | exact absurd (by assumption) (Int32.not_le.mpr (by assumption))
set_option maxHeartbeats 4000000 in
set_option maxRecDepth 100000 in
theorem bad_requireTwo (l : Launch) (hfl : l.stackTraces = false) (sa : Nat → Nat) (D : va_G) (cI cZ cL : ClassId)  (f : Nat) (t : Nat) (hf : f < 5) (ht9 : t < 5) (hft : f = t) : zX sa D vwCl (zty cI cZ cL) l yX4_requireTwo wsX4_requireTwo ({ frames := 6, cells := 1, slots := 6, locals := 82 } : Room) [.int (nI f), .int (nI t)] [] "java/lang/IllegalArgumentException" 1 6 := by
  refine zX.of (ret := none) (cc := cX4_requireTwo) (nL := 2) (own := RX4) (by decide +kernel) rfl [(0, .int (nI f)), (1, .int (nI t))] rfl (Nat.le_of_ble_eq_true rfl) rfl ?_
  intro A p e s m args below meth c C hmn ht
  refine z_iload_n C dX4_requireTwo_0 rfl 0 rfl ?_
  refine z_iload_n C dX4_requireTwo_1 rfl 1 rfl ?_
  refine z_icmp_ne C (tgt := 15) dX4_requireTwo_2 (by decide) (fun c2_1 => ?_) (fun c2_1 => ?_)
  · skip
    have n_2 : ¬ f = t := fun q => c2_1 ((nI_eq (a := f) (b := t) (by omega) (by omega)).mpr q)
    exfalso
    first | omega | contradiction
  · skip
    have n_3 : f = t := (nI_eq (a := f) (b := t) (by omega) (by omega)).mp c2_1
    exact z_throwS C (names := ["java/lang/RuntimeException", "java/lang/Exception"]) ht hfl rfl (by decide +kernel) (by decide +kernel) m_X4_requireTwo_c197 m_X4_requireTwo_n197 (is := 199) (text := "both banks are the same") (by decide +kernel) (by decide +kernel) x_X4_requireTwo_5_1 x_X4_requireTwo_5_2 x_X4_requireTwo_5_3 dX4_requireTwo_5 dX4_requireTwo_8 dX4_requireTwo_9 dX4_requireTwo_11 dX4_requireTwo_14 ⟨Nat.le_of_ble_eq_true rfl, Nat.le_of_ble_eq_true rfl, Nat.le_of_ble_eq_true rfl, Nat.le_of_ble_eq_true rfl⟩ (by decide) (by decide)
set_option maxHeartbeats 4000000 in
set_option maxRecDepth 100000 in
theorem ok_requireRange (l : Launch) (sa : Nat → Nat) (D : va_G) (cI cZ cL : ClassId)  (v : Int32) (lo : Int32) (hi : Int32) (h1 : ¬ v < lo) (h2 : ¬ hi < v) : zMv (T := Unit) sa D vwCl (zty cI cZ cL) l yX4_requireRange wsX4_requireRange ({ frames := 6, cells := 0, slots := 0, locals := 82 } : Room) [.int v, .int lo, .int hi] [] (fun _ => True) (fun _ => []) 0 0 := by
  refine zMv.of (ret := none) (cc := cX4_requireRange) (nL := 3) (own := RX4) (by decide +kernel) rfl [(0, .int v), (1, .int lo), (2, .int hi)] rfl (Nat.le_of_ble_eq_true rfl) rfl ?_
  intro A p e s m args below meth c C hmn
  refine z_iload_n C dX4_requireRange_0 rfl 0 rfl ?_
  refine z_iload_n C dX4_requireRange_1 rfl 1 rfl ?_
  refine z_icmp_lt C (tgt := 10) dX4_requireRange_2 (by decide) (fun c2_1 => ?_) (fun c2_1 => ?_)
  · skip
    exfalso
    first | contradiction | exact h2 (Int32.not_le.mp (by assumption))
  · skip
    refine z_iload_n C dX4_requireRange_5 rfl 0 rfl ?_
    refine z_iload_n C dX4_requireRange_6 rfl 2 rfl ?_
    refine z_icmp_le C (tgt := 20) dX4_requireRange_7 (by decide) (fun c7_2 => ?_) (fun c7_2 => ?_)
    · skip
      exact z_vret C () (by exact trivial) rfl (by decide) (by decide) dX4_requireRange_20
    · skip
      exfalso
      first | contradiction | exact h2 (Int32.not_le.mp (by assumption))
set_option maxHeartbeats 4000000 in
set_option maxRecDepth 100000 in
theorem bad_requireRange (l : Launch) (hfl : l.stackTraces = false) (sa : Nat → Nat) (D : va_G) (cI cZ cL : ClassId)  (v : Int32) (lo : Int32) (hi : Int32) (hv : v < lo ∨ hi < v) : zX sa D vwCl (zty cI cZ cL) l yX4_requireRange wsX4_requireRange ({ frames := 6, cells := 1, slots := 6, locals := 82 } : Room) [.int v, .int lo, .int hi] [] "java/lang/IllegalArgumentException" 1 6 := by
  refine zX.of (ret := none) (cc := cX4_requireRange) (nL := 3) (own := RX4) (by decide +kernel) rfl [(0, .int v), (1, .int lo), (2, .int hi)] rfl (Nat.le_of_ble_eq_true rfl) rfl ?_
  intro A p e s m args below meth c C hmn ht
  refine z_iload_n C dX4_requireRange_0 rfl 0 rfl ?_
  refine z_iload_n C dX4_requireRange_1 rfl 1 rfl ?_
  refine z_icmp_lt C (tgt := 10) dX4_requireRange_2 (by decide) (fun c2_1 => ?_) (fun c2_1 => ?_)
  · skip
    exact z_throwS C (names := ["java/lang/RuntimeException", "java/lang/Exception"]) ht hfl rfl (by decide +kernel) (by decide +kernel) m_X4_requireRange_c197 m_X4_requireRange_n197 (is := 202) (text := "a value is out of range") (by decide +kernel) (by decide +kernel) x_X4_requireRange_10_1 x_X4_requireRange_10_2 x_X4_requireRange_10_3 dX4_requireRange_10 dX4_requireRange_13 dX4_requireRange_14 dX4_requireRange_16 dX4_requireRange_19 ⟨Nat.le_of_ble_eq_true rfl, Nat.le_of_ble_eq_true rfl, Nat.le_of_ble_eq_true rfl, Nat.le_of_ble_eq_true rfl⟩ (by decide) (by decide)
  · skip
    refine z_iload_n C dX4_requireRange_5 rfl 0 rfl ?_
    refine z_iload_n C dX4_requireRange_6 rfl 2 rfl ?_
    refine z_icmp_le C (tgt := 20) dX4_requireRange_7 (by decide) (fun c7_2 => ?_) (fun c7_2 => ?_)
    · skip
      exfalso
      exact hv.elim (fun h => c2_1 h) (fun h => absurd c7_2 (Int32.not_le.mpr h))
    · skip
      exact z_throwS C (names := ["java/lang/RuntimeException", "java/lang/Exception"]) ht hfl rfl (by decide +kernel) (by decide +kernel) m_X4_requireRange_c197 m_X4_requireRange_n197 (is := 202) (text := "a value is out of range") (by decide +kernel) (by decide +kernel) x_X4_requireRange_10_1 x_X4_requireRange_10_2 x_X4_requireRange_10_3 dX4_requireRange_10 dX4_requireRange_13 dX4_requireRange_14 dX4_requireRange_16 dX4_requireRange_19 ⟨Nat.le_of_ble_eq_true rfl, Nat.le_of_ble_eq_true rfl, Nat.le_of_ble_eq_true rfl, Nat.le_of_ble_eq_true rfl⟩ (by decide) (by decide)
set_option maxHeartbeats 4000000 in
set_option maxRecDepth 100000 in
theorem ok_requireOpen (l : Launch) (sa : Nat → Nat) (D : va_G) (cI cZ cL : ClassId) (ad : Nat → Nat) (acc net tacc tnet flo bnd frm too amt pri wai byp ldr bor due plg clo pap cnd : Nat → Int32) (small price cut proc : Int32) (mk lm le : Nat) (b : Nat) (hb : b < 5) (hcl : clo b = 0) : zMv (T := Unit) sa D vwCl (zty cI cZ cL) l yX4_requireOpen wsX4_requireOpen ({ frames := 6, cells := 0, slots := 0, locals := 82 } : Room) [.ref (ad 0), .int (nI b)] (wX ad cI cZ acc net tacc tnet flo bnd frm too amt pri wai byp ldr bor due plg clo pap cnd small price cut proc (nI mk) (nI lm) (nI le)) (fun _ => True) (fun _ => (wX ad cI cZ acc net tacc tnet flo bnd frm too amt pri wai byp ldr bor due plg clo pap cnd small price cut proc (nI mk) (nI lm) (nI le))) 0 0 := by
  refine zMv.of (ret := none) (cc := cX4_requireOpen) (nL := 2) (own := RX4) (by decide +kernel) rfl [(0, .ref (ad 0)), (1, .int (nI b))] rfl (Nat.le_of_ble_eq_true rfl) rfl ?_
  intro A p e s m args below meth c C hmn
  refine z_aload_n C dX4_requireOpen_0 rfl 0 rfl ?_
  refine z_get C 0 rfl i_X4_requireOpen_X4 rfl 5 (by decide) m_X4_requireOpen_f40 rfl rfl dX4_requireOpen_1 ?_
  refine z_iload_n C dX4_requireOpen_4 rfl 1 rfl ?_
  refine z_zald C 22 1 rfl rfl b (nI_clamp (by omega)) (vp_in_nI (by omega) (by omega)) (clo b) rfl dX4_requireOpen_5 ?_
  refine z_if_eq C (tgt := 19) dX4_requireOpen_6 (by decide) (fun c6_1 => ?_) (fun c6_1 => ?_)
  · skip
    exact z_vret C () (by exact trivial) rfl (by decide) (by decide) dX4_requireOpen_19
  · skip
    exfalso
    first | omega | contradiction | exact absurd (by assumption) (Int32.not_le.mpr (by assumption))
set_option maxHeartbeats 4000000 in
set_option maxRecDepth 100000 in
theorem bad_requireOpen (l : Launch) (hfl : l.stackTraces = false) (sa : Nat → Nat) (D : va_G) (cI cZ cL : ClassId) (ad : Nat → Nat) (acc net tacc tnet flo bnd frm too amt pri wai byp ldr bor due plg clo pap cnd : Nat → Int32) (small price cut proc : Int32) (mk lm le : Nat) (b : Nat) (hb : b < 5) (hcl : ¬ clo b = 0) : zX sa D vwCl (zty cI cZ cL) l yX4_requireOpen wsX4_requireOpen ({ frames := 6, cells := 1, slots := 6, locals := 82 } : Room) [.ref (ad 0), .int (nI b)] (wX ad cI cZ acc net tacc tnet flo bnd frm too amt pri wai byp ldr bor due plg clo pap cnd small price cut proc (nI mk) (nI lm) (nI le)) "java/lang/IllegalStateException" 1 6 := by
  refine zX.of (ret := none) (cc := cX4_requireOpen) (nL := 2) (own := RX4) (by decide +kernel) rfl [(0, .ref (ad 0)), (1, .int (nI b))] rfl (Nat.le_of_ble_eq_true rfl) rfl ?_
  intro A p e s m args below meth c C hmn ht
  refine z_aload_n C dX4_requireOpen_0 rfl 0 rfl ?_
  refine z_get C 0 rfl i_X4_requireOpen_X4 rfl 5 (by decide) m_X4_requireOpen_f40 rfl rfl dX4_requireOpen_1 ?_
  refine z_iload_n C dX4_requireOpen_4 rfl 1 rfl ?_
  refine z_zald C 22 1 rfl rfl b (nI_clamp (by omega)) (vp_in_nI (by omega) (by omega)) (clo b) rfl dX4_requireOpen_5 ?_
  refine z_if_eq C (tgt := 19) dX4_requireOpen_6 (by decide) (fun c6_1 => ?_) (fun c6_1 => ?_)
  · skip
    exfalso
    first | omega | contradiction
  · skip
    exact z_throwS C (names := ["java/lang/RuntimeException", "java/lang/Exception"]) ht hfl rfl (by decide +kernel) (by decide +kernel) m_X4_requireOpen_c77 m_X4_requireOpen_n77 (is := 204) (text := "the bank is closed") (by decide +kernel) (by decide +kernel) x_X4_requireOpen_9_1 x_X4_requireOpen_9_2 x_X4_requireOpen_9_3 dX4_requireOpen_9 dX4_requireOpen_12 dX4_requireOpen_13 dX4_requireOpen_15 dX4_requireOpen_18 ⟨Nat.le_of_ble_eq_true rfl, Nat.le_of_ble_eq_true rfl, Nat.le_of_ble_eq_true rfl, Nat.le_of_ble_eq_true rfl⟩ (by decide) (by decide)
set_option maxHeartbeats 4000000 in
set_option maxRecDepth 100000 in
theorem ok_requirePayment (l : Launch) (sa : Nat → Nat) (D : va_G) (cI cZ cL : ClassId) (ad : Nat → Nat) (acc net tacc tnet flo bnd frm too amt pri wai byp ldr bor due plg clo pap cnd : Nat → Int32) (small price cut proc : Int32) (mk lm le : Nat) (p9 : Nat) (hp : p9 < mk) (hmk : mk ≤ 60) : zMv (T := Unit) sa D vwCl (zty cI cZ cL) l yX4_requirePayment wsX4_requirePayment ({ frames := 6, cells := 0, slots := 0, locals := 82 } : Room) [.ref (ad 0), .int (nI p9)] (wX ad cI cZ acc net tacc tnet flo bnd frm too amt pri wai byp ldr bor due plg clo pap cnd small price cut proc (nI mk) (nI lm) (nI le)) (fun _ => True) (fun _ => (wX ad cI cZ acc net tacc tnet flo bnd frm too amt pri wai byp ldr bor due plg clo pap cnd small price cut proc (nI mk) (nI lm) (nI le))) 0 0 := by
  refine zMv.of (ret := none) (cc := cX4_requirePayment) (nL := 2) (own := RX4) (by decide +kernel) rfl [(0, .ref (ad 0)), (1, .int (nI p9))] rfl (Nat.le_of_ble_eq_true rfl) rfl ?_
  intro A p e s m args below meth c C hmn
  refine z_iload_n C dX4_requirePayment_0 rfl 1 rfl ?_
  refine z_if_lt C (tgt := 15) dX4_requirePayment_1 (by decide) (fun h => absurd h (nI_pos (by omega))) (fun _ => ?_)
  refine z_iload_n C dX4_requirePayment_4 rfl 1 rfl ?_
  refine z_aload_n C dX4_requirePayment_5 rfl 0 rfl ?_
  refine z_get C 0 rfl i_X4_requirePayment_X4 rfl 3 (by decide) m_X4_requirePayment_f29 rfl rfl dX4_requirePayment_6 ?_
  refine z_get C 4 rfl i_X4_requirePayment_X2 rfl 6 (by decide) m_X4_requirePayment_f113 rfl rfl dX4_requirePayment_9 ?_
  refine z_icmp_lt C (tgt := 25) dX4_requirePayment_12 (by decide) (fun c12_1 => ?_) (fun c12_1 => ?_)
  · skip
    have n_2 : p9 < mk := (nI_ltI (a := p9) (b := mk) (by omega) (by omega)).mp c12_1
    exact z_vret C () (by exact trivial) rfl (by decide) (by decide) dX4_requirePayment_25
  · skip
    have n_3 : ¬ p9 < mk := fun q => c12_1 ((nI_ltI (a := p9) (b := mk) (by omega) (by omega)).mpr q)
    exfalso
    first | omega | contradiction | exact absurd (by assumption) (Int32.not_le.mpr (by assumption))
set_option maxHeartbeats 4000000 in
set_option maxRecDepth 100000 in
theorem bad_requirePayment (l : Launch) (hfl : l.stackTraces = false) (sa : Nat → Nat) (D : va_G) (cI cZ cL : ClassId) (ad : Nat → Nat) (acc net tacc tnet flo bnd frm too amt pri wai byp ldr bor due plg clo pap cnd : Nat → Int32) (small price cut proc : Int32) (mk lm le : Nat) (p9 : Int32) (hp : p9 < 0 ∨ nI mk ≤ p9) : zX sa D vwCl (zty cI cZ cL) l yX4_requirePayment wsX4_requirePayment ({ frames := 6, cells := 1, slots := 6, locals := 82 } : Room) [.ref (ad 0), .int p9] (wX ad cI cZ acc net tacc tnet flo bnd frm too amt pri wai byp ldr bor due plg clo pap cnd small price cut proc (nI mk) (nI lm) (nI le)) "java/lang/IndexOutOfBoundsException" 1 6 := by
  refine zX.of (ret := none) (cc := cX4_requirePayment) (nL := 2) (own := RX4) (by decide +kernel) rfl [(0, .ref (ad 0)), (1, .int p9)] rfl (Nat.le_of_ble_eq_true rfl) rfl ?_
  intro A p e s m args below meth c C hmn ht
  refine z_iload_n C dX4_requirePayment_0 rfl 1 rfl ?_
  refine z_if_lt C (tgt := 15) dX4_requirePayment_1 (by decide) (fun c1_1 => ?_) (fun c1_1 => ?_)
  · skip
    exact z_throwS C (names := ["java/lang/RuntimeException", "java/lang/Exception"]) ht hfl rfl (by decide +kernel) (by decide +kernel) m_X4_requirePayment_c140 m_X4_requirePayment_n140 (is := 206) (text := "there is no such payment") (by decide +kernel) (by decide +kernel) x_X4_requirePayment_15_1 x_X4_requirePayment_15_2 x_X4_requirePayment_15_3 dX4_requirePayment_15 dX4_requirePayment_18 dX4_requirePayment_19 dX4_requirePayment_21 dX4_requirePayment_24 ⟨Nat.le_of_ble_eq_true rfl, Nat.le_of_ble_eq_true rfl, Nat.le_of_ble_eq_true rfl, Nat.le_of_ble_eq_true rfl⟩ (by decide) (by decide)
  · skip
    refine z_iload_n C dX4_requirePayment_4 rfl 1 rfl ?_
    refine z_aload_n C dX4_requirePayment_5 rfl 0 rfl ?_
    refine z_get C 0 rfl i_X4_requirePayment_X4 rfl 3 (by decide) m_X4_requirePayment_f29 rfl rfl dX4_requirePayment_6 ?_
    refine z_get C 4 rfl i_X4_requirePayment_X2 rfl 6 (by decide) m_X4_requirePayment_f113 rfl rfl dX4_requirePayment_9 ?_
    refine z_icmp_lt C (tgt := 25) dX4_requirePayment_12 (by decide) (fun c12_2 => ?_) (fun c12_2 => ?_)
    · skip
      exfalso
      exact hp.elim (fun h => c1_1 h) (fun h => absurd c12_2 (Int32.not_lt.mpr h))
    · skip
      exact z_throwS C (names := ["java/lang/RuntimeException", "java/lang/Exception"]) ht hfl rfl (by decide +kernel) (by decide +kernel) m_X4_requirePayment_c140 m_X4_requirePayment_n140 (is := 206) (text := "there is no such payment") (by decide +kernel) (by decide +kernel) x_X4_requirePayment_15_1 x_X4_requirePayment_15_2 x_X4_requirePayment_15_3 dX4_requirePayment_15 dX4_requirePayment_18 dX4_requirePayment_19 dX4_requirePayment_21 dX4_requirePayment_24 ⟨Nat.le_of_ble_eq_true rfl, Nat.le_of_ble_eq_true rfl, Nat.le_of_ble_eq_true rfl, Nat.le_of_ble_eq_true rfl⟩ (by decide) (by decide)
set_option maxHeartbeats 4000000 in
set_option maxRecDepth 100000 in
theorem ok_requireLoanable (l : Launch) (sa : Nat → Nat) (D : va_G) (cI cZ cL : ClassId) (ad : Nat → Nat) (acc net tacc tnet flo bnd frm too amt pri wai byp ldr bor due plg clo pap cnd : Nat → Int32) (small price cut proc : Int32) (mk lm le : Nat) (d : Nat) (b : Nat) (am : Int32) (x : Int32) (hd : d < 5) (hb : b < 5) (hlm : lm < 40) (h1 : ¬ pap b < x) (h2 : ¬ x * price * (1000 - cut) / 1000 < am) (h3 : ¬ acc d - am < flo d) : zMv (T := Unit) sa D vwCl (zty cI cZ cL) l yX4_requireLoanable wsX4_requireLoanable ({ frames := 6, cells := 0, slots := 0, locals := 82 } : Room) [.ref (ad 0), .int (nI d), .int (nI b), .int am, .int x] (wX ad cI cZ acc net tacc tnet flo bnd frm too amt pri wai byp ldr bor due plg clo pap cnd small price cut proc (nI mk) (nI lm) (nI le)) (fun _ => True) (fun _ => (wX ad cI cZ acc net tacc tnet flo bnd frm too amt pri wai byp ldr bor due plg clo pap cnd small price cut proc (nI mk) (nI lm) (nI le))) 0 0 := by
  refine zMv.of (ret := none) (cc := cX4_requireLoanable) (nL := 5) (own := RX4) (by decide +kernel) rfl [(0, .ref (ad 0)), (1, .int (nI d)), (2, .int (nI b)), (3, .int am), (4, .int x)] rfl (Nat.le_of_ble_eq_true rfl) rfl ?_
  intro A p e s m args below meth c C hmn
  refine z_aload_n C dX4_requireLoanable_0 rfl 0 rfl ?_
  refine z_get C 0 rfl i_X4_requireLoanable_X4 rfl 4 (by decide) m_X4_requireLoanable_f36 rfl rfl dX4_requireLoanable_1 ?_
  refine z_get C 5 rfl i_X4_requireLoanable_X1 rfl 4 (by decide) m_X4_requireLoanable_f169 rfl rfl dX4_requireLoanable_4 ?_
  refine z_bipush C (v := 40) dX4_requireLoanable_7 (by decide) ?_
  refine z_icmp_lt C (tgt := 22) dX4_requireLoanable_9 (by decide) (fun c9_1 => ?_) (fun c9_1 => ?_)
  · skip
    have n_2 : lm < 40 := (nI_ltI (a := lm) (b := 40) (by omega) (by omega)).mp c9_1
    refine z_aload_n C dX4_requireLoanable_22 rfl 0 rfl ?_
    refine z_get C 0 rfl i_X4_requireLoanable_X4 rfl 6 (by decide) m_X4_requireLoanable_f44 rfl rfl dX4_requireLoanable_23 ?_
    refine z_iload_n C dX4_requireLoanable_26 rfl 2 rfl ?_
    refine z_iald C 23 0 rfl rfl b (nI_clamp (by omega)) (vp_in_nI (by omega) (by omega)) (pap b) rfl dX4_requireLoanable_27 ?_
    refine z_iload C dX4_requireLoanable_28 4 rfl ?_
    refine z_icmp_lt C (tgt := 43) dX4_requireLoanable_30 (by decide) (fun c30_3 => ?_) (fun c30_3 => ?_)
    · skip
      exfalso
      first | omega | contradiction | exact h2 (Int32.not_le.mp (by assumption)) | exact h3 (Int32.not_le.mp (by assumption))
    · skip
      refine z_aload_n C dX4_requireLoanable_33 rfl 0 rfl ?_
      refine z_iload C dX4_requireLoanable_34 4 rfl ?_
      refine z_callVi C (T := Unit) (As := [.int x]) (rest := []) (ws' := fun _ => (wX ad cI cZ acc net tacc tnet flo bnd frm too amt pri wai byp ldr bor due plg clo pap cnd small price cut proc (nI mk) (nI lm) (nI le))) (c_X4_pledgeWorth l sa D cI cZ cL ad acc net tacc tnet flo bnd frm too amt pri wai byp ldr bor due plg clo pap cnd small price cut proc mk lm le x ) (cwV 1 C.2.2.2.2.1 gX4_requireLoanable_X4_pledgeWorth rfl rfl rfl (by decide +kernel) ⟨Nat.le_of_ble_eq_true rfl, Nat.le_of_ble_eq_true rfl⟩) 0 rfl rfl rfl (fun _ => zSub.full) zIn.full rfl (Nat.le_of_ble_eq_true rfl) ⟨Nat.le_of_ble_eq_true rfl, Nat.le_of_ble_eq_true rfl⟩ dX4_requireLoanable_36 (fun r_4 _ h_5 => ?_)
      obtain rfl : r_4 = (x * price * (1000 - cut) / 1000) := h_5
      refine z_iload_n C dX4_requireLoanable_39 rfl 3 rfl ?_
      refine z_icmp_ge C (tgt := 53) dX4_requireLoanable_40 (by decide) (fun c40_6 => ?_) (fun c40_6 => ?_)
      · skip
        refine z_aload_n C dX4_requireLoanable_53 rfl 0 rfl ?_
        refine z_get C 0 rfl i_X4_requireLoanable_X4 rfl 0 (by decide) m_X4_requireLoanable_f10 rfl rfl dX4_requireLoanable_54 ?_
        refine z_get C 1 rfl i_X4_requireLoanable_X3 rfl 0 (by decide) m_X4_requireLoanable_f73 rfl rfl dX4_requireLoanable_57 ?_
        refine z_iload_n C dX4_requireLoanable_60 rfl 1 rfl ?_
        refine z_iald C 6 0 rfl rfl d (nI_clamp (by omega)) (vp_in_nI (by omega) (by omega)) (acc d) rfl dX4_requireLoanable_61 ?_
        refine z_iload_n C dX4_requireLoanable_62 rfl 3 rfl ?_
        refine z_isub C (v := ((acc d) - am)) dX4_requireLoanable_63 rfl ?_
        refine z_aload_n C dX4_requireLoanable_64 rfl 0 rfl ?_
        refine z_get C 0 rfl i_X4_requireLoanable_X4 rfl 2 (by decide) m_X4_requireLoanable_f22 rfl rfl dX4_requireLoanable_65 ?_
        refine z_get C 3 rfl i_X4_requireLoanable_X0 rfl 0 (by decide) m_X4_requireLoanable_f91 rfl rfl dX4_requireLoanable_68 ?_
        refine z_iload_n C dX4_requireLoanable_71 rfl 1 rfl ?_
        refine z_iald C 10 0 rfl rfl d (nI_clamp (by omega)) (vp_in_nI (by omega) (by omega)) (flo d) rfl dX4_requireLoanable_72 ?_
        refine z_icmp_ge C (tgt := 86) dX4_requireLoanable_73 (by decide) (fun c73_7 => ?_) (fun c73_7 => ?_)
        · skip
          exact z_vret C () (by exact trivial) rfl (by decide) (by decide) dX4_requireLoanable_86
        · skip
          exfalso
          first | omega | contradiction | exact h2 (Int32.not_le.mp (by assumption)) | exact h3 (Int32.not_le.mp (by assumption))
      · skip
        exfalso
        first | omega | contradiction | exact h2 (Int32.not_le.mp (by assumption)) | exact h3 (Int32.not_le.mp (by assumption))
  · skip
    have n_8 : ¬ lm < 40 := fun q => c9_1 ((nI_ltI (a := lm) (b := 40) (by omega) (by omega)).mpr q)
    exfalso
    first | omega | contradiction | exact h2 (Int32.not_le.mp (by assumption)) | exact h3 (Int32.not_le.mp (by assumption))
set_option maxHeartbeats 4000000 in
set_option maxRecDepth 100000 in
theorem bad_requireLoanable (l : Launch) (hfl : l.stackTraces = false) (sa : Nat → Nat) (D : va_G) (cI cZ cL : ClassId) (ad : Nat → Nat) (acc net tacc tnet flo bnd frm too amt pri wai byp ldr bor due plg clo pap cnd : Nat → Int32) (small price cut proc : Int32) (mk lm le : Nat) (d : Nat) (b : Nat) (am : Int32) (x : Int32) (hd : d < 5) (hb : b < 5) (hlm : lm ≤ 40) (hbad : ¬ lm < 40 ∨ pap b < x ∨ x * price * (1000 - cut) / 1000 < am ∨ acc d - am < flo d) : zX sa D vwCl (zty cI cZ cL) l yX4_requireLoanable wsX4_requireLoanable ({ frames := 6, cells := 1, slots := 6, locals := 82 } : Room) [.ref (ad 0), .int (nI d), .int (nI b), .int am, .int x] (wX ad cI cZ acc net tacc tnet flo bnd frm too amt pri wai byp ldr bor due plg clo pap cnd small price cut proc (nI mk) (nI lm) (nI le)) "java/lang/IllegalStateException" 1 6 := by
  refine zX.of (ret := none) (cc := cX4_requireLoanable) (nL := 5) (own := RX4) (by decide +kernel) rfl [(0, .ref (ad 0)), (1, .int (nI d)), (2, .int (nI b)), (3, .int am), (4, .int x)] rfl (Nat.le_of_ble_eq_true rfl) rfl ?_
  intro A p e s m args below meth c C hmn ht
  refine z_aload_n C dX4_requireLoanable_0 rfl 0 rfl ?_
  refine z_get C 0 rfl i_X4_requireLoanable_X4 rfl 4 (by decide) m_X4_requireLoanable_f36 rfl rfl dX4_requireLoanable_1 ?_
  refine z_get C 5 rfl i_X4_requireLoanable_X1 rfl 4 (by decide) m_X4_requireLoanable_f169 rfl rfl dX4_requireLoanable_4 ?_
  refine z_bipush C (v := 40) dX4_requireLoanable_7 (by decide) ?_
  refine z_icmp_lt C (tgt := 22) dX4_requireLoanable_9 (by decide) (fun c9_1 => ?_) (fun c9_1 => ?_)
  · skip
    have n_2 : lm < 40 := (nI_ltI (a := lm) (b := 40) (by omega) (by omega)).mp c9_1
    refine z_aload_n C dX4_requireLoanable_22 rfl 0 rfl ?_
    refine z_get C 0 rfl i_X4_requireLoanable_X4 rfl 6 (by decide) m_X4_requireLoanable_f44 rfl rfl dX4_requireLoanable_23 ?_
    refine z_iload_n C dX4_requireLoanable_26 rfl 2 rfl ?_
    refine z_iald C 23 0 rfl rfl b (nI_clamp (by omega)) (vp_in_nI (by omega) (by omega)) (pap b) rfl dX4_requireLoanable_27 ?_
    refine z_iload C dX4_requireLoanable_28 4 rfl ?_
    refine z_icmp_lt C (tgt := 43) dX4_requireLoanable_30 (by decide) (fun c30_3 => ?_) (fun c30_3 => ?_)
    · skip
      exact z_throwS C (names := ["java/lang/RuntimeException", "java/lang/Exception"]) ht hfl rfl (by decide +kernel) (by decide +kernel) m_X4_requireLoanable_c77 m_X4_requireLoanable_n77 (is := 213) (text := "the pledge does not cover the loan") (by decide +kernel) (by decide +kernel) x_X4_requireLoanable_43_1 x_X4_requireLoanable_43_2 x_X4_requireLoanable_43_3 dX4_requireLoanable_43 dX4_requireLoanable_46 dX4_requireLoanable_47 dX4_requireLoanable_49 dX4_requireLoanable_52 ⟨Nat.le_of_ble_eq_true rfl, Nat.le_of_ble_eq_true rfl, Nat.le_of_ble_eq_true rfl, Nat.le_of_ble_eq_true rfl⟩ (by decide) (by decide)
    · skip
      refine z_aload_n C dX4_requireLoanable_33 rfl 0 rfl ?_
      refine z_iload C dX4_requireLoanable_34 4 rfl ?_
      refine z_callVi C (T := Unit) (As := [.int x]) (rest := []) (ws' := fun _ => (wX ad cI cZ acc net tacc tnet flo bnd frm too amt pri wai byp ldr bor due plg clo pap cnd small price cut proc (nI mk) (nI lm) (nI le))) (c_X4_pledgeWorth l sa D cI cZ cL ad acc net tacc tnet flo bnd frm too amt pri wai byp ldr bor due plg clo pap cnd small price cut proc mk lm le x ) (cwV 1 C.2.2.2.2.1 gX4_requireLoanable_X4_pledgeWorth rfl rfl rfl (by decide +kernel) ⟨Nat.le_of_ble_eq_true rfl, Nat.le_of_ble_eq_true rfl⟩) 0 rfl rfl rfl (fun _ => zSub.full) zIn.full rfl (Nat.le_of_ble_eq_true rfl) ⟨Nat.le_of_ble_eq_true rfl, Nat.le_of_ble_eq_true rfl⟩ dX4_requireLoanable_36 (fun r_4 _ h_5 => ?_)
      obtain rfl : r_4 = (x * price * (1000 - cut) / 1000) := h_5
      refine z_iload_n C dX4_requireLoanable_39 rfl 3 rfl ?_
      refine z_icmp_ge C (tgt := 53) dX4_requireLoanable_40 (by decide) (fun c40_6 => ?_) (fun c40_6 => ?_)
      · skip
        refine z_aload_n C dX4_requireLoanable_53 rfl 0 rfl ?_
        refine z_get C 0 rfl i_X4_requireLoanable_X4 rfl 0 (by decide) m_X4_requireLoanable_f10 rfl rfl dX4_requireLoanable_54 ?_
        refine z_get C 1 rfl i_X4_requireLoanable_X3 rfl 0 (by decide) m_X4_requireLoanable_f73 rfl rfl dX4_requireLoanable_57 ?_
        refine z_iload_n C dX4_requireLoanable_60 rfl 1 rfl ?_
        refine z_iald C 6 0 rfl rfl d (nI_clamp (by omega)) (vp_in_nI (by omega) (by omega)) (acc d) rfl dX4_requireLoanable_61 ?_
        refine z_iload_n C dX4_requireLoanable_62 rfl 3 rfl ?_
        refine z_isub C (v := ((acc d) - am)) dX4_requireLoanable_63 rfl ?_
        refine z_aload_n C dX4_requireLoanable_64 rfl 0 rfl ?_
        refine z_get C 0 rfl i_X4_requireLoanable_X4 rfl 2 (by decide) m_X4_requireLoanable_f22 rfl rfl dX4_requireLoanable_65 ?_
        refine z_get C 3 rfl i_X4_requireLoanable_X0 rfl 0 (by decide) m_X4_requireLoanable_f91 rfl rfl dX4_requireLoanable_68 ?_
        refine z_iload_n C dX4_requireLoanable_71 rfl 1 rfl ?_
        refine z_iald C 10 0 rfl rfl d (nI_clamp (by omega)) (vp_in_nI (by omega) (by omega)) (flo d) rfl dX4_requireLoanable_72 ?_
        refine z_icmp_ge C (tgt := 86) dX4_requireLoanable_73 (by decide) (fun c73_7 => ?_) (fun c73_7 => ?_)
        · skip
          exfalso
          exact hbad.elim (fun h => h (by omega)) (fun h => h.elim (fun h => c30_3 h) (fun h => h.elim (fun h => absurd c40_6 (Int32.not_le.mpr h)) (fun h => absurd c73_7 (Int32.not_le.mpr h))))
        · skip
          exact z_throwS C (names := ["java/lang/RuntimeException", "java/lang/Exception"]) ht hfl rfl (by decide +kernel) (by decide +kernel) m_X4_requireLoanable_c77 m_X4_requireLoanable_n77 (is := 215) (text := "the lender would be below its floor") (by decide +kernel) (by decide +kernel) x_X4_requireLoanable_76_1 x_X4_requireLoanable_76_2 x_X4_requireLoanable_76_3 dX4_requireLoanable_76 dX4_requireLoanable_79 dX4_requireLoanable_80 dX4_requireLoanable_82 dX4_requireLoanable_85 ⟨Nat.le_of_ble_eq_true rfl, Nat.le_of_ble_eq_true rfl, Nat.le_of_ble_eq_true rfl, Nat.le_of_ble_eq_true rfl⟩ (by decide) (by decide)
      · skip
        exact z_throwS C (names := ["java/lang/RuntimeException", "java/lang/Exception"]) ht hfl rfl (by decide +kernel) (by decide +kernel) m_X4_requireLoanable_c77 m_X4_requireLoanable_n77 (is := 213) (text := "the pledge does not cover the loan") (by decide +kernel) (by decide +kernel) x_X4_requireLoanable_43_1 x_X4_requireLoanable_43_2 x_X4_requireLoanable_43_3 dX4_requireLoanable_43 dX4_requireLoanable_46 dX4_requireLoanable_47 dX4_requireLoanable_49 dX4_requireLoanable_52 ⟨Nat.le_of_ble_eq_true rfl, Nat.le_of_ble_eq_true rfl, Nat.le_of_ble_eq_true rfl, Nat.le_of_ble_eq_true rfl⟩ (by decide) (by decide)
  · skip
    have n_8 : ¬ lm < 40 := fun q => c9_1 ((nI_ltI (a := lm) (b := 40) (by omega) (by omega)).mpr q)
    exact z_throwS C (names := ["java/lang/RuntimeException", "java/lang/Exception"]) ht hfl rfl (by decide +kernel) (by decide +kernel) m_X4_requireLoanable_c77 m_X4_requireLoanable_n77 (is := 208) (text := "there are no more loans to be had") (by decide +kernel) (by decide +kernel) x_X4_requireLoanable_12_1 x_X4_requireLoanable_12_2 x_X4_requireLoanable_12_3 dX4_requireLoanable_12 dX4_requireLoanable_15 dX4_requireLoanable_16 dX4_requireLoanable_18 dX4_requireLoanable_21 ⟨Nat.le_of_ble_eq_true rfl, Nat.le_of_ble_eq_true rfl, Nat.le_of_ble_eq_true rfl, Nat.le_of_ble_eq_true rfl⟩ (by decide) (by decide)
