theorem m_X4_fund_k65 : Cond.constant RX4 65 (1000000) ∈ wsX4_fund := by decide +kernel
theorem m_X4_fund_f10 : Cond.fieldLink RX4 10 "Queuefloat" "sums" "LQueuefloat$Sums;" ∈ wsX4_fund := by decide +kernel
theorem i_X4_fund_X4 : ∀ w ∈ wsX40, w ∈ wsX4_fund := by decide +kernel
theorem m_X4_fund_f73 : Cond.fieldLink RX4 73 "Queuefloat$Sums" "accountOf" "[I" ∈ wsX4_fund := by decide +kernel
theorem i_X4_fund_X3 : ∀ w ∈ wsX30, w ∈ wsX4_fund := by decide +kernel
theorem m_X4_fund_k76 : Cond.constant RX4 76 (100000000) ∈ wsX4_fund := by decide +kernel
theorem x_X4_fund_32_1 : ∀ w ∈ (vx_atS RX4 81 "java/lang/IllegalStateException" ["java/lang/RuntimeException", "java/lang/Exception"]).filter goodWord, w ∈ wsX4_fund := by decide +kernel
theorem x_X4_fund_32_2 : ∀ w ∈ (vx_atS RX4 81 "java/lang/IllegalStateException" ["java/lang/RuntimeException", "java/lang/Exception"]).filter (fun w => !goodWord w), w = .castable "java/lang/IllegalStateException" "java/lang/IllegalStateException" ∨ w ∈ zDs.map Cond.declares := by decide +kernel
theorem x_X4_fund_32_3 : ∀ w ∈ Cond.classLink RX4 77 "java/lang/IllegalStateException" :: Cond.initialized "java/lang/IllegalStateException" :: vx_atS RX4 81 "java/lang/IllegalStateException" ["java/lang/RuntimeException", "java/lang/Exception"], vx_ot w = true := by decide +kernel
theorem m_X4_fund_c77 : Cond.classLink RX4 77 "java/lang/IllegalStateException" ∈ wsX4_fund := by decide +kernel
theorem m_X4_fund_n77 : Cond.initialized "java/lang/IllegalStateException" ∈ wsX4_fund := by decide +kernel
theorem m_X4_setFloor_k84 : Cond.constant RX4 84 (-1000000) ∈ wsX4_setFloor := by decide +kernel
theorem m_X4_setFloor_f10 : Cond.fieldLink RX4 10 "Queuefloat" "sums" "LQueuefloat$Sums;" ∈ wsX4_setFloor := by decide +kernel
theorem i_X4_setFloor_X4 : ∀ w ∈ wsX40, w ∈ wsX4_setFloor := by decide +kernel
theorem m_X4_setFloor_f73 : Cond.fieldLink RX4 73 "Queuefloat$Sums" "accountOf" "[I" ∈ wsX4_setFloor := by decide +kernel
theorem i_X4_setFloor_X3 : ∀ w ∈ wsX30, w ∈ wsX4_setFloor := by decide +kernel
theorem m_X4_setFloor_l85 : Cond.methodLink RX4 85 Lib.Math.min.name ∈ wsX4_setFloor := by decide +kernel
theorem m_X4_setFloor_lsmin : Cond.static Lib.Math.min.name ∈ wsX4_setFloor := by decide +kernel
theorem m_X4_setFloor_lmath : Cond.initialized "java/lang/Math" ∈ wsX4_setFloor := by decide +kernel
theorem m_X4_setFloor_lcmin : Cond.code Lib.Math.min.name Lib.Math.min.code 2 (some .int) ∈ wsX4_setFloor := by decide +kernel
theorem m_X4_setFloor_f22 : Cond.fieldLink RX4 22 "Queuefloat" "limits" "LQueuefloat$Limits;" ∈ wsX4_setFloor := by decide +kernel
theorem m_X4_setFloor_f91 : Cond.fieldLink RX4 91 "Queuefloat$Limits" "floorOf" "[I" ∈ wsX4_setFloor := by decide +kernel
theorem i_X4_setFloor_X0 : ∀ w ∈ wsX00, w ∈ wsX4_setFloor := by decide +kernel
theorem m_X4_setBound_f10 : Cond.fieldLink RX4 10 "Queuefloat" "sums" "LQueuefloat$Sums;" ∈ wsX4_setBound := by decide +kernel
theorem i_X4_setBound_X4 : ∀ w ∈ wsX40, w ∈ wsX4_setBound := by decide +kernel
theorem m_X4_setBound_f101 : Cond.fieldLink RX4 101 "Queuefloat$Sums" "netPaid" "[I" ∈ wsX4_setBound := by decide +kernel
theorem i_X4_setBound_X3 : ∀ w ∈ wsX30, w ∈ wsX4_setBound := by decide +kernel
theorem m_X4_setBound_l104 : Cond.methodLink RX4 104 Lib.Math.max.name ∈ wsX4_setBound := by decide +kernel
theorem m_X4_setBound_lsmax : Cond.static Lib.Math.max.name ∈ wsX4_setBound := by decide +kernel
theorem m_X4_setBound_lmath : Cond.initialized "java/lang/Math" ∈ wsX4_setBound := by decide +kernel
theorem m_X4_setBound_lcmax : Cond.code Lib.Math.max.name Lib.Math.max.code 2 (some .int) ∈ wsX4_setBound := by decide +kernel
theorem m_X4_setBound_k65 : Cond.constant RX4 65 (1000000) ∈ wsX4_setBound := by decide +kernel
theorem m_X4_setBound_f22 : Cond.fieldLink RX4 22 "Queuefloat" "limits" "LQueuefloat$Limits;" ∈ wsX4_setBound := by decide +kernel
theorem m_X4_setBound_f107 : Cond.fieldLink RX4 107 "Queuefloat$Limits" "boundOf" "[I" ∈ wsX4_setBound := by decide +kernel
theorem i_X4_setBound_X0 : ∀ w ∈ wsX00, w ∈ wsX4_setBound := by decide +kernel
theorem m_X4_givePapers_f44 : Cond.fieldLink RX4 44 "Queuefloat" "papersOf" "[I" ∈ wsX4_givePapers := by decide +kernel
theorem i_X4_givePapers_X4 : ∀ w ∈ wsX40, w ∈ wsX4_givePapers := by decide +kernel
theorem m_X4_givePapers_k110 : Cond.constant RX4 110 (100000) ∈ wsX4_givePapers := by decide +kernel
theorem x_X4_givePapers_30_1 : ∀ w ∈ (vx_atS RX4 81 "java/lang/IllegalStateException" ["java/lang/RuntimeException", "java/lang/Exception"]).filter goodWord, w ∈ wsX4_givePapers := by decide +kernel
theorem x_X4_givePapers_30_2 : ∀ w ∈ (vx_atS RX4 81 "java/lang/IllegalStateException" ["java/lang/RuntimeException", "java/lang/Exception"]).filter (fun w => !goodWord w), w = .castable "java/lang/IllegalStateException" "java/lang/IllegalStateException" ∨ w ∈ zDs.map Cond.declares := by decide +kernel
theorem x_X4_givePapers_30_3 : ∀ w ∈ Cond.classLink RX4 77 "java/lang/IllegalStateException" :: Cond.initialized "java/lang/IllegalStateException" :: vx_atS RX4 81 "java/lang/IllegalStateException" ["java/lang/RuntimeException", "java/lang/Exception"], vx_ot w = true := by decide +kernel
theorem m_X4_givePapers_c77 : Cond.classLink RX4 77 "java/lang/IllegalStateException" ∈ wsX4_givePapers := by decide +kernel
theorem m_X4_givePapers_n77 : Cond.initialized "java/lang/IllegalStateException" ∈ wsX4_givePapers := by decide +kernel
theorem m_X4_account_f10 : Cond.fieldLink RX4 10 "Queuefloat" "sums" "LQueuefloat$Sums;" ∈ wsX4_account := by decide +kernel
theorem i_X4_account_X4 : ∀ w ∈ wsX40, w ∈ wsX4_account := by decide +kernel
theorem m_X4_account_f73 : Cond.fieldLink RX4 73 "Queuefloat$Sums" "accountOf" "[I" ∈ wsX4_account := by decide +kernel
theorem i_X4_account_X3 : ∀ w ∈ wsX30, w ∈ wsX4_account := by decide +kernel
theorem m_X4_papers_f44 : Cond.fieldLink RX4 44 "Queuefloat" "papersOf" "[I" ∈ wsX4_papers := by decide +kernel
theorem i_X4_papers_X4 : ∀ w ∈ wsX40, w ∈ wsX4_papers := by decide +kernel
theorem m_X4_isOpen_f40 : Cond.fieldLink RX4 40 "Queuefloat" "closed" "[Z" ∈ wsX4_isOpen := by decide +kernel
theorem i_X4_isOpen_X4 : ∀ w ∈ wsX40, w ∈ wsX4_isOpen := by decide +kernel
theorem m_X4_paid_f10 : Cond.fieldLink RX4 10 "Queuefloat" "sums" "LQueuefloat$Sums;" ∈ wsX4_paid := by decide +kernel
theorem i_X4_paid_X4 : ∀ w ∈ wsX40, w ∈ wsX4_paid := by decide +kernel
theorem m_X4_paid_f101 : Cond.fieldLink RX4 101 "Queuefloat$Sums" "netPaid" "[I" ∈ wsX4_paid := by decide +kernel
theorem i_X4_paid_X3 : ∀ w ∈ wsX30, w ∈ wsX4_paid := by decide +kernel
theorem m_X4_pay_k110 : Cond.constant RX4 110 (100000) ∈ wsX4_pay := by decide +kernel
theorem m_X4_pay_f29 : Cond.fieldLink RX4 29 "Queuefloat" "payments" "LQueuefloat$Payments;" ∈ wsX4_pay := by decide +kernel
theorem i_X4_pay_X4 : ∀ w ∈ wsX40, w ∈ wsX4_pay := by decide +kernel
theorem m_X4_pay_f113 : Cond.fieldLink RX4 113 "Queuefloat$Payments" "made" "I" ∈ wsX4_pay := by decide +kernel
theorem i_X4_pay_X2 : ∀ w ∈ wsX20, w ∈ wsX4_pay := by decide +kernel
theorem x_X4_pay_49_1 : ∀ w ∈ (vx_atS RX4 81 "java/lang/IllegalStateException" ["java/lang/RuntimeException", "java/lang/Exception"]).filter goodWord, w ∈ wsX4_pay := by decide +kernel
theorem x_X4_pay_49_2 : ∀ w ∈ (vx_atS RX4 81 "java/lang/IllegalStateException" ["java/lang/RuntimeException", "java/lang/Exception"]).filter (fun w => !goodWord w), w = .castable "java/lang/IllegalStateException" "java/lang/IllegalStateException" ∨ w ∈ zDs.map Cond.declares := by decide +kernel
theorem x_X4_pay_49_3 : ∀ w ∈ Cond.classLink RX4 77 "java/lang/IllegalStateException" :: Cond.initialized "java/lang/IllegalStateException" :: vx_atS RX4 81 "java/lang/IllegalStateException" ["java/lang/RuntimeException", "java/lang/Exception"], vx_ot w = true := by decide +kernel
theorem m_X4_pay_c77 : Cond.classLink RX4 77 "java/lang/IllegalStateException" ∈ wsX4_pay := by decide +kernel
theorem m_X4_pay_n77 : Cond.initialized "java/lang/IllegalStateException" ∈ wsX4_pay := by decide +kernel
theorem m_X4_drop_f29 : Cond.fieldLink RX4 29 "Queuefloat" "payments" "LQueuefloat$Payments;" ∈ wsX4_drop := by decide +kernel
theorem i_X4_drop_X4 : ∀ w ∈ wsX40, w ∈ wsX4_drop := by decide +kernel
theorem m_X4_drop_f125 : Cond.fieldLink RX4 125 "Queuefloat$Payments" "waits" "[Z" ∈ wsX4_drop := by decide +kernel
theorem i_X4_drop_X2 : ∀ w ∈ wsX20, w ∈ wsX4_drop := by decide +kernel
theorem x_X4_drop_17_1 : ∀ w ∈ (vx_atS RX4 81 "java/lang/IllegalStateException" ["java/lang/RuntimeException", "java/lang/Exception"]).filter goodWord, w ∈ wsX4_drop := by decide +kernel
theorem x_X4_drop_17_2 : ∀ w ∈ (vx_atS RX4 81 "java/lang/IllegalStateException" ["java/lang/RuntimeException", "java/lang/Exception"]).filter (fun w => !goodWord w), w = .castable "java/lang/IllegalStateException" "java/lang/IllegalStateException" ∨ w ∈ zDs.map Cond.declares := by decide +kernel
theorem x_X4_drop_17_3 : ∀ w ∈ Cond.classLink RX4 77 "java/lang/IllegalStateException" :: Cond.initialized "java/lang/IllegalStateException" :: vx_atS RX4 81 "java/lang/IllegalStateException" ["java/lang/RuntimeException", "java/lang/Exception"], vx_ot w = true := by decide +kernel
theorem m_X4_drop_c77 : Cond.classLink RX4 77 "java/lang/IllegalStateException" ∈ wsX4_drop := by decide +kernel
theorem m_X4_drop_n77 : Cond.initialized "java/lang/IllegalStateException" ∈ wsX4_drop := by decide +kernel
theorem m_X4_setSmall_k110 : Cond.constant RX4 110 (100000) ∈ wsX4_setSmall := by decide +kernel
theorem m_X4_setSmall_f51 : Cond.fieldLink RX4 51 "Queuefloat" "small" "I" ∈ wsX4_setSmall := by decide +kernel
theorem i_X4_setSmall_X4 : ∀ w ∈ wsX40, w ∈ wsX4_setSmall := by decide +kernel
theorem m_X4_queued_f29 : Cond.fieldLink RX4 29 "Queuefloat" "payments" "LQueuefloat$Payments;" ∈ wsX4_queued := by decide +kernel
theorem i_X4_queued_X4 : ∀ w ∈ wsX40, w ∈ wsX4_queued := by decide +kernel
theorem x_X4_queued_8_1 : ∀ w ∈ (vx_atS RX4 144 "java/lang/IndexOutOfBoundsException" ["java/lang/RuntimeException", "java/lang/Exception"]).filter goodWord, w ∈ wsX4_queued := by decide +kernel
theorem x_X4_queued_8_2 : ∀ w ∈ (vx_atS RX4 144 "java/lang/IndexOutOfBoundsException" ["java/lang/RuntimeException", "java/lang/Exception"]).filter (fun w => !goodWord w), w = .castable "java/lang/IndexOutOfBoundsException" "java/lang/IndexOutOfBoundsException" ∨ w ∈ zDs.map Cond.declares := by decide +kernel
theorem x_X4_queued_8_3 : ∀ w ∈ Cond.classLink RX4 140 "java/lang/IndexOutOfBoundsException" :: Cond.initialized "java/lang/IndexOutOfBoundsException" :: vx_atS RX4 144 "java/lang/IndexOutOfBoundsException" ["java/lang/RuntimeException", "java/lang/Exception"], vx_ot w = true := by decide +kernel
theorem m_X4_queued_c140 : Cond.classLink RX4 140 "java/lang/IndexOutOfBoundsException" ∈ wsX4_queued := by decide +kernel
theorem m_X4_queued_n140 : Cond.initialized "java/lang/IndexOutOfBoundsException" ∈ wsX4_queued := by decide +kernel
theorem m_X4_setPrice_f55 : Cond.fieldLink RX4 55 "Queuefloat" "paperPrice" "I" ∈ wsX4_setPrice := by decide +kernel
theorem i_X4_setPrice_X4 : ∀ w ∈ wsX40, w ∈ wsX4_setPrice := by decide +kernel
theorem m_X4_setPrice_f58 : Cond.fieldLink RX4 58 "Queuefloat" "paperCut" "I" ∈ wsX4_setPrice := by decide +kernel
theorem m_X4_lend_k110 : Cond.constant RX4 110 (100000) ∈ wsX4_lend := by decide +kernel
theorem m_X4_lend_f10 : Cond.fieldLink RX4 10 "Queuefloat" "sums" "LQueuefloat$Sums;" ∈ wsX4_lend := by decide +kernel
theorem i_X4_lend_X4 : ∀ w ∈ wsX40, w ∈ wsX4_lend := by decide +kernel
theorem m_X4_lend_f44 : Cond.fieldLink RX4 44 "Queuefloat" "papersOf" "[I" ∈ wsX4_lend := by decide +kernel
theorem m_X4_lend_f36 : Cond.fieldLink RX4 36 "Queuefloat" "market" "LQueuefloat$Loans;" ∈ wsX4_lend := by decide +kernel
theorem m_X4_canAny_f29 : Cond.fieldLink RX4 29 "Queuefloat" "payments" "LQueuefloat$Payments;" ∈ wsX4_canAny := by decide +kernel
theorem i_X4_canAny_X4 : ∀ w ∈ wsX40, w ∈ wsX4_canAny := by decide +kernel
theorem x_X4_canAny_12_1 : ∀ w ∈ (vx_atS RX4 81 "java/lang/IllegalStateException" ["java/lang/RuntimeException", "java/lang/Exception"]).filter goodWord, w ∈ wsX4_canAny := by decide +kernel
theorem x_X4_canAny_12_2 : ∀ w ∈ (vx_atS RX4 81 "java/lang/IllegalStateException" ["java/lang/RuntimeException", "java/lang/Exception"]).filter (fun w => !goodWord w), w = .castable "java/lang/IllegalStateException" "java/lang/IllegalStateException" ∨ w ∈ zDs.map Cond.declares := by decide +kernel
theorem x_X4_canAny_12_3 : ∀ w ∈ Cond.classLink RX4 77 "java/lang/IllegalStateException" :: Cond.initialized "java/lang/IllegalStateException" :: vx_atS RX4 81 "java/lang/IllegalStateException" ["java/lang/RuntimeException", "java/lang/Exception"], vx_ot w = true := by decide +kernel
theorem m_X4_canAny_c77 : Cond.classLink RX4 77 "java/lang/IllegalStateException" ∈ wsX4_canAny := by decide +kernel
theorem m_X4_canAny_n77 : Cond.initialized "java/lang/IllegalStateException" ∈ wsX4_canAny := by decide +kernel
set_option maxHeartbeats 4000000 in
set_option maxRecDepth 100000 in
theorem c_X4_fund_ok (l : Launch) (sa : Nat → Nat) (D : va_G) (cI cZ cL : ClassId) (ad : Nat → Nat) (acc net tacc tnet flo bnd frm too amt pri wai byp ldr bor due plg clo pap cnd : Nat → Int32) (small price cut proc : Int32) (mk lm le : Nat) (b : Nat) (c9 : Int32) (hb : b < 5) (h1 : ¬ c9 < 1) (h2 : ¬ 1000000 < c9) (hcl : clo b = 0) (h3 : acc b + c9 ≤ 100000000) : zMi (T := Unit) sa D vwCl (zty cI cZ cL) l yX4_fund wsX4_fund ({ frames := 7, cells := 0, slots := 0, locals := 104 } : Room) [.ref (ad 0), .int (nI b), .int c9] (wX ad cI cZ acc net tacc tnet flo bnd frm too amt pri wai byp ldr bor due plg clo pap cnd small price cut proc (nI mk) (nI lm) (nI le)) (fun r9 _ => r9 = (acc b + c9)) (fun _ => (wX ad cI cZ (upd acc b (acc b + c9)) net tacc tnet flo bnd frm too amt pri wai byp ldr bor due plg clo pap cnd small price cut proc (nI mk) (nI lm) (nI le))) 0 0 := by
  refine zMi.of (ret := (some .int)) (cc := cX4_fund) (nL := 3) (own := RX4) (by decide +kernel) rfl [(0, .ref (ad 0)), (1, .int (nI b)), (2, .int c9)] rfl (Nat.le_of_ble_eq_true rfl) rfl ?_
  intro A p e s m args below meth c C hmn
  refine z_iload_n C dX4_fund_0 rfl 1 rfl ?_
  refine z_callSv C (T := Unit) (As := [.int (nI b)]) (rest := []) (ws' := fun _ => (wX ad cI cZ acc net tacc tnet flo bnd frm too amt pri wai byp ldr bor due plg clo pap cnd small price cut proc (nI mk) (nI lm) (nI le))) (ok_requireBank l sa D cI cZ cL  b (by first | assumption | omega)) (va_cwS 1 C.2.2.2.2.1 gX4_fund_X4_requireBank rfl rfl rfl (by decide +kernel) ⟨Nat.le_of_ble_eq_true rfl, Nat.le_of_ble_eq_true rfl⟩) (fun _ => zSub.none) zIn.none rfl (Nat.le_of_ble_eq_true rfl) ⟨Nat.le_of_ble_eq_true rfl, Nat.le_of_ble_eq_true rfl⟩ dX4_fund_1 (fun _ _ => ?_)
  refine z_iload_n C dX4_fund_4 rfl 2 rfl ?_
  refine z_iconst C (v := 1) dX4_fund_5 (by decide) ?_
  refine z_ldc C m_X4_fund_k65 dX4_fund_6 ?_
  refine z_callSv C (T := Unit) (As := [.int c9, .int 1, .int 1000000]) (rest := []) (ws' := fun _ => (wX ad cI cZ acc net tacc tnet flo bnd frm too amt pri wai byp ldr bor due plg clo pap cnd small price cut proc (nI mk) (nI lm) (nI le))) (ok_requireRange l sa D cI cZ cL  c9 1 1000000 (by first | assumption | omega) (by first | assumption | omega)) (va_cwS 3 C.2.2.2.2.1 gX4_fund_X4_requireRange rfl rfl rfl (by decide +kernel) ⟨Nat.le_of_ble_eq_true rfl, Nat.le_of_ble_eq_true rfl⟩) (fun _ => zSub.none) zIn.none rfl (Nat.le_of_ble_eq_true rfl) ⟨Nat.le_of_ble_eq_true rfl, Nat.le_of_ble_eq_true rfl⟩ dX4_fund_8 (fun _ _ => ?_)
  refine z_aload_n C dX4_fund_11 rfl 0 rfl ?_
  refine z_iload_n C dX4_fund_12 rfl 1 rfl ?_
  refine z_callVv C (T := Unit) (As := [.int (nI b)]) (rest := []) (ws' := fun _ => (wX ad cI cZ acc net tacc tnet flo bnd frm too amt pri wai byp ldr bor due plg clo pap cnd small price cut proc (nI mk) (nI lm) (nI le))) (ok_requireOpen l sa D cI cZ cL ad acc net tacc tnet flo bnd frm too amt pri wai byp ldr bor due plg clo pap cnd small price cut proc mk lm le b (by first | assumption | omega) (by first | assumption | omega)) (cwV 1 C.2.2.2.2.1 gX4_fund_X4_requireOpen rfl rfl rfl (by decide +kernel) ⟨Nat.le_of_ble_eq_true rfl, Nat.le_of_ble_eq_true rfl⟩) 0 rfl rfl rfl (fun _ => zSub.full) zIn.full rfl (Nat.le_of_ble_eq_true rfl) ⟨Nat.le_of_ble_eq_true rfl, Nat.le_of_ble_eq_true rfl⟩ dX4_fund_13 (fun _ _ => ?_)
  refine z_aload_n C dX4_fund_16 rfl 0 rfl ?_
  refine z_get C 0 rfl i_X4_fund_X4 rfl 0 (by decide) m_X4_fund_f10 rfl rfl dX4_fund_17 ?_
  refine z_get C 1 rfl i_X4_fund_X3 rfl 0 (by decide) m_X4_fund_f73 rfl rfl dX4_fund_20 ?_
  refine z_iload_n C dX4_fund_23 rfl 1 rfl ?_
  refine z_iald C 6 0 rfl rfl b (nI_clamp (by omega)) (vp_in_nI (by omega) (by omega)) (acc b) rfl dX4_fund_24 ?_
  refine z_iload_n C dX4_fund_25 rfl 2 rfl ?_
  refine z_iadd C (v := ((acc b) + c9)) dX4_fund_26 rfl ?_
  refine z_ldc C m_X4_fund_k76 dX4_fund_27 ?_
  refine z_icmp_le C (tgt := 42) dX4_fund_29 (by decide) (fun c29_1 => ?_) (fun c29_1 => ?_)
  · skip
    refine z_aload_n C dX4_fund_42 rfl 0 rfl ?_
    refine z_get C 0 rfl i_X4_fund_X4 rfl 0 (by decide) m_X4_fund_f10 rfl rfl dX4_fund_43 ?_
    refine z_get C 1 rfl i_X4_fund_X3 rfl 0 (by decide) m_X4_fund_f73 rfl rfl dX4_fund_46 ?_
    refine z_iload_n C dX4_fund_49 rfl 1 rfl ?_
    refine z_dup2 C dX4_fund_50 rfl rfl ?_
    refine z_iald C 6 0 rfl rfl b (nI_clamp (by omega)) (vp_in_nI (by omega) (by omega)) (acc b) rfl dX4_fund_51 ?_
    refine z_iload_n C dX4_fund_52 rfl 2 rfl ?_
    refine z_iadd C (v := ((acc b) + c9)) dX4_fund_53 rfl ?_
    refine z_iast C 6 0 rfl rfl b (nI_clamp (by omega)) (vp_in_nI (by omega) (by omega)) ((acc b) + c9) rfl dX4_fund_54 (wX ad cI cZ (upd acc b ((acc b) + c9)) net tacc tnet flo bnd frm too amt pri wai byp ldr bor due plg clo pap cnd small price cut proc (nI mk) (nI lm) (nI le)) rfl ?_
    refine z_aload_n C dX4_fund_55 rfl 0 rfl ?_
    refine z_get C 0 rfl i_X4_fund_X4 rfl 0 (by decide) m_X4_fund_f10 rfl rfl dX4_fund_56 ?_
    refine z_get C 1 rfl i_X4_fund_X3 rfl 0 (by decide) m_X4_fund_f73 rfl rfl dX4_fund_59 ?_
    refine z_iload_n C dX4_fund_62 rfl 1 rfl ?_
    refine z_iald C 6 0 rfl rfl b (nI_clamp (by omega)) (vp_in_nI (by omega) (by omega)) ((upd acc b ((acc b) + c9)) b) rfl dX4_fund_63 ?_
    exact z_iret C () (by simp [upd]) rfl (by decide) (by decide) dX4_fund_64
  · skip
    exfalso
    first | omega | contradiction | exact absurd (by assumption) (Int32.not_le.mpr (by assumption))
set_option maxHeartbeats 4000000 in
set_option maxRecDepth 100000 in
theorem c_X4_fund_b1 (l : Launch) (hfl : l.stackTraces = false) (sa : Nat → Nat) (D : va_G) (cI cZ cL : ClassId) (ad : Nat → Nat) (acc net tacc tnet flo bnd frm too amt pri wai byp ldr bor due plg clo pap cnd : Nat → Int32) (small price cut proc : Int32) (mk lm le : Nat) (b : Int32) (c9 : Int32) (hb : b < 0 ∨ 5 ≤ b) : zX sa D vwCl (zty cI cZ cL) l yX4_fund wsX4_fund ({ frames := 7, cells := 1, slots := 6, locals := 102 } : Room) [.ref (ad 0), .int b, .int c9] (wX ad cI cZ acc net tacc tnet flo bnd frm too amt pri wai byp ldr bor due plg clo pap cnd small price cut proc (nI mk) (nI lm) (nI le)) "java/lang/IndexOutOfBoundsException" 1 6 := by
  refine zX.of (ret := (some .int)) (cc := cX4_fund) (nL := 3) (own := RX4) (by decide +kernel) rfl [(0, .ref (ad 0)), (1, .int b), (2, .int c9)] rfl (Nat.le_of_ble_eq_true rfl) rfl ?_
  intro A p e s m args below meth c C hmn ht
  refine z_iload_n C dX4_fund_0 rfl 1 rfl ?_
  refine z_callSx C (As := [.int b]) (rest := []) (bad_requireBank l hfl sa D cI cZ cL  b (by first | assumption | omega)) (va_cwS 1 C.2.2.2.2.1 gX4_fund_X4_requireBank rfl rfl rfl (by decide +kernel) ⟨Nat.le_of_ble_eq_true rfl, Nat.le_of_ble_eq_true rfl⟩) zSub.none rfl (Nat.le_of_ble_eq_true rfl) ⟨Nat.le_of_ble_eq_true rfl, Nat.le_of_ble_eq_true rfl⟩ dX4_fund_1 ?_
  exact z_out C ht (by decide) (by decide)
set_option maxHeartbeats 4000000 in
set_option maxRecDepth 100000 in
theorem c_X4_fund_b2 (l : Launch) (hfl : l.stackTraces = false) (sa : Nat → Nat) (D : va_G) (cI cZ cL : ClassId) (ad : Nat → Nat) (acc net tacc tnet flo bnd frm too amt pri wai byp ldr bor due plg clo pap cnd : Nat → Int32) (small price cut proc : Int32) (mk lm le : Nat) (b : Nat) (c9 : Int32) (hb : b < 5) (hbad : c9 < 1 ∨ 1000000 < c9) : zX sa D vwCl (zty cI cZ cL) l yX4_fund wsX4_fund ({ frames := 7, cells := 1, slots := 6, locals := 104 } : Room) [.ref (ad 0), .int (nI b), .int c9] (wX ad cI cZ acc net tacc tnet flo bnd frm too amt pri wai byp ldr bor due plg clo pap cnd small price cut proc (nI mk) (nI lm) (nI le)) "java/lang/IllegalArgumentException" 1 6 := by
  refine zX.of (ret := (some .int)) (cc := cX4_fund) (nL := 3) (own := RX4) (by decide +kernel) rfl [(0, .ref (ad 0)), (1, .int (nI b)), (2, .int c9)] rfl (Nat.le_of_ble_eq_true rfl) rfl ?_
  intro A p e s m args below meth c C hmn ht
  refine z_iload_n C dX4_fund_0 rfl 1 rfl ?_
  refine z_callSv C (T := Unit) (As := [.int (nI b)]) (rest := []) (ws' := fun _ => (wX ad cI cZ acc net tacc tnet flo bnd frm too amt pri wai byp ldr bor due plg clo pap cnd small price cut proc (nI mk) (nI lm) (nI le))) (ok_requireBank l sa D cI cZ cL  b (by first | assumption | omega)) (va_cwS 1 C.2.2.2.2.1 gX4_fund_X4_requireBank rfl rfl rfl (by decide +kernel) ⟨Nat.le_of_ble_eq_true rfl, Nat.le_of_ble_eq_true rfl⟩) (fun _ => zSub.none) zIn.none rfl (Nat.le_of_ble_eq_true rfl) ⟨Nat.le_of_ble_eq_true rfl, Nat.le_of_ble_eq_true rfl⟩ dX4_fund_1 (fun _ _ => ?_)
  refine z_iload_n C dX4_fund_4 rfl 2 rfl ?_
  refine z_iconst C (v := 1) dX4_fund_5 (by decide) ?_
  refine z_ldc C m_X4_fund_k65 dX4_fund_6 ?_
  refine z_callSx C (As := [.int c9, .int 1, .int 1000000]) (rest := []) (bad_requireRange l hfl sa D cI cZ cL  c9 1 1000000 (by first | assumption | omega)) (va_cwS 3 C.2.2.2.2.1 gX4_fund_X4_requireRange rfl rfl rfl (by decide +kernel) ⟨Nat.le_of_ble_eq_true rfl, Nat.le_of_ble_eq_true rfl⟩) zSub.none rfl (Nat.le_of_ble_eq_true rfl) ⟨Nat.le_of_ble_eq_true rfl, Nat.le_of_ble_eq_true rfl⟩ dX4_fund_8 ?_
  exact z_out C ht (by decide) (by decide)
set_option maxHeartbeats 4000000 in
set_option maxRecDepth 100000 in
theorem c_X4_fund_b3 (l : Launch) (hfl : l.stackTraces = false) (sa : Nat → Nat) (D : va_G) (cI cZ cL : ClassId) (ad : Nat → Nat) (acc net tacc tnet flo bnd frm too amt pri wai byp ldr bor due plg clo pap cnd : Nat → Int32) (small price cut proc : Int32) (mk lm le : Nat) (b : Nat) (c9 : Int32) (hb : b < 5) (h1 : ¬ c9 < 1) (h2 : ¬ 1000000 < c9) (hbad : ¬ (clo b = 0 ∧ acc b + c9 ≤ 100000000)) : zX sa D vwCl (zty cI cZ cL) l yX4_fund wsX4_fund ({ frames := 7, cells := 1, slots := 6, locals := 104 } : Room) [.ref (ad 0), .int (nI b), .int c9] (wX ad cI cZ acc net tacc tnet flo bnd frm too amt pri wai byp ldr bor due plg clo pap cnd small price cut proc (nI mk) (nI lm) (nI le)) "java/lang/IllegalStateException" 1 6 := by
  refine zX.of (ret := (some .int)) (cc := cX4_fund) (nL := 3) (own := RX4) (by decide +kernel) rfl [(0, .ref (ad 0)), (1, .int (nI b)), (2, .int c9)] rfl (Nat.le_of_ble_eq_true rfl) rfl ?_
  intro A p e s m args below meth c C hmn ht
  refine z_iload_n C dX4_fund_0 rfl 1 rfl ?_
  refine z_callSv C (T := Unit) (As := [.int (nI b)]) (rest := []) (ws' := fun _ => (wX ad cI cZ acc net tacc tnet flo bnd frm too amt pri wai byp ldr bor due plg clo pap cnd small price cut proc (nI mk) (nI lm) (nI le))) (ok_requireBank l sa D cI cZ cL  b (by first | assumption | omega)) (va_cwS 1 C.2.2.2.2.1 gX4_fund_X4_requireBank rfl rfl rfl (by decide +kernel) ⟨Nat.le_of_ble_eq_true rfl, Nat.le_of_ble_eq_true rfl⟩) (fun _ => zSub.none) zIn.none rfl (Nat.le_of_ble_eq_true rfl) ⟨Nat.le_of_ble_eq_true rfl, Nat.le_of_ble_eq_true rfl⟩ dX4_fund_1 (fun _ _ => ?_)
  refine z_iload_n C dX4_fund_4 rfl 2 rfl ?_
  refine z_iconst C (v := 1) dX4_fund_5 (by decide) ?_
  refine z_ldc C m_X4_fund_k65 dX4_fund_6 ?_
  refine z_callSv C (T := Unit) (As := [.int c9, .int 1, .int 1000000]) (rest := []) (ws' := fun _ => (wX ad cI cZ acc net tacc tnet flo bnd frm too amt pri wai byp ldr bor due plg clo pap cnd small price cut proc (nI mk) (nI lm) (nI le))) (ok_requireRange l sa D cI cZ cL  c9 1 1000000 (by first | assumption | omega) (by first | assumption | omega)) (va_cwS 3 C.2.2.2.2.1 gX4_fund_X4_requireRange rfl rfl rfl (by decide +kernel) ⟨Nat.le_of_ble_eq_true rfl, Nat.le_of_ble_eq_true rfl⟩) (fun _ => zSub.none) zIn.none rfl (Nat.le_of_ble_eq_true rfl) ⟨Nat.le_of_ble_eq_true rfl, Nat.le_of_ble_eq_true rfl⟩ dX4_fund_8 (fun _ _ => ?_)
  refine z_aload_n C dX4_fund_11 rfl 0 rfl ?_
  refine z_iload_n C dX4_fund_12 rfl 1 rfl ?_
  refine z_case (clo b = 0) (fun hp_1 => ?_) (fun hp_1 => ?_)
  · skip
    refine z_callVv C (T := Unit) (As := [.int (nI b)]) (rest := []) (ws' := fun _ => (wX ad cI cZ acc net tacc tnet flo bnd frm too amt pri wai byp ldr bor due plg clo pap cnd small price cut proc (nI mk) (nI lm) (nI le))) (ok_requireOpen l sa D cI cZ cL ad acc net tacc tnet flo bnd frm too amt pri wai byp ldr bor due plg clo pap cnd small price cut proc mk lm le b (by first | assumption | omega) (by first | assumption | omega)) (cwV 1 C.2.2.2.2.1 gX4_fund_X4_requireOpen rfl rfl rfl (by decide +kernel) ⟨Nat.le_of_ble_eq_true rfl, Nat.le_of_ble_eq_true rfl⟩) 0 rfl rfl rfl (fun _ => zSub.full) zIn.full rfl (Nat.le_of_ble_eq_true rfl) ⟨Nat.le_of_ble_eq_true rfl, Nat.le_of_ble_eq_true rfl⟩ dX4_fund_13 (fun _ _ => ?_)
    refine z_aload_n C dX4_fund_16 rfl 0 rfl ?_
    refine z_get C 0 rfl i_X4_fund_X4 rfl 0 (by decide) m_X4_fund_f10 rfl rfl dX4_fund_17 ?_
    refine z_get C 1 rfl i_X4_fund_X3 rfl 0 (by decide) m_X4_fund_f73 rfl rfl dX4_fund_20 ?_
    refine z_iload_n C dX4_fund_23 rfl 1 rfl ?_
    refine z_iald C 6 0 rfl rfl b (nI_clamp (by omega)) (vp_in_nI (by omega) (by omega)) (acc b) rfl dX4_fund_24 ?_
    refine z_iload_n C dX4_fund_25 rfl 2 rfl ?_
    refine z_iadd C (v := ((acc b) + c9)) dX4_fund_26 rfl ?_
    refine z_ldc C m_X4_fund_k76 dX4_fund_27 ?_
    refine z_icmp_le C (tgt := 42) dX4_fund_29 (by decide) (fun c29_2 => ?_) (fun c29_2 => ?_)
    · skip
      refine z_aload_n C dX4_fund_42 rfl 0 rfl ?_
      refine z_get C 0 rfl i_X4_fund_X4 rfl 0 (by decide) m_X4_fund_f10 rfl rfl dX4_fund_43 ?_
      refine z_get C 1 rfl i_X4_fund_X3 rfl 0 (by decide) m_X4_fund_f73 rfl rfl dX4_fund_46 ?_
      refine z_iload_n C dX4_fund_49 rfl 1 rfl ?_
      refine z_dup2 C dX4_fund_50 rfl rfl ?_
      refine z_iald C 6 0 rfl rfl b (nI_clamp (by omega)) (vp_in_nI (by omega) (by omega)) (acc b) rfl dX4_fund_51 ?_
      refine z_iload_n C dX4_fund_52 rfl 2 rfl ?_
      refine z_iadd C (v := ((acc b) + c9)) dX4_fund_53 rfl ?_
      refine z_iast C 6 0 rfl rfl b (nI_clamp (by omega)) (vp_in_nI (by omega) (by omega)) ((acc b) + c9) rfl dX4_fund_54 (wX ad cI cZ (upd acc b ((acc b) + c9)) net tacc tnet flo bnd frm too amt pri wai byp ldr bor due plg clo pap cnd small price cut proc (nI mk) (nI lm) (nI le)) rfl ?_
      refine z_aload_n C dX4_fund_55 rfl 0 rfl ?_
      refine z_get C 0 rfl i_X4_fund_X4 rfl 0 (by decide) m_X4_fund_f10 rfl rfl dX4_fund_56 ?_
      refine z_get C 1 rfl i_X4_fund_X3 rfl 0 (by decide) m_X4_fund_f73 rfl rfl dX4_fund_59 ?_
      refine z_iload_n C dX4_fund_62 rfl 1 rfl ?_
      refine z_iald C 6 0 rfl rfl b (nI_clamp (by omega)) (vp_in_nI (by omega) (by omega)) ((upd acc b ((acc b) + c9)) b) rfl dX4_fund_63 ?_
      exfalso
      exact hbad ⟨by assumption, by assumption⟩
    · skip
      exact z_throwS C (names := ["java/lang/RuntimeException", "java/lang/Exception"]) ht hfl rfl (by decide +kernel) (by decide +kernel) m_X4_fund_c77 m_X4_fund_n77 (is := 79) (text := "the account would be too large") (by decide +kernel) (by decide +kernel) x_X4_fund_32_1 x_X4_fund_32_2 x_X4_fund_32_3 dX4_fund_32 dX4_fund_35 dX4_fund_36 dX4_fund_38 dX4_fund_41 ⟨Nat.le_of_ble_eq_true rfl, Nat.le_of_ble_eq_true rfl, Nat.le_of_ble_eq_true rfl, Nat.le_of_ble_eq_true rfl⟩ (by decide) (by decide)
  · skip
    refine z_callVx C (As := [.int (nI b)]) (rest := []) (bad_requireOpen l hfl sa D cI cZ cL ad acc net tacc tnet flo bnd frm too amt pri wai byp ldr bor due plg clo pap cnd small price cut proc mk lm le b (by first | assumption | omega) (by first | assumption | omega)) (cwV 1 C.2.2.2.2.1 gX4_fund_X4_requireOpen rfl rfl rfl (by decide +kernel) ⟨Nat.le_of_ble_eq_true rfl, Nat.le_of_ble_eq_true rfl⟩) 0 rfl rfl rfl zSub.full rfl (Nat.le_of_ble_eq_true rfl) ⟨Nat.le_of_ble_eq_true rfl, Nat.le_of_ble_eq_true rfl⟩ dX4_fund_13 ?_
    exact z_out C ht (by decide) (by decide)
set_option maxHeartbeats 4000000 in
set_option maxRecDepth 100000 in
theorem c_X4_setFloor_ok (l : Launch) (sa : Nat → Nat) (D : va_G) (cI cZ cL : ClassId) (ad : Nat → Nat) (acc net tacc tnet flo bnd frm too amt pri wai byp ldr bor due plg clo pap cnd : Nat → Int32) (small price cut proc : Int32) (mk lm le : Nat) (b : Nat) (f : Int32) (hb : b < 5) (h1 : ¬ f < -1000000) (h2 : ¬ 0 < f) (h3 : ¬ acc b < f) : zMi (T := Unit) sa D vwCl (zty cI cZ cL) l yX4_setFloor wsX4_setFloor ({ frames := 7, cells := 0, slots := 0, locals := 104 } : Room) [.ref (ad 0), .int (nI b), .int f] (wX ad cI cZ acc net tacc tnet flo bnd frm too amt pri wai byp ldr bor due plg clo pap cnd small price cut proc (nI mk) (nI lm) (nI le)) (fun r9 _ => r9 = (flo b)) (fun _ => (wX ad cI cZ acc net tacc tnet (upd flo b f) bnd frm too amt pri wai byp ldr bor due plg clo pap cnd small price cut proc (nI mk) (nI lm) (nI le))) 0 0 := by
  refine zMi.of (ret := (some .int)) (cc := cX4_setFloor) (nL := 4) (own := RX4) (by decide +kernel) rfl [(0, .ref (ad 0)), (1, .int (nI b)), (2, .int f)] rfl (Nat.le_of_ble_eq_true rfl) rfl ?_
  intro A p e s m args below meth c C hmn
  refine z_iload_n C dX4_setFloor_0 rfl 1 rfl ?_
  refine z_callSv C (T := Unit) (As := [.int (nI b)]) (rest := []) (ws' := fun _ => (wX ad cI cZ acc net tacc tnet flo bnd frm too amt pri wai byp ldr bor due plg clo pap cnd small price cut proc (nI mk) (nI lm) (nI le))) (ok_requireBank l sa D cI cZ cL  b (by first | assumption | omega)) (va_cwS 1 C.2.2.2.2.1 gX4_setFloor_X4_requireBank rfl rfl rfl (by decide +kernel) ⟨Nat.le_of_ble_eq_true rfl, Nat.le_of_ble_eq_true rfl⟩) (fun _ => zSub.none) zIn.none rfl (Nat.le_of_ble_eq_true rfl) ⟨Nat.le_of_ble_eq_true rfl, Nat.le_of_ble_eq_true rfl⟩ dX4_setFloor_1 (fun _ _ => ?_)
  refine z_iload_n C dX4_setFloor_4 rfl 2 rfl ?_
  refine z_ldc C m_X4_setFloor_k84 dX4_setFloor_5 ?_
  refine z_iconst C (v := 0) dX4_setFloor_7 (by decide) ?_
  refine z_aload_n C dX4_setFloor_8 rfl 0 rfl ?_
  refine z_get C 0 rfl i_X4_setFloor_X4 rfl 0 (by decide) m_X4_setFloor_f10 rfl rfl dX4_setFloor_9 ?_
  refine z_get C 1 rfl i_X4_setFloor_X3 rfl 0 (by decide) m_X4_setFloor_f73 rfl rfl dX4_setFloor_12 ?_
  refine z_iload_n C dX4_setFloor_15 rfl 1 rfl ?_
  refine z_iald C 6 0 rfl rfl b (nI_clamp (by omega)) (vp_in_nI (by omega) (by omega)) (acc b) rfl dX4_setFloor_16 ?_
  refine z_mmin C m_X4_setFloor_l85 m_X4_setFloor_lsmin m_X4_setFloor_lmath m_X4_setFloor_lcmin ⟨Nat.le_of_ble_eq_true rfl, Nat.le_of_ble_eq_true rfl, Nat.le_of_ble_eq_true rfl, Nat.le_of_ble_eq_true rfl⟩ (v := (if (acc b) < 0 then (acc b) else 0)) dX4_setFloor_17 rfl ?_
  refine z_callSv C (T := Unit) (As := [.int f, .int (-1000000), .int (if (acc b) < 0 then (acc b) else 0)]) (rest := []) (ws' := fun _ => (wX ad cI cZ acc net tacc tnet flo bnd frm too amt pri wai byp ldr bor due plg clo pap cnd small price cut proc (nI mk) (nI lm) (nI le))) (ok_requireRange l sa D cI cZ cL  f (-1000000) (if (acc b) < 0 then (acc b) else 0) (by first | assumption | omega) (by split <;> assumption)) (va_cwS 3 C.2.2.2.2.1 gX4_setFloor_X4_requireRange rfl rfl rfl (by decide +kernel) ⟨Nat.le_of_ble_eq_true rfl, Nat.le_of_ble_eq_true rfl⟩) (fun _ => zSub.none) zIn.none rfl (Nat.le_of_ble_eq_true rfl) ⟨Nat.le_of_ble_eq_true rfl, Nat.le_of_ble_eq_true rfl⟩ dX4_setFloor_20 (fun _ _ => ?_)
  refine z_aload_n C dX4_setFloor_23 rfl 0 rfl ?_
  refine z_get C 0 rfl i_X4_setFloor_X4 rfl 2 (by decide) m_X4_setFloor_f22 rfl rfl dX4_setFloor_24 ?_
  refine z_get C 3 rfl i_X4_setFloor_X0 rfl 0 (by decide) m_X4_setFloor_f91 rfl rfl dX4_setFloor_27 ?_
  refine z_iload_n C dX4_setFloor_30 rfl 1 rfl ?_
  refine z_iald C 10 0 rfl rfl b (nI_clamp (by omega)) (vp_in_nI (by omega) (by omega)) (flo b) rfl dX4_setFloor_31 ?_
  refine z_istore_n C dX4_setFloor_32 rfl (by decide) [(0, .ref (ad 0)), (1, .int (nI b)), (2, .int f), (3, .int (flo b))] [1, 2, 3, 0] rfl ?_
  refine z_aload_n C dX4_setFloor_33 rfl 0 rfl ?_
  refine z_get C 0 rfl i_X4_setFloor_X4 rfl 2 (by decide) m_X4_setFloor_f22 rfl rfl dX4_setFloor_34 ?_
  refine z_get C 3 rfl i_X4_setFloor_X0 rfl 0 (by decide) m_X4_setFloor_f91 rfl rfl dX4_setFloor_37 ?_
  refine z_iload_n C dX4_setFloor_40 rfl 1 rfl ?_
  refine z_iload_n C dX4_setFloor_41 rfl 2 rfl ?_
  refine z_iast C 10 0 rfl rfl b (nI_clamp (by omega)) (vp_in_nI (by omega) (by omega)) f rfl dX4_setFloor_42 (wX ad cI cZ acc net tacc tnet (upd flo b f) bnd frm too amt pri wai byp ldr bor due plg clo pap cnd small price cut proc (nI mk) (nI lm) (nI le)) rfl ?_
  refine z_iload_n C dX4_setFloor_43 rfl 3 rfl ?_
  exact z_iret C () rfl rfl (by decide) (by decide) dX4_setFloor_44
set_option maxHeartbeats 4000000 in
set_option maxRecDepth 100000 in
theorem c_X4_setFloor_b1 (l : Launch) (hfl : l.stackTraces = false) (sa : Nat → Nat) (D : va_G) (cI cZ cL : ClassId) (ad : Nat → Nat) (acc net tacc tnet flo bnd frm too amt pri wai byp ldr bor due plg clo pap cnd : Nat → Int32) (small price cut proc : Int32) (mk lm le : Nat) (b : Int32) (f : Int32) (hb : b < 0 ∨ 5 ≤ b) : zX sa D vwCl (zty cI cZ cL) l yX4_setFloor wsX4_setFloor ({ frames := 7, cells := 1, slots := 6, locals := 102 } : Room) [.ref (ad 0), .int b, .int f] (wX ad cI cZ acc net tacc tnet flo bnd frm too amt pri wai byp ldr bor due plg clo pap cnd small price cut proc (nI mk) (nI lm) (nI le)) "java/lang/IndexOutOfBoundsException" 1 6 := by
  refine zX.of (ret := (some .int)) (cc := cX4_setFloor) (nL := 4) (own := RX4) (by decide +kernel) rfl [(0, .ref (ad 0)), (1, .int b), (2, .int f)] rfl (Nat.le_of_ble_eq_true rfl) rfl ?_
  intro A p e s m args below meth c C hmn ht
  refine z_iload_n C dX4_setFloor_0 rfl 1 rfl ?_
  refine z_callSx C (As := [.int b]) (rest := []) (bad_requireBank l hfl sa D cI cZ cL  b (by first | assumption | omega)) (va_cwS 1 C.2.2.2.2.1 gX4_setFloor_X4_requireBank rfl rfl rfl (by decide +kernel) ⟨Nat.le_of_ble_eq_true rfl, Nat.le_of_ble_eq_true rfl⟩) zSub.none rfl (Nat.le_of_ble_eq_true rfl) ⟨Nat.le_of_ble_eq_true rfl, Nat.le_of_ble_eq_true rfl⟩ dX4_setFloor_1 ?_
  exact z_out C ht (by decide) (by decide)
set_option maxHeartbeats 4000000 in
set_option maxRecDepth 100000 in
theorem c_X4_setFloor_b2 (l : Launch) (hfl : l.stackTraces = false) (sa : Nat → Nat) (D : va_G) (cI cZ cL : ClassId) (ad : Nat → Nat) (acc net tacc tnet flo bnd frm too amt pri wai byp ldr bor due plg clo pap cnd : Nat → Int32) (small price cut proc : Int32) (mk lm le : Nat) (b : Nat) (f : Int32) (hb : b < 5) (hbad : f < -1000000 ∨ 0 < f ∨ acc b < f) : zX sa D vwCl (zty cI cZ cL) l yX4_setFloor wsX4_setFloor ({ frames := 7, cells := 1, slots := 6, locals := 104 } : Room) [.ref (ad 0), .int (nI b), .int f] (wX ad cI cZ acc net tacc tnet flo bnd frm too amt pri wai byp ldr bor due plg clo pap cnd small price cut proc (nI mk) (nI lm) (nI le)) "java/lang/IllegalArgumentException" 1 6 := by
  refine zX.of (ret := (some .int)) (cc := cX4_setFloor) (nL := 4) (own := RX4) (by decide +kernel) rfl [(0, .ref (ad 0)), (1, .int (nI b)), (2, .int f)] rfl (Nat.le_of_ble_eq_true rfl) rfl ?_
  intro A p e s m args below meth c C hmn ht
  refine z_iload_n C dX4_setFloor_0 rfl 1 rfl ?_
  refine z_callSv C (T := Unit) (As := [.int (nI b)]) (rest := []) (ws' := fun _ => (wX ad cI cZ acc net tacc tnet flo bnd frm too amt pri wai byp ldr bor due plg clo pap cnd small price cut proc (nI mk) (nI lm) (nI le))) (ok_requireBank l sa D cI cZ cL  b (by first | assumption | omega)) (va_cwS 1 C.2.2.2.2.1 gX4_setFloor_X4_requireBank rfl rfl rfl (by decide +kernel) ⟨Nat.le_of_ble_eq_true rfl, Nat.le_of_ble_eq_true rfl⟩) (fun _ => zSub.none) zIn.none rfl (Nat.le_of_ble_eq_true rfl) ⟨Nat.le_of_ble_eq_true rfl, Nat.le_of_ble_eq_true rfl⟩ dX4_setFloor_1 (fun _ _ => ?_)
  refine z_iload_n C dX4_setFloor_4 rfl 2 rfl ?_
  refine z_ldc C m_X4_setFloor_k84 dX4_setFloor_5 ?_
  refine z_iconst C (v := 0) dX4_setFloor_7 (by decide) ?_
  refine z_aload_n C dX4_setFloor_8 rfl 0 rfl ?_
  refine z_get C 0 rfl i_X4_setFloor_X4 rfl 0 (by decide) m_X4_setFloor_f10 rfl rfl dX4_setFloor_9 ?_
  refine z_get C 1 rfl i_X4_setFloor_X3 rfl 0 (by decide) m_X4_setFloor_f73 rfl rfl dX4_setFloor_12 ?_
  refine z_iload_n C dX4_setFloor_15 rfl 1 rfl ?_
  refine z_iald C 6 0 rfl rfl b (nI_clamp (by omega)) (vp_in_nI (by omega) (by omega)) (acc b) rfl dX4_setFloor_16 ?_
  refine z_mmin C m_X4_setFloor_l85 m_X4_setFloor_lsmin m_X4_setFloor_lmath m_X4_setFloor_lcmin ⟨Nat.le_of_ble_eq_true rfl, Nat.le_of_ble_eq_true rfl, Nat.le_of_ble_eq_true rfl, Nat.le_of_ble_eq_true rfl⟩ (v := (if (acc b) < 0 then (acc b) else 0)) dX4_setFloor_17 rfl ?_
  refine z_callSx C (As := [.int f, .int (-1000000), .int (if (acc b) < 0 then (acc b) else 0)]) (rest := []) (bad_requireRange l hfl sa D cI cZ cL  f (-1000000) (if (acc b) < 0 then (acc b) else 0) (by exact z_flo hbad)) (va_cwS 3 C.2.2.2.2.1 gX4_setFloor_X4_requireRange rfl rfl rfl (by decide +kernel) ⟨Nat.le_of_ble_eq_true rfl, Nat.le_of_ble_eq_true rfl⟩) zSub.none rfl (Nat.le_of_ble_eq_true rfl) ⟨Nat.le_of_ble_eq_true rfl, Nat.le_of_ble_eq_true rfl⟩ dX4_setFloor_20 ?_
  exact z_out C ht (by decide) (by decide)
set_option maxHeartbeats 4000000 in
set_option maxRecDepth 100000 in
theorem c_X4_setBound_ok (l : Launch) (sa : Nat → Nat) (D : va_G) (cI cZ cL : ClassId) (ad : Nat → Nat) (acc net tacc tnet flo bnd frm too amt pri wai byp ldr bor due plg clo pap cnd : Nat → Int32) (small price cut proc : Int32) (mk lm le : Nat) (b : Nat) (o : Nat) (x : Int32) (hb : b < 5) (ho : o < 5) (hft : b ≠ o) (h1 : ¬ x < 0) (h2 : ¬ 1000000 < x) (h3 : ¬ x < net (b * 5 + o)) : zMi (T := Unit) sa D vwCl (zty cI cZ cL) l yX4_setBound wsX4_setBound ({ frames := 7, cells := 0, slots := 0, locals := 104 } : Room) [.ref (ad 0), .int (nI b), .int (nI o), .int x] (wX ad cI cZ acc net tacc tnet flo bnd frm too amt pri wai byp ldr bor due plg clo pap cnd small price cut proc (nI mk) (nI lm) (nI le)) (fun r9 _ => r9 = (bnd (b * 5 + o))) (fun _ => (wX ad cI cZ acc net tacc tnet flo (upd bnd (b * 5 + o) x) frm too amt pri wai byp ldr bor due plg clo pap cnd small price cut proc (nI mk) (nI lm) (nI le))) 0 0 := by
  refine zMi.of (ret := (some .int)) (cc := cX4_setBound) (nL := 6) (own := RX4) (by decide +kernel) rfl [(0, .ref (ad 0)), (1, .int (nI b)), (2, .int (nI o)), (3, .int x)] rfl (Nat.le_of_ble_eq_true rfl) rfl ?_
  intro A p e s m args below meth c C hmn
  refine z_iload_n C dX4_setBound_0 rfl 1 rfl ?_
  refine z_callSv C (T := Unit) (As := [.int (nI b)]) (rest := []) (ws' := fun _ => (wX ad cI cZ acc net tacc tnet flo bnd frm too amt pri wai byp ldr bor due plg clo pap cnd small price cut proc (nI mk) (nI lm) (nI le))) (ok_requireBank l sa D cI cZ cL  b (by first | assumption | omega)) (va_cwS 1 C.2.2.2.2.1 gX4_setBound_X4_requireBank rfl rfl rfl (by decide +kernel) ⟨Nat.le_of_ble_eq_true rfl, Nat.le_of_ble_eq_true rfl⟩) (fun _ => zSub.none) zIn.none rfl (Nat.le_of_ble_eq_true rfl) ⟨Nat.le_of_ble_eq_true rfl, Nat.le_of_ble_eq_true rfl⟩ dX4_setBound_1 (fun _ _ => ?_)
  refine z_iload_n C dX4_setBound_4 rfl 2 rfl ?_
  refine z_callSv C (T := Unit) (As := [.int (nI o)]) (rest := []) (ws' := fun _ => (wX ad cI cZ acc net tacc tnet flo bnd frm too amt pri wai byp ldr bor due plg clo pap cnd small price cut proc (nI mk) (nI lm) (nI le))) (ok_requireBank l sa D cI cZ cL  o (by first | assumption | omega)) (va_cwS 1 C.2.2.2.2.1 gX4_setBound_X4_requireBank rfl rfl rfl (by decide +kernel) ⟨Nat.le_of_ble_eq_true rfl, Nat.le_of_ble_eq_true rfl⟩) (fun _ => zSub.none) zIn.none rfl (Nat.le_of_ble_eq_true rfl) ⟨Nat.le_of_ble_eq_true rfl, Nat.le_of_ble_eq_true rfl⟩ dX4_setBound_5 (fun _ _ => ?_)
  refine z_iload_n C dX4_setBound_8 rfl 1 rfl ?_
  refine z_iload_n C dX4_setBound_9 rfl 2 rfl ?_
  refine z_callSv C (T := Unit) (As := [.int (nI b), .int (nI o)]) (rest := []) (ws' := fun _ => (wX ad cI cZ acc net tacc tnet flo bnd frm too amt pri wai byp ldr bor due plg clo pap cnd small price cut proc (nI mk) (nI lm) (nI le))) (ok_requireTwo l sa D cI cZ cL  b o (by first | assumption | omega) (by first | assumption | omega) (by first | assumption | omega)) (va_cwS 2 C.2.2.2.2.1 gX4_setBound_X4_requireTwo rfl rfl rfl (by decide +kernel) ⟨Nat.le_of_ble_eq_true rfl, Nat.le_of_ble_eq_true rfl⟩) (fun _ => zSub.none) zIn.none rfl (Nat.le_of_ble_eq_true rfl) ⟨Nat.le_of_ble_eq_true rfl, Nat.le_of_ble_eq_true rfl⟩ dX4_setBound_10 (fun _ _ => ?_)
  refine z_iload_n C dX4_setBound_13 rfl 1 rfl ?_
  refine z_iload_n C dX4_setBound_14 rfl 2 rfl ?_
  refine z_callSi C (T := Unit) (As := [.int (nI b), .int (nI o)]) (rest := []) (ws' := fun _ => (wX ad cI cZ acc net tacc tnet flo bnd frm too amt pri wai byp ldr bor due plg clo pap cnd small price cut proc (nI mk) (nI lm) (nI le))) (c_X4_pairOf l sa D cI cZ cL  b o ) (va_cwS 2 C.2.2.2.2.1 gX4_setBound_X4_pairOf rfl rfl rfl (by decide +kernel) ⟨Nat.le_of_ble_eq_true rfl, Nat.le_of_ble_eq_true rfl⟩) (fun _ => zSub.none) zIn.none rfl (Nat.le_of_ble_eq_true rfl) ⟨Nat.le_of_ble_eq_true rfl, Nat.le_of_ble_eq_true rfl⟩ dX4_setBound_15 (fun r_1 _ h_2 => ?_)
  obtain rfl : r_1 = (nI (b * 5 + o)) := h_2
  refine z_istore C dX4_setBound_18 (by decide) [(0, .ref (ad 0)), (1, .int (nI b)), (2, .int (nI o)), (3, .int x), (4, .int (nI (b * 5 + o)))] [1, 2, 3, 4, 0] rfl ?_
  refine z_iload_n C dX4_setBound_20 rfl 3 rfl ?_
  refine z_iconst C (v := 0) dX4_setBound_21 (by decide) ?_
  refine z_aload_n C dX4_setBound_22 rfl 0 rfl ?_
  refine z_get C 0 rfl i_X4_setBound_X4 rfl 0 (by decide) m_X4_setBound_f10 rfl rfl dX4_setBound_23 ?_
  refine z_get C 1 rfl i_X4_setBound_X3 rfl 1 (by decide) m_X4_setBound_f101 rfl rfl dX4_setBound_26 ?_
  refine z_iload C dX4_setBound_29 4 rfl ?_
  refine z_iald C 7 0 rfl rfl (b * 5 + o) (nI_clamp (by omega)) (vp_in_nI (by omega) (by omega)) (net (b * 5 + o)) rfl dX4_setBound_31 ?_
  refine z_mmax C m_X4_setBound_l104 m_X4_setBound_lsmax m_X4_setBound_lmath m_X4_setBound_lcmax ⟨Nat.le_of_ble_eq_true rfl, Nat.le_of_ble_eq_true rfl, Nat.le_of_ble_eq_true rfl, Nat.le_of_ble_eq_true rfl⟩ (v := (if 0 < (net (b * 5 + o)) then (net (b * 5 + o)) else 0)) dX4_setBound_32 rfl ?_
  refine z_ldc C m_X4_setBound_k65 dX4_setBound_35 ?_
  refine z_callSv C (T := Unit) (As := [.int x, .int (if 0 < (net (b * 5 + o)) then (net (b * 5 + o)) else 0), .int 1000000]) (rest := []) (ws' := fun _ => (wX ad cI cZ acc net tacc tnet flo bnd frm too amt pri wai byp ldr bor due plg clo pap cnd small price cut proc (nI mk) (nI lm) (nI le))) (ok_requireRange l sa D cI cZ cL  x (if 0 < (net (b * 5 + o)) then (net (b * 5 + o)) else 0) 1000000 (by split <;> assumption) (by first | assumption | omega)) (va_cwS 3 C.2.2.2.2.1 gX4_setBound_X4_requireRange rfl rfl rfl (by decide +kernel) ⟨Nat.le_of_ble_eq_true rfl, Nat.le_of_ble_eq_true rfl⟩) (fun _ => zSub.none) zIn.none rfl (Nat.le_of_ble_eq_true rfl) ⟨Nat.le_of_ble_eq_true rfl, Nat.le_of_ble_eq_true rfl⟩ dX4_setBound_37 (fun _ _ => ?_)
  refine z_aload_n C dX4_setBound_40 rfl 0 rfl ?_
  refine z_get C 0 rfl i_X4_setBound_X4 rfl 2 (by decide) m_X4_setBound_f22 rfl rfl dX4_setBound_41 ?_
  refine z_get C 3 rfl i_X4_setBound_X0 rfl 1 (by decide) m_X4_setBound_f107 rfl rfl dX4_setBound_44 ?_
  refine z_iload C dX4_setBound_47 4 rfl ?_
  refine z_iald C 11 0 rfl rfl (b * 5 + o) (nI_clamp (by omega)) (vp_in_nI (by omega) (by omega)) (bnd (b * 5 + o)) rfl dX4_setBound_49 ?_
  refine z_istore C dX4_setBound_50 (by decide) [(0, .ref (ad 0)), (1, .int (nI b)), (2, .int (nI o)), (3, .int x), (4, .int (nI (b * 5 + o))), (5, .int (bnd (b * 5 + o)))] [1, 2, 3, 4, 5, 0] rfl ?_
  refine z_aload_n C dX4_setBound_52 rfl 0 rfl ?_
  refine z_get C 0 rfl i_X4_setBound_X4 rfl 2 (by decide) m_X4_setBound_f22 rfl rfl dX4_setBound_53 ?_
  refine z_get C 3 rfl i_X4_setBound_X0 rfl 1 (by decide) m_X4_setBound_f107 rfl rfl dX4_setBound_56 ?_
  refine z_iload C dX4_setBound_59 4 rfl ?_
  refine z_iload_n C dX4_setBound_61 rfl 3 rfl ?_
  refine z_iast C 11 0 rfl rfl (b * 5 + o) (nI_clamp (by omega)) (vp_in_nI (by omega) (by omega)) x rfl dX4_setBound_62 (wX ad cI cZ acc net tacc tnet flo (upd bnd (b * 5 + o) x) frm too amt pri wai byp ldr bor due plg clo pap cnd small price cut proc (nI mk) (nI lm) (nI le)) rfl ?_
  refine z_iload C dX4_setBound_63 5 rfl ?_
  exact z_iret C () rfl rfl (by decide) (by decide) dX4_setBound_65
set_option maxHeartbeats 4000000 in
set_option maxRecDepth 100000 in
theorem c_X4_setBound_b1 (l : Launch) (hfl : l.stackTraces = false) (sa : Nat → Nat) (D : va_G) (cI cZ cL : ClassId) (ad : Nat → Nat) (acc net tacc tnet flo bnd frm too amt pri wai byp ldr bor due plg clo pap cnd : Nat → Int32) (small price cut proc : Int32) (mk lm le : Nat) (b : Int32) (o : Int32) (x : Int32) (hb : b < 0 ∨ 5 ≤ b) : zX sa D vwCl (zty cI cZ cL) l yX4_setBound wsX4_setBound ({ frames := 7, cells := 1, slots := 6, locals := 102 } : Room) [.ref (ad 0), .int b, .int o, .int x] (wX ad cI cZ acc net tacc tnet flo bnd frm too amt pri wai byp ldr bor due plg clo pap cnd small price cut proc (nI mk) (nI lm) (nI le)) "java/lang/IndexOutOfBoundsException" 1 6 := by
  refine zX.of (ret := (some .int)) (cc := cX4_setBound) (nL := 6) (own := RX4) (by decide +kernel) rfl [(0, .ref (ad 0)), (1, .int b), (2, .int o), (3, .int x)] rfl (Nat.le_of_ble_eq_true rfl) rfl ?_
  intro A p e s m args below meth c C hmn ht
  refine z_iload_n C dX4_setBound_0 rfl 1 rfl ?_
  refine z_callSx C (As := [.int b]) (rest := []) (bad_requireBank l hfl sa D cI cZ cL  b (by first | assumption | omega)) (va_cwS 1 C.2.2.2.2.1 gX4_setBound_X4_requireBank rfl rfl rfl (by decide +kernel) ⟨Nat.le_of_ble_eq_true rfl, Nat.le_of_ble_eq_true rfl⟩) zSub.none rfl (Nat.le_of_ble_eq_true rfl) ⟨Nat.le_of_ble_eq_true rfl, Nat.le_of_ble_eq_true rfl⟩ dX4_setBound_1 ?_
  exact z_out C ht (by decide) (by decide)
set_option maxHeartbeats 4000000 in
set_option maxRecDepth 100000 in
theorem c_X4_setBound_b1b (l : Launch) (hfl : l.stackTraces = false) (sa : Nat → Nat) (D : va_G) (cI cZ cL : ClassId) (ad : Nat → Nat) (acc net tacc tnet flo bnd frm too amt pri wai byp ldr bor due plg clo pap cnd : Nat → Int32) (small price cut proc : Int32) (mk lm le : Nat) (b : Nat) (o : Int32) (x : Int32) (hb : b < 5) (ho : o < 0 ∨ 5 ≤ o) : zX sa D vwCl (zty cI cZ cL) l yX4_setBound wsX4_setBound ({ frames := 7, cells := 1, slots := 6, locals := 102 } : Room) [.ref (ad 0), .int (nI b), .int o, .int x] (wX ad cI cZ acc net tacc tnet flo bnd frm too amt pri wai byp ldr bor due plg clo pap cnd small price cut proc (nI mk) (nI lm) (nI le)) "java/lang/IndexOutOfBoundsException" 1 6 := by
  refine zX.of (ret := (some .int)) (cc := cX4_setBound) (nL := 6) (own := RX4) (by decide +kernel) rfl [(0, .ref (ad 0)), (1, .int (nI b)), (2, .int o), (3, .int x)] rfl (Nat.le_of_ble_eq_true rfl) rfl ?_
  intro A p e s m args below meth c C hmn ht
  refine z_iload_n C dX4_setBound_0 rfl 1 rfl ?_
  refine z_callSv C (T := Unit) (As := [.int (nI b)]) (rest := []) (ws' := fun _ => (wX ad cI cZ acc net tacc tnet flo bnd frm too amt pri wai byp ldr bor due plg clo pap cnd small price cut proc (nI mk) (nI lm) (nI le))) (ok_requireBank l sa D cI cZ cL  b (by first | assumption | omega)) (va_cwS 1 C.2.2.2.2.1 gX4_setBound_X4_requireBank rfl rfl rfl (by decide +kernel) ⟨Nat.le_of_ble_eq_true rfl, Nat.le_of_ble_eq_true rfl⟩) (fun _ => zSub.none) zIn.none rfl (Nat.le_of_ble_eq_true rfl) ⟨Nat.le_of_ble_eq_true rfl, Nat.le_of_ble_eq_true rfl⟩ dX4_setBound_1 (fun _ _ => ?_)
  refine z_iload_n C dX4_setBound_4 rfl 2 rfl ?_
  refine z_callSx C (As := [.int o]) (rest := []) (bad_requireBank l hfl sa D cI cZ cL  o (by first | assumption | omega)) (va_cwS 1 C.2.2.2.2.1 gX4_setBound_X4_requireBank rfl rfl rfl (by decide +kernel) ⟨Nat.le_of_ble_eq_true rfl, Nat.le_of_ble_eq_true rfl⟩) zSub.none rfl (Nat.le_of_ble_eq_true rfl) ⟨Nat.le_of_ble_eq_true rfl, Nat.le_of_ble_eq_true rfl⟩ dX4_setBound_5 ?_
  exact z_out C ht (by decide) (by decide)
set_option maxHeartbeats 4000000 in
set_option maxRecDepth 100000 in
theorem c_X4_setBound_b2a (l : Launch) (hfl : l.stackTraces = false) (sa : Nat → Nat) (D : va_G) (cI cZ cL : ClassId) (ad : Nat → Nat) (acc net tacc tnet flo bnd frm too amt pri wai byp ldr bor due plg clo pap cnd : Nat → Int32) (small price cut proc : Int32) (mk lm le : Nat) (b : Nat) (o : Nat) (x : Int32) (hb : b < 5) (ho : o < 5) (hft : b = o) : zX sa D vwCl (zty cI cZ cL) l yX4_setBound wsX4_setBound ({ frames := 7, cells := 1, slots := 6, locals := 103 } : Room) [.ref (ad 0), .int (nI b), .int (nI o), .int x] (wX ad cI cZ acc net tacc tnet flo bnd frm too amt pri wai byp ldr bor due plg clo pap cnd small price cut proc (nI mk) (nI lm) (nI le)) "java/lang/IllegalArgumentException" 1 6 := by
  refine zX.of (ret := (some .int)) (cc := cX4_setBound) (nL := 6) (own := RX4) (by decide +kernel) rfl [(0, .ref (ad 0)), (1, .int (nI b)), (2, .int (nI o)), (3, .int x)] rfl (Nat.le_of_ble_eq_true rfl) rfl ?_
  intro A p e s m args below meth c C hmn ht
  refine z_iload_n C dX4_setBound_0 rfl 1 rfl ?_
  refine z_callSv C (T := Unit) (As := [.int (nI b)]) (rest := []) (ws' := fun _ => (wX ad cI cZ acc net tacc tnet flo bnd frm too amt pri wai byp ldr bor due plg clo pap cnd small price cut proc (nI mk) (nI lm) (nI le))) (ok_requireBank l sa D cI cZ cL  b (by first | assumption | omega)) (va_cwS 1 C.2.2.2.2.1 gX4_setBound_X4_requireBank rfl rfl rfl (by decide +kernel) ⟨Nat.le_of_ble_eq_true rfl, Nat.le_of_ble_eq_true rfl⟩) (fun _ => zSub.none) zIn.none rfl (Nat.le_of_ble_eq_true rfl) ⟨Nat.le_of_ble_eq_true rfl, Nat.le_of_ble_eq_true rfl⟩ dX4_setBound_1 (fun _ _ => ?_)
  refine z_iload_n C dX4_setBound_4 rfl 2 rfl ?_
  refine z_callSv C (T := Unit) (As := [.int (nI o)]) (rest := []) (ws' := fun _ => (wX ad cI cZ acc net tacc tnet flo bnd frm too amt pri wai byp ldr bor due plg clo pap cnd small price cut proc (nI mk) (nI lm) (nI le))) (ok_requireBank l sa D cI cZ cL  o (by first | assumption | omega)) (va_cwS 1 C.2.2.2.2.1 gX4_setBound_X4_requireBank rfl rfl rfl (by decide +kernel) ⟨Nat.le_of_ble_eq_true rfl, Nat.le_of_ble_eq_true rfl⟩) (fun _ => zSub.none) zIn.none rfl (Nat.le_of_ble_eq_true rfl) ⟨Nat.le_of_ble_eq_true rfl, Nat.le_of_ble_eq_true rfl⟩ dX4_setBound_5 (fun _ _ => ?_)
  refine z_iload_n C dX4_setBound_8 rfl 1 rfl ?_
  refine z_iload_n C dX4_setBound_9 rfl 2 rfl ?_
  refine z_callSx C (As := [.int (nI b), .int (nI o)]) (rest := []) (bad_requireTwo l hfl sa D cI cZ cL  b o (by first | assumption | omega) (by first | assumption | omega) (by first | assumption | omega)) (va_cwS 2 C.2.2.2.2.1 gX4_setBound_X4_requireTwo rfl rfl rfl (by decide +kernel) ⟨Nat.le_of_ble_eq_true rfl, Nat.le_of_ble_eq_true rfl⟩) zSub.none rfl (Nat.le_of_ble_eq_true rfl) ⟨Nat.le_of_ble_eq_true rfl, Nat.le_of_ble_eq_true rfl⟩ dX4_setBound_10 ?_
  exact z_out C ht (by decide) (by decide)
set_option maxHeartbeats 4000000 in
set_option maxRecDepth 100000 in
theorem c_X4_setBound_b2b (l : Launch) (hfl : l.stackTraces = false) (sa : Nat → Nat) (D : va_G) (cI cZ cL : ClassId) (ad : Nat → Nat) (acc net tacc tnet flo bnd frm too amt pri wai byp ldr bor due plg clo pap cnd : Nat → Int32) (small price cut proc : Int32) (mk lm le : Nat) (b : Nat) (o : Nat) (x : Int32) (hb : b < 5) (ho : o < 5) (hft : b ≠ o) (hbad : x < 0 ∨ 1000000 < x ∨ x < net (b * 5 + o)) : zX sa D vwCl (zty cI cZ cL) l yX4_setBound wsX4_setBound ({ frames := 7, cells := 1, slots := 6, locals := 104 } : Room) [.ref (ad 0), .int (nI b), .int (nI o), .int x] (wX ad cI cZ acc net tacc tnet flo bnd frm too amt pri wai byp ldr bor due plg clo pap cnd small price cut proc (nI mk) (nI lm) (nI le)) "java/lang/IllegalArgumentException" 1 6 := by
  refine zX.of (ret := (some .int)) (cc := cX4_setBound) (nL := 6) (own := RX4) (by decide +kernel) rfl [(0, .ref (ad 0)), (1, .int (nI b)), (2, .int (nI o)), (3, .int x)] rfl (Nat.le_of_ble_eq_true rfl) rfl ?_
  intro A p e s m args below meth c C hmn ht
  refine z_iload_n C dX4_setBound_0 rfl 1 rfl ?_
  refine z_callSv C (T := Unit) (As := [.int (nI b)]) (rest := []) (ws' := fun _ => (wX ad cI cZ acc net tacc tnet flo bnd frm too amt pri wai byp ldr bor due plg clo pap cnd small price cut proc (nI mk) (nI lm) (nI le))) (ok_requireBank l sa D cI cZ cL  b (by first | assumption | omega)) (va_cwS 1 C.2.2.2.2.1 gX4_setBound_X4_requireBank rfl rfl rfl (by decide +kernel) ⟨Nat.le_of_ble_eq_true rfl, Nat.le_of_ble_eq_true rfl⟩) (fun _ => zSub.none) zIn.none rfl (Nat.le_of_ble_eq_true rfl) ⟨Nat.le_of_ble_eq_true rfl, Nat.le_of_ble_eq_true rfl⟩ dX4_setBound_1 (fun _ _ => ?_)
  refine z_iload_n C dX4_setBound_4 rfl 2 rfl ?_
  refine z_callSv C (T := Unit) (As := [.int (nI o)]) (rest := []) (ws' := fun _ => (wX ad cI cZ acc net tacc tnet flo bnd frm too amt pri wai byp ldr bor due plg clo pap cnd small price cut proc (nI mk) (nI lm) (nI le))) (ok_requireBank l sa D cI cZ cL  o (by first | assumption | omega)) (va_cwS 1 C.2.2.2.2.1 gX4_setBound_X4_requireBank rfl rfl rfl (by decide +kernel) ⟨Nat.le_of_ble_eq_true rfl, Nat.le_of_ble_eq_true rfl⟩) (fun _ => zSub.none) zIn.none rfl (Nat.le_of_ble_eq_true rfl) ⟨Nat.le_of_ble_eq_true rfl, Nat.le_of_ble_eq_true rfl⟩ dX4_setBound_5 (fun _ _ => ?_)
  refine z_iload_n C dX4_setBound_8 rfl 1 rfl ?_
  refine z_iload_n C dX4_setBound_9 rfl 2 rfl ?_
  refine z_callSv C (T := Unit) (As := [.int (nI b), .int (nI o)]) (rest := []) (ws' := fun _ => (wX ad cI cZ acc net tacc tnet flo bnd frm too amt pri wai byp ldr bor due plg clo pap cnd small price cut proc (nI mk) (nI lm) (nI le))) (ok_requireTwo l sa D cI cZ cL  b o (by first | assumption | omega) (by first | assumption | omega) (by first | assumption | omega)) (va_cwS 2 C.2.2.2.2.1 gX4_setBound_X4_requireTwo rfl rfl rfl (by decide +kernel) ⟨Nat.le_of_ble_eq_true rfl, Nat.le_of_ble_eq_true rfl⟩) (fun _ => zSub.none) zIn.none rfl (Nat.le_of_ble_eq_true rfl) ⟨Nat.le_of_ble_eq_true rfl, Nat.le_of_ble_eq_true rfl⟩ dX4_setBound_10 (fun _ _ => ?_)
  refine z_iload_n C dX4_setBound_13 rfl 1 rfl ?_
  refine z_iload_n C dX4_setBound_14 rfl 2 rfl ?_
  refine z_callSi C (T := Unit) (As := [.int (nI b), .int (nI o)]) (rest := []) (ws' := fun _ => (wX ad cI cZ acc net tacc tnet flo bnd frm too amt pri wai byp ldr bor due plg clo pap cnd small price cut proc (nI mk) (nI lm) (nI le))) (c_X4_pairOf l sa D cI cZ cL  b o ) (va_cwS 2 C.2.2.2.2.1 gX4_setBound_X4_pairOf rfl rfl rfl (by decide +kernel) ⟨Nat.le_of_ble_eq_true rfl, Nat.le_of_ble_eq_true rfl⟩) (fun _ => zSub.none) zIn.none rfl (Nat.le_of_ble_eq_true rfl) ⟨Nat.le_of_ble_eq_true rfl, Nat.le_of_ble_eq_true rfl⟩ dX4_setBound_15 (fun r_1 _ h_2 => ?_)
  obtain rfl : r_1 = (nI (b * 5 + o)) := h_2
  refine z_istore C dX4_setBound_18 (by decide) [(0, .ref (ad 0)), (1, .int (nI b)), (2, .int (nI o)), (3, .int x), (4, .int (nI (b * 5 + o)))] [1, 2, 3, 4, 0] rfl ?_
  refine z_iload_n C dX4_setBound_20 rfl 3 rfl ?_
  refine z_iconst C (v := 0) dX4_setBound_21 (by decide) ?_
  refine z_aload_n C dX4_setBound_22 rfl 0 rfl ?_
  refine z_get C 0 rfl i_X4_setBound_X4 rfl 0 (by decide) m_X4_setBound_f10 rfl rfl dX4_setBound_23 ?_
  refine z_get C 1 rfl i_X4_setBound_X3 rfl 1 (by decide) m_X4_setBound_f101 rfl rfl dX4_setBound_26 ?_
  refine z_iload C dX4_setBound_29 4 rfl ?_
  refine z_iald C 7 0 rfl rfl (b * 5 + o) (nI_clamp (by omega)) (vp_in_nI (by omega) (by omega)) (net (b * 5 + o)) rfl dX4_setBound_31 ?_
  refine z_mmax C m_X4_setBound_l104 m_X4_setBound_lsmax m_X4_setBound_lmath m_X4_setBound_lcmax ⟨Nat.le_of_ble_eq_true rfl, Nat.le_of_ble_eq_true rfl, Nat.le_of_ble_eq_true rfl, Nat.le_of_ble_eq_true rfl⟩ (v := (if 0 < (net (b * 5 + o)) then (net (b * 5 + o)) else 0)) dX4_setBound_32 rfl ?_
  refine z_ldc C m_X4_setBound_k65 dX4_setBound_35 ?_
  refine z_callSx C (As := [.int x, .int (if 0 < (net (b * 5 + o)) then (net (b * 5 + o)) else 0), .int 1000000]) (rest := []) (bad_requireRange l hfl sa D cI cZ cL  x (if 0 < (net (b * 5 + o)) then (net (b * 5 + o)) else 0) 1000000 (by exact z_bnd hbad)) (va_cwS 3 C.2.2.2.2.1 gX4_setBound_X4_requireRange rfl rfl rfl (by decide +kernel) ⟨Nat.le_of_ble_eq_true rfl, Nat.le_of_ble_eq_true rfl⟩) zSub.none rfl (Nat.le_of_ble_eq_true rfl) ⟨Nat.le_of_ble_eq_true rfl, Nat.le_of_ble_eq_true rfl⟩ dX4_setBound_37 ?_
  exact z_out C ht (by decide) (by decide)
set_option maxHeartbeats 4000000 in
set_option maxRecDepth 100000 in
theorem c_X4_givePapers_ok (l : Launch) (sa : Nat → Nat) (D : va_G) (cI cZ cL : ClassId) (ad : Nat → Nat) (acc net tacc tnet flo bnd frm too amt pri wai byp ldr bor due plg clo pap cnd : Nat → Int32) (small price cut proc : Int32) (mk lm le : Nat) (b : Nat) (x : Int32) (hb : b < 5) (h1 : ¬ x < 1) (h2 : ¬ 1000 < x) (hcl : clo b = 0) (h3 : pap b + x ≤ 100000) : zMi (T := Unit) sa D vwCl (zty cI cZ cL) l yX4_givePapers wsX4_givePapers ({ frames := 7, cells := 0, slots := 0, locals := 104 } : Room) [.ref (ad 0), .int (nI b), .int x] (wX ad cI cZ acc net tacc tnet flo bnd frm too amt pri wai byp ldr bor due plg clo pap cnd small price cut proc (nI mk) (nI lm) (nI le)) (fun r9 _ => r9 = (pap b + x)) (fun _ => (wX ad cI cZ acc net tacc tnet flo bnd frm too amt pri wai byp ldr bor due plg clo (upd pap b (pap b + x)) cnd small price cut proc (nI mk) (nI lm) (nI le))) 0 0 := by
  refine zMi.of (ret := (some .int)) (cc := cX4_givePapers) (nL := 3) (own := RX4) (by decide +kernel) rfl [(0, .ref (ad 0)), (1, .int (nI b)), (2, .int x)] rfl (Nat.le_of_ble_eq_true rfl) rfl ?_
  intro A p e s m args below meth c C hmn
  refine z_iload_n C dX4_givePapers_0 rfl 1 rfl ?_
  refine z_callSv C (T := Unit) (As := [.int (nI b)]) (rest := []) (ws' := fun _ => (wX ad cI cZ acc net tacc tnet flo bnd frm too amt pri wai byp ldr bor due plg clo pap cnd small price cut proc (nI mk) (nI lm) (nI le))) (ok_requireBank l sa D cI cZ cL  b (by first | assumption | omega)) (va_cwS 1 C.2.2.2.2.1 gX4_givePapers_X4_requireBank rfl rfl rfl (by decide +kernel) ⟨Nat.le_of_ble_eq_true rfl, Nat.le_of_ble_eq_true rfl⟩) (fun _ => zSub.none) zIn.none rfl (Nat.le_of_ble_eq_true rfl) ⟨Nat.le_of_ble_eq_true rfl, Nat.le_of_ble_eq_true rfl⟩ dX4_givePapers_1 (fun _ _ => ?_)
  refine z_iload_n C dX4_givePapers_4 rfl 2 rfl ?_
  refine z_iconst C (v := 1) dX4_givePapers_5 (by decide) ?_
  refine z_sipush C (v := 1000) dX4_givePapers_6 (by decide) ?_
  refine z_callSv C (T := Unit) (As := [.int x, .int 1, .int 1000]) (rest := []) (ws' := fun _ => (wX ad cI cZ acc net tacc tnet flo bnd frm too amt pri wai byp ldr bor due plg clo pap cnd small price cut proc (nI mk) (nI lm) (nI le))) (ok_requireRange l sa D cI cZ cL  x 1 1000 (by first | assumption | omega) (by first | assumption | omega)) (va_cwS 3 C.2.2.2.2.1 gX4_givePapers_X4_requireRange rfl rfl rfl (by decide +kernel) ⟨Nat.le_of_ble_eq_true rfl, Nat.le_of_ble_eq_true rfl⟩) (fun _ => zSub.none) zIn.none rfl (Nat.le_of_ble_eq_true rfl) ⟨Nat.le_of_ble_eq_true rfl, Nat.le_of_ble_eq_true rfl⟩ dX4_givePapers_9 (fun _ _ => ?_)
  refine z_aload_n C dX4_givePapers_12 rfl 0 rfl ?_
  refine z_iload_n C dX4_givePapers_13 rfl 1 rfl ?_
  refine z_callVv C (T := Unit) (As := [.int (nI b)]) (rest := []) (ws' := fun _ => (wX ad cI cZ acc net tacc tnet flo bnd frm too amt pri wai byp ldr bor due plg clo pap cnd small price cut proc (nI mk) (nI lm) (nI le))) (ok_requireOpen l sa D cI cZ cL ad acc net tacc tnet flo bnd frm too amt pri wai byp ldr bor due plg clo pap cnd small price cut proc mk lm le b (by first | assumption | omega) (by first | assumption | omega)) (cwV 1 C.2.2.2.2.1 gX4_givePapers_X4_requireOpen rfl rfl rfl (by decide +kernel) ⟨Nat.le_of_ble_eq_true rfl, Nat.le_of_ble_eq_true rfl⟩) 0 rfl rfl rfl (fun _ => zSub.full) zIn.full rfl (Nat.le_of_ble_eq_true rfl) ⟨Nat.le_of_ble_eq_true rfl, Nat.le_of_ble_eq_true rfl⟩ dX4_givePapers_14 (fun _ _ => ?_)
  refine z_aload_n C dX4_givePapers_17 rfl 0 rfl ?_
  refine z_get C 0 rfl i_X4_givePapers_X4 rfl 6 (by decide) m_X4_givePapers_f44 rfl rfl dX4_givePapers_18 ?_
  refine z_iload_n C dX4_givePapers_21 rfl 1 rfl ?_
  refine z_iald C 23 0 rfl rfl b (nI_clamp (by omega)) (vp_in_nI (by omega) (by omega)) (pap b) rfl dX4_givePapers_22 ?_
  refine z_iload_n C dX4_givePapers_23 rfl 2 rfl ?_
  refine z_iadd C (v := ((pap b) + x)) dX4_givePapers_24 rfl ?_
  refine z_ldc C m_X4_givePapers_k110 dX4_givePapers_25 ?_
  refine z_icmp_le C (tgt := 40) dX4_givePapers_27 (by decide) (fun c27_1 => ?_) (fun c27_1 => ?_)
  · skip
    refine z_aload_n C dX4_givePapers_40 rfl 0 rfl ?_
    refine z_get C 0 rfl i_X4_givePapers_X4 rfl 6 (by decide) m_X4_givePapers_f44 rfl rfl dX4_givePapers_41 ?_
    refine z_iload_n C dX4_givePapers_44 rfl 1 rfl ?_
    refine z_dup2 C dX4_givePapers_45 rfl rfl ?_
    refine z_iald C 23 0 rfl rfl b (nI_clamp (by omega)) (vp_in_nI (by omega) (by omega)) (pap b) rfl dX4_givePapers_46 ?_
    refine z_iload_n C dX4_givePapers_47 rfl 2 rfl ?_
    refine z_iadd C (v := ((pap b) + x)) dX4_givePapers_48 rfl ?_
    refine z_iast C 23 0 rfl rfl b (nI_clamp (by omega)) (vp_in_nI (by omega) (by omega)) ((pap b) + x) rfl dX4_givePapers_49 (wX ad cI cZ acc net tacc tnet flo bnd frm too amt pri wai byp ldr bor due plg clo (upd pap b ((pap b) + x)) cnd small price cut proc (nI mk) (nI lm) (nI le)) rfl ?_
    refine z_aload_n C dX4_givePapers_50 rfl 0 rfl ?_
    refine z_get C 0 rfl i_X4_givePapers_X4 rfl 6 (by decide) m_X4_givePapers_f44 rfl rfl dX4_givePapers_51 ?_
    refine z_iload_n C dX4_givePapers_54 rfl 1 rfl ?_
    refine z_iald C 23 0 rfl rfl b (nI_clamp (by omega)) (vp_in_nI (by omega) (by omega)) ((upd pap b ((pap b) + x)) b) rfl dX4_givePapers_55 ?_
    exact z_iret C () (by simp [upd]) rfl (by decide) (by decide) dX4_givePapers_56
  · skip
    exfalso
    first | omega | contradiction | exact absurd (by assumption) (Int32.not_le.mpr (by assumption))
set_option maxHeartbeats 4000000 in
set_option maxRecDepth 100000 in
theorem c_X4_givePapers_b1 (l : Launch) (hfl : l.stackTraces = false) (sa : Nat → Nat) (D : va_G) (cI cZ cL : ClassId) (ad : Nat → Nat) (acc net tacc tnet flo bnd frm too amt pri wai byp ldr bor due plg clo pap cnd : Nat → Int32) (small price cut proc : Int32) (mk lm le : Nat) (b : Int32) (x : Int32) (hb : b < 0 ∨ 5 ≤ b) : zX sa D vwCl (zty cI cZ cL) l yX4_givePapers wsX4_givePapers ({ frames := 7, cells := 1, slots := 6, locals := 102 } : Room) [.ref (ad 0), .int b, .int x] (wX ad cI cZ acc net tacc tnet flo bnd frm too amt pri wai byp ldr bor due plg clo pap cnd small price cut proc (nI mk) (nI lm) (nI le)) "java/lang/IndexOutOfBoundsException" 1 6 := by
  refine zX.of (ret := (some .int)) (cc := cX4_givePapers) (nL := 3) (own := RX4) (by decide +kernel) rfl [(0, .ref (ad 0)), (1, .int b), (2, .int x)] rfl (Nat.le_of_ble_eq_true rfl) rfl ?_
  intro A p e s m args below meth c C hmn ht
  refine z_iload_n C dX4_givePapers_0 rfl 1 rfl ?_
  refine z_callSx C (As := [.int b]) (rest := []) (bad_requireBank l hfl sa D cI cZ cL  b (by first | assumption | omega)) (va_cwS 1 C.2.2.2.2.1 gX4_givePapers_X4_requireBank rfl rfl rfl (by decide +kernel) ⟨Nat.le_of_ble_eq_true rfl, Nat.le_of_ble_eq_true rfl⟩) zSub.none rfl (Nat.le_of_ble_eq_true rfl) ⟨Nat.le_of_ble_eq_true rfl, Nat.le_of_ble_eq_true rfl⟩ dX4_givePapers_1 ?_
  exact z_out C ht (by decide) (by decide)
set_option maxHeartbeats 4000000 in
set_option maxRecDepth 100000 in
theorem c_X4_givePapers_b2 (l : Launch) (hfl : l.stackTraces = false) (sa : Nat → Nat) (D : va_G) (cI cZ cL : ClassId) (ad : Nat → Nat) (acc net tacc tnet flo bnd frm too amt pri wai byp ldr bor due plg clo pap cnd : Nat → Int32) (small price cut proc : Int32) (mk lm le : Nat) (b : Nat) (x : Int32) (hb : b < 5) (hbad : x < 1 ∨ 1000 < x) : zX sa D vwCl (zty cI cZ cL) l yX4_givePapers wsX4_givePapers ({ frames := 7, cells := 1, slots := 6, locals := 104 } : Room) [.ref (ad 0), .int (nI b), .int x] (wX ad cI cZ acc net tacc tnet flo bnd frm too amt pri wai byp ldr bor due plg clo pap cnd small price cut proc (nI mk) (nI lm) (nI le)) "java/lang/IllegalArgumentException" 1 6 := by
  refine zX.of (ret := (some .int)) (cc := cX4_givePapers) (nL := 3) (own := RX4) (by decide +kernel) rfl [(0, .ref (ad 0)), (1, .int (nI b)), (2, .int x)] rfl (Nat.le_of_ble_eq_true rfl) rfl ?_
  intro A p e s m args below meth c C hmn ht
  refine z_iload_n C dX4_givePapers_0 rfl 1 rfl ?_
  refine z_callSv C (T := Unit) (As := [.int (nI b)]) (rest := []) (ws' := fun _ => (wX ad cI cZ acc net tacc tnet flo bnd frm too amt pri wai byp ldr bor due plg clo pap cnd small price cut proc (nI mk) (nI lm) (nI le))) (ok_requireBank l sa D cI cZ cL  b (by first | assumption | omega)) (va_cwS 1 C.2.2.2.2.1 gX4_givePapers_X4_requireBank rfl rfl rfl (by decide +kernel) ⟨Nat.le_of_ble_eq_true rfl, Nat.le_of_ble_eq_true rfl⟩) (fun _ => zSub.none) zIn.none rfl (Nat.le_of_ble_eq_true rfl) ⟨Nat.le_of_ble_eq_true rfl, Nat.le_of_ble_eq_true rfl⟩ dX4_givePapers_1 (fun _ _ => ?_)
  refine z_iload_n C dX4_givePapers_4 rfl 2 rfl ?_
  refine z_iconst C (v := 1) dX4_givePapers_5 (by decide) ?_
  refine z_sipush C (v := 1000) dX4_givePapers_6 (by decide) ?_
  refine z_callSx C (As := [.int x, .int 1, .int 1000]) (rest := []) (bad_requireRange l hfl sa D cI cZ cL  x 1 1000 (by first | assumption | omega)) (va_cwS 3 C.2.2.2.2.1 gX4_givePapers_X4_requireRange rfl rfl rfl (by decide +kernel) ⟨Nat.le_of_ble_eq_true rfl, Nat.le_of_ble_eq_true rfl⟩) zSub.none rfl (Nat.le_of_ble_eq_true rfl) ⟨Nat.le_of_ble_eq_true rfl, Nat.le_of_ble_eq_true rfl⟩ dX4_givePapers_9 ?_
  exact z_out C ht (by decide) (by decide)
set_option maxHeartbeats 4000000 in
set_option maxRecDepth 100000 in
theorem c_X4_givePapers_b3 (l : Launch) (hfl : l.stackTraces = false) (sa : Nat → Nat) (D : va_G) (cI cZ cL : ClassId) (ad : Nat → Nat) (acc net tacc tnet flo bnd frm too amt pri wai byp ldr bor due plg clo pap cnd : Nat → Int32) (small price cut proc : Int32) (mk lm le : Nat) (b : Nat) (x : Int32) (hb : b < 5) (h1 : ¬ x < 1) (h2 : ¬ 1000 < x) (hbad : ¬ (clo b = 0 ∧ pap b + x ≤ 100000)) : zX sa D vwCl (zty cI cZ cL) l yX4_givePapers wsX4_givePapers ({ frames := 7, cells := 1, slots := 6, locals := 104 } : Room) [.ref (ad 0), .int (nI b), .int x] (wX ad cI cZ acc net tacc tnet flo bnd frm too amt pri wai byp ldr bor due plg clo pap cnd small price cut proc (nI mk) (nI lm) (nI le)) "java/lang/IllegalStateException" 1 6 := by
  refine zX.of (ret := (some .int)) (cc := cX4_givePapers) (nL := 3) (own := RX4) (by decide +kernel) rfl [(0, .ref (ad 0)), (1, .int (nI b)), (2, .int x)] rfl (Nat.le_of_ble_eq_true rfl) rfl ?_
  intro A p e s m args below meth c C hmn ht
  refine z_iload_n C dX4_givePapers_0 rfl 1 rfl ?_
  refine z_callSv C (T := Unit) (As := [.int (nI b)]) (rest := []) (ws' := fun _ => (wX ad cI cZ acc net tacc tnet flo bnd frm too amt pri wai byp ldr bor due plg clo pap cnd small price cut proc (nI mk) (nI lm) (nI le))) (ok_requireBank l sa D cI cZ cL  b (by first | assumption | omega)) (va_cwS 1 C.2.2.2.2.1 gX4_givePapers_X4_requireBank rfl rfl rfl (by decide +kernel) ⟨Nat.le_of_ble_eq_true rfl, Nat.le_of_ble_eq_true rfl⟩) (fun _ => zSub.none) zIn.none rfl (Nat.le_of_ble_eq_true rfl) ⟨Nat.le_of_ble_eq_true rfl, Nat.le_of_ble_eq_true rfl⟩ dX4_givePapers_1 (fun _ _ => ?_)
  refine z_iload_n C dX4_givePapers_4 rfl 2 rfl ?_
  refine z_iconst C (v := 1) dX4_givePapers_5 (by decide) ?_
  refine z_sipush C (v := 1000) dX4_givePapers_6 (by decide) ?_
  refine z_callSv C (T := Unit) (As := [.int x, .int 1, .int 1000]) (rest := []) (ws' := fun _ => (wX ad cI cZ acc net tacc tnet flo bnd frm too amt pri wai byp ldr bor due plg clo pap cnd small price cut proc (nI mk) (nI lm) (nI le))) (ok_requireRange l sa D cI cZ cL  x 1 1000 (by first | assumption | omega) (by first | assumption | omega)) (va_cwS 3 C.2.2.2.2.1 gX4_givePapers_X4_requireRange rfl rfl rfl (by decide +kernel) ⟨Nat.le_of_ble_eq_true rfl, Nat.le_of_ble_eq_true rfl⟩) (fun _ => zSub.none) zIn.none rfl (Nat.le_of_ble_eq_true rfl) ⟨Nat.le_of_ble_eq_true rfl, Nat.le_of_ble_eq_true rfl⟩ dX4_givePapers_9 (fun _ _ => ?_)
  refine z_aload_n C dX4_givePapers_12 rfl 0 rfl ?_
  refine z_iload_n C dX4_givePapers_13 rfl 1 rfl ?_
  refine z_case (clo b = 0) (fun hp_1 => ?_) (fun hp_1 => ?_)
  · skip
    refine z_callVv C (T := Unit) (As := [.int (nI b)]) (rest := []) (ws' := fun _ => (wX ad cI cZ acc net tacc tnet flo bnd frm too amt pri wai byp ldr bor due plg clo pap cnd small price cut proc (nI mk) (nI lm) (nI le))) (ok_requireOpen l sa D cI cZ cL ad acc net tacc tnet flo bnd frm too amt pri wai byp ldr bor due plg clo pap cnd small price cut proc mk lm le b (by first | assumption | omega) (by first | assumption | omega)) (cwV 1 C.2.2.2.2.1 gX4_givePapers_X4_requireOpen rfl rfl rfl (by decide +kernel) ⟨Nat.le_of_ble_eq_true rfl, Nat.le_of_ble_eq_true rfl⟩) 0 rfl rfl rfl (fun _ => zSub.full) zIn.full rfl (Nat.le_of_ble_eq_true rfl) ⟨Nat.le_of_ble_eq_true rfl, Nat.le_of_ble_eq_true rfl⟩ dX4_givePapers_14 (fun _ _ => ?_)
    refine z_aload_n C dX4_givePapers_17 rfl 0 rfl ?_
    refine z_get C 0 rfl i_X4_givePapers_X4 rfl 6 (by decide) m_X4_givePapers_f44 rfl rfl dX4_givePapers_18 ?_
    refine z_iload_n C dX4_givePapers_21 rfl 1 rfl ?_
    refine z_iald C 23 0 rfl rfl b (nI_clamp (by omega)) (vp_in_nI (by omega) (by omega)) (pap b) rfl dX4_givePapers_22 ?_
    refine z_iload_n C dX4_givePapers_23 rfl 2 rfl ?_
    refine z_iadd C (v := ((pap b) + x)) dX4_givePapers_24 rfl ?_
    refine z_ldc C m_X4_givePapers_k110 dX4_givePapers_25 ?_
    refine z_icmp_le C (tgt := 40) dX4_givePapers_27 (by decide) (fun c27_2 => ?_) (fun c27_2 => ?_)
    · skip
      refine z_aload_n C dX4_givePapers_40 rfl 0 rfl ?_
      refine z_get C 0 rfl i_X4_givePapers_X4 rfl 6 (by decide) m_X4_givePapers_f44 rfl rfl dX4_givePapers_41 ?_
      refine z_iload_n C dX4_givePapers_44 rfl 1 rfl ?_
      refine z_dup2 C dX4_givePapers_45 rfl rfl ?_
      refine z_iald C 23 0 rfl rfl b (nI_clamp (by omega)) (vp_in_nI (by omega) (by omega)) (pap b) rfl dX4_givePapers_46 ?_
      refine z_iload_n C dX4_givePapers_47 rfl 2 rfl ?_
      refine z_iadd C (v := ((pap b) + x)) dX4_givePapers_48 rfl ?_
      refine z_iast C 23 0 rfl rfl b (nI_clamp (by omega)) (vp_in_nI (by omega) (by omega)) ((pap b) + x) rfl dX4_givePapers_49 (wX ad cI cZ acc net tacc tnet flo bnd frm too amt pri wai byp ldr bor due plg clo (upd pap b ((pap b) + x)) cnd small price cut proc (nI mk) (nI lm) (nI le)) rfl ?_
      refine z_aload_n C dX4_givePapers_50 rfl 0 rfl ?_
      refine z_get C 0 rfl i_X4_givePapers_X4 rfl 6 (by decide) m_X4_givePapers_f44 rfl rfl dX4_givePapers_51 ?_
      refine z_iload_n C dX4_givePapers_54 rfl 1 rfl ?_
      refine z_iald C 23 0 rfl rfl b (nI_clamp (by omega)) (vp_in_nI (by omega) (by omega)) ((upd pap b ((pap b) + x)) b) rfl dX4_givePapers_55 ?_
      exfalso
      exact hbad ⟨by assumption, by assumption⟩
    · skip
      exact z_throwS C (names := ["java/lang/RuntimeException", "java/lang/Exception"]) ht hfl rfl (by decide +kernel) (by decide +kernel) m_X4_givePapers_c77 m_X4_givePapers_n77 (is := 111) (text := "the bank would have too many papers") (by decide +kernel) (by decide +kernel) x_X4_givePapers_30_1 x_X4_givePapers_30_2 x_X4_givePapers_30_3 dX4_givePapers_30 dX4_givePapers_33 dX4_givePapers_34 dX4_givePapers_36 dX4_givePapers_39 ⟨Nat.le_of_ble_eq_true rfl, Nat.le_of_ble_eq_true rfl, Nat.le_of_ble_eq_true rfl, Nat.le_of_ble_eq_true rfl⟩ (by decide) (by decide)
  · skip
    refine z_callVx C (As := [.int (nI b)]) (rest := []) (bad_requireOpen l hfl sa D cI cZ cL ad acc net tacc tnet flo bnd frm too amt pri wai byp ldr bor due plg clo pap cnd small price cut proc mk lm le b (by first | assumption | omega) (by first | assumption | omega)) (cwV 1 C.2.2.2.2.1 gX4_givePapers_X4_requireOpen rfl rfl rfl (by decide +kernel) ⟨Nat.le_of_ble_eq_true rfl, Nat.le_of_ble_eq_true rfl⟩) 0 rfl rfl rfl zSub.full rfl (Nat.le_of_ble_eq_true rfl) ⟨Nat.le_of_ble_eq_true rfl, Nat.le_of_ble_eq_true rfl⟩ dX4_givePapers_14 ?_
    exact z_out C ht (by decide) (by decide)
set_option maxHeartbeats 4000000 in
set_option maxRecDepth 100000 in
theorem c_X4_account_ok (l : Launch) (sa : Nat → Nat) (D : va_G) (cI cZ cL : ClassId) (ad : Nat → Nat) (acc net tacc tnet flo bnd frm too amt pri wai byp ldr bor due plg clo pap cnd : Nat → Int32) (small price cut proc : Int32) (mk lm le : Nat) (b : Nat) (hb : b < 5) : zMi (T := Unit) sa D vwCl (zty cI cZ cL) l yX4_account wsX4_account ({ frames := 7, cells := 0, slots := 0, locals := 102 } : Room) [.ref (ad 0), .int (nI b)] (wX ad cI cZ acc net tacc tnet flo bnd frm too amt pri wai byp ldr bor due plg clo pap cnd small price cut proc (nI mk) (nI lm) (nI le)) (fun r9 _ => r9 = (acc b)) (fun _ => (wX ad cI cZ acc net tacc tnet flo bnd frm too amt pri wai byp ldr bor due plg clo pap cnd small price cut proc (nI mk) (nI lm) (nI le))) 0 0 := by
  refine zMi.of (ret := (some .int)) (cc := cX4_account) (nL := 2) (own := RX4) (by decide +kernel) rfl [(0, .ref (ad 0)), (1, .int (nI b))] rfl (Nat.le_of_ble_eq_true rfl) rfl ?_
  intro A p e s m args below meth c C hmn
  refine z_iload_n C dX4_account_0 rfl 1 rfl ?_
  refine z_callSv C (T := Unit) (As := [.int (nI b)]) (rest := []) (ws' := fun _ => (wX ad cI cZ acc net tacc tnet flo bnd frm too amt pri wai byp ldr bor due plg clo pap cnd small price cut proc (nI mk) (nI lm) (nI le))) (ok_requireBank l sa D cI cZ cL  b (by first | assumption | omega)) (va_cwS 1 C.2.2.2.2.1 gX4_account_X4_requireBank rfl rfl rfl (by decide +kernel) ⟨Nat.le_of_ble_eq_true rfl, Nat.le_of_ble_eq_true rfl⟩) (fun _ => zSub.none) zIn.none rfl (Nat.le_of_ble_eq_true rfl) ⟨Nat.le_of_ble_eq_true rfl, Nat.le_of_ble_eq_true rfl⟩ dX4_account_1 (fun _ _ => ?_)
  refine z_aload_n C dX4_account_4 rfl 0 rfl ?_
  refine z_get C 0 rfl i_X4_account_X4 rfl 0 (by decide) m_X4_account_f10 rfl rfl dX4_account_5 ?_
  refine z_get C 1 rfl i_X4_account_X3 rfl 0 (by decide) m_X4_account_f73 rfl rfl dX4_account_8 ?_
  refine z_iload_n C dX4_account_11 rfl 1 rfl ?_
  refine z_iald C 6 0 rfl rfl b (nI_clamp (by omega)) (vp_in_nI (by omega) (by omega)) (acc b) rfl dX4_account_12 ?_
  exact z_iret C () rfl rfl (by decide) (by decide) dX4_account_13
set_option maxHeartbeats 4000000 in
set_option maxRecDepth 100000 in
theorem c_X4_account_b1 (l : Launch) (hfl : l.stackTraces = false) (sa : Nat → Nat) (D : va_G) (cI cZ cL : ClassId) (ad : Nat → Nat) (acc net tacc tnet flo bnd frm too amt pri wai byp ldr bor due plg clo pap cnd : Nat → Int32) (small price cut proc : Int32) (mk lm le : Nat) (b : Int32) (hb : b < 0 ∨ 5 ≤ b) : zX sa D vwCl (zty cI cZ cL) l yX4_account wsX4_account ({ frames := 7, cells := 1, slots := 6, locals := 102 } : Room) [.ref (ad 0), .int b] (wX ad cI cZ acc net tacc tnet flo bnd frm too amt pri wai byp ldr bor due plg clo pap cnd small price cut proc (nI mk) (nI lm) (nI le)) "java/lang/IndexOutOfBoundsException" 1 6 := by
  refine zX.of (ret := (some .int)) (cc := cX4_account) (nL := 2) (own := RX4) (by decide +kernel) rfl [(0, .ref (ad 0)), (1, .int b)] rfl (Nat.le_of_ble_eq_true rfl) rfl ?_
  intro A p e s m args below meth c C hmn ht
  refine z_iload_n C dX4_account_0 rfl 1 rfl ?_
  refine z_callSx C (As := [.int b]) (rest := []) (bad_requireBank l hfl sa D cI cZ cL  b (by first | assumption | omega)) (va_cwS 1 C.2.2.2.2.1 gX4_account_X4_requireBank rfl rfl rfl (by decide +kernel) ⟨Nat.le_of_ble_eq_true rfl, Nat.le_of_ble_eq_true rfl⟩) zSub.none rfl (Nat.le_of_ble_eq_true rfl) ⟨Nat.le_of_ble_eq_true rfl, Nat.le_of_ble_eq_true rfl⟩ dX4_account_1 ?_
  exact z_out C ht (by decide) (by decide)
set_option maxHeartbeats 4000000 in
set_option maxRecDepth 100000 in
theorem c_X4_papers_ok (l : Launch) (sa : Nat → Nat) (D : va_G) (cI cZ cL : ClassId) (ad : Nat → Nat) (acc net tacc tnet flo bnd frm too amt pri wai byp ldr bor due plg clo pap cnd : Nat → Int32) (small price cut proc : Int32) (mk lm le : Nat) (b : Nat) (hb : b < 5) : zMi (T := Unit) sa D vwCl (zty cI cZ cL) l yX4_papers wsX4_papers ({ frames := 7, cells := 0, slots := 0, locals := 102 } : Room) [.ref (ad 0), .int (nI b)] (wX ad cI cZ acc net tacc tnet flo bnd frm too amt pri wai byp ldr bor due plg clo pap cnd small price cut proc (nI mk) (nI lm) (nI le)) (fun r9 _ => r9 = (pap b)) (fun _ => (wX ad cI cZ acc net tacc tnet flo bnd frm too amt pri wai byp ldr bor due plg clo pap cnd small price cut proc (nI mk) (nI lm) (nI le))) 0 0 := by
  refine zMi.of (ret := (some .int)) (cc := cX4_papers) (nL := 2) (own := RX4) (by decide +kernel) rfl [(0, .ref (ad 0)), (1, .int (nI b))] rfl (Nat.le_of_ble_eq_true rfl) rfl ?_
  intro A p e s m args below meth c C hmn
  refine z_iload_n C dX4_papers_0 rfl 1 rfl ?_
  refine z_callSv C (T := Unit) (As := [.int (nI b)]) (rest := []) (ws' := fun _ => (wX ad cI cZ acc net tacc tnet flo bnd frm too amt pri wai byp ldr bor due plg clo pap cnd small price cut proc (nI mk) (nI lm) (nI le))) (ok_requireBank l sa D cI cZ cL  b (by first | assumption | omega)) (va_cwS 1 C.2.2.2.2.1 gX4_papers_X4_requireBank rfl rfl rfl (by decide +kernel) ⟨Nat.le_of_ble_eq_true rfl, Nat.le_of_ble_eq_true rfl⟩) (fun _ => zSub.none) zIn.none rfl (Nat.le_of_ble_eq_true rfl) ⟨Nat.le_of_ble_eq_true rfl, Nat.le_of_ble_eq_true rfl⟩ dX4_papers_1 (fun _ _ => ?_)
  refine z_aload_n C dX4_papers_4 rfl 0 rfl ?_
  refine z_get C 0 rfl i_X4_papers_X4 rfl 6 (by decide) m_X4_papers_f44 rfl rfl dX4_papers_5 ?_
  refine z_iload_n C dX4_papers_8 rfl 1 rfl ?_
  refine z_iald C 23 0 rfl rfl b (nI_clamp (by omega)) (vp_in_nI (by omega) (by omega)) (pap b) rfl dX4_papers_9 ?_
  exact z_iret C () rfl rfl (by decide) (by decide) dX4_papers_10
set_option maxHeartbeats 4000000 in
set_option maxRecDepth 100000 in
theorem c_X4_papers_b1 (l : Launch) (hfl : l.stackTraces = false) (sa : Nat → Nat) (D : va_G) (cI cZ cL : ClassId) (ad : Nat → Nat) (acc net tacc tnet flo bnd frm too amt pri wai byp ldr bor due plg clo pap cnd : Nat → Int32) (small price cut proc : Int32) (mk lm le : Nat) (b : Int32) (hb : b < 0 ∨ 5 ≤ b) : zX sa D vwCl (zty cI cZ cL) l yX4_papers wsX4_papers ({ frames := 7, cells := 1, slots := 6, locals := 102 } : Room) [.ref (ad 0), .int b] (wX ad cI cZ acc net tacc tnet flo bnd frm too amt pri wai byp ldr bor due plg clo pap cnd small price cut proc (nI mk) (nI lm) (nI le)) "java/lang/IndexOutOfBoundsException" 1 6 := by
  refine zX.of (ret := (some .int)) (cc := cX4_papers) (nL := 2) (own := RX4) (by decide +kernel) rfl [(0, .ref (ad 0)), (1, .int b)] rfl (Nat.le_of_ble_eq_true rfl) rfl ?_
  intro A p e s m args below meth c C hmn ht
  refine z_iload_n C dX4_papers_0 rfl 1 rfl ?_
  refine z_callSx C (As := [.int b]) (rest := []) (bad_requireBank l hfl sa D cI cZ cL  b (by first | assumption | omega)) (va_cwS 1 C.2.2.2.2.1 gX4_papers_X4_requireBank rfl rfl rfl (by decide +kernel) ⟨Nat.le_of_ble_eq_true rfl, Nat.le_of_ble_eq_true rfl⟩) zSub.none rfl (Nat.le_of_ble_eq_true rfl) ⟨Nat.le_of_ble_eq_true rfl, Nat.le_of_ble_eq_true rfl⟩ dX4_papers_1 ?_
  exact z_out C ht (by decide) (by decide)
set_option maxHeartbeats 4000000 in
set_option maxRecDepth 100000 in
theorem c_X4_isOpen_ok (l : Launch) (sa : Nat → Nat) (D : va_G) (cI cZ cL : ClassId) (ad : Nat → Nat) (acc net tacc tnet flo bnd frm too amt pri wai byp ldr bor due plg clo pap cnd : Nat → Int32) (small price cut proc : Int32) (mk lm le : Nat) (b : Nat) (hb : b < 5) : zMi (T := Unit) sa D vwCl (zty cI cZ cL) l yX4_isOpen wsX4_isOpen ({ frames := 7, cells := 0, slots := 0, locals := 102 } : Room) [.ref (ad 0), .int (nI b)] (wX ad cI cZ acc net tacc tnet flo bnd frm too amt pri wai byp ldr bor due plg clo pap cnd small price cut proc (nI mk) (nI lm) (nI le)) (fun r9 _ => r9 = if clo b = 0 then 1 else 0) (fun _ => (wX ad cI cZ acc net tacc tnet flo bnd frm too amt pri wai byp ldr bor due plg clo pap cnd small price cut proc (nI mk) (nI lm) (nI le))) 0 0 := by
  refine zMi.of (ret := (some .boolean)) (cc := cX4_isOpen) (nL := 2) (own := RX4) (by decide +kernel) rfl [(0, .ref (ad 0)), (1, .int (nI b))] rfl (Nat.le_of_ble_eq_true rfl) rfl ?_
  intro A p e s m args below meth c C hmn
  refine z_iload_n C dX4_isOpen_0 rfl 1 rfl ?_
  refine z_callSv C (T := Unit) (As := [.int (nI b)]) (rest := []) (ws' := fun _ => (wX ad cI cZ acc net tacc tnet flo bnd frm too amt pri wai byp ldr bor due plg clo pap cnd small price cut proc (nI mk) (nI lm) (nI le))) (ok_requireBank l sa D cI cZ cL  b (by first | assumption | omega)) (va_cwS 1 C.2.2.2.2.1 gX4_isOpen_X4_requireBank rfl rfl rfl (by decide +kernel) ⟨Nat.le_of_ble_eq_true rfl, Nat.le_of_ble_eq_true rfl⟩) (fun _ => zSub.none) zIn.none rfl (Nat.le_of_ble_eq_true rfl) ⟨Nat.le_of_ble_eq_true rfl, Nat.le_of_ble_eq_true rfl⟩ dX4_isOpen_1 (fun _ _ => ?_)
  refine z_aload_n C dX4_isOpen_4 rfl 0 rfl ?_
  refine z_get C 0 rfl i_X4_isOpen_X4 rfl 5 (by decide) m_X4_isOpen_f40 rfl rfl dX4_isOpen_5 ?_
  refine z_iload_n C dX4_isOpen_8 rfl 1 rfl ?_
  refine z_zald C 22 1 rfl rfl b (nI_clamp (by omega)) (vp_in_nI (by omega) (by omega)) (clo b) rfl dX4_isOpen_9 ?_
  refine z_if_ne C (tgt := 17) dX4_isOpen_10 (by decide) (fun c10_1 => ?_) (fun c10_1 => ?_)
  · skip
    refine z_iconst C (v := 0) dX4_isOpen_17 (by decide) ?_
    exact z_zret C () (by simp [c10_1]) rfl (by decide) (by decide) (by decide) dX4_isOpen_18
  · skip
    refine z_iconst C (v := 1) dX4_isOpen_13 (by decide) ?_
    refine z_goto C (tgt := 18) dX4_isOpen_14 (by decide) ?_
    exact z_zret C () (by simp [c10_1]) rfl (by decide) (by decide) (by decide) dX4_isOpen_18
set_option maxHeartbeats 4000000 in
set_option maxRecDepth 100000 in
theorem c_X4_isOpen_b1 (l : Launch) (hfl : l.stackTraces = false) (sa : Nat → Nat) (D : va_G) (cI cZ cL : ClassId) (ad : Nat → Nat) (acc net tacc tnet flo bnd frm too amt pri wai byp ldr bor due plg clo pap cnd : Nat → Int32) (small price cut proc : Int32) (mk lm le : Nat) (b : Int32) (hb : b < 0 ∨ 5 ≤ b) : zX sa D vwCl (zty cI cZ cL) l yX4_isOpen wsX4_isOpen ({ frames := 7, cells := 1, slots := 6, locals := 102 } : Room) [.ref (ad 0), .int b] (wX ad cI cZ acc net tacc tnet flo bnd frm too amt pri wai byp ldr bor due plg clo pap cnd small price cut proc (nI mk) (nI lm) (nI le)) "java/lang/IndexOutOfBoundsException" 1 6 := by
  refine zX.of (ret := (some .boolean)) (cc := cX4_isOpen) (nL := 2) (own := RX4) (by decide +kernel) rfl [(0, .ref (ad 0)), (1, .int b)] rfl (Nat.le_of_ble_eq_true rfl) rfl ?_
  intro A p e s m args below meth c C hmn ht
  refine z_iload_n C dX4_isOpen_0 rfl 1 rfl ?_
  refine z_callSx C (As := [.int b]) (rest := []) (bad_requireBank l hfl sa D cI cZ cL  b (by first | assumption | omega)) (va_cwS 1 C.2.2.2.2.1 gX4_isOpen_X4_requireBank rfl rfl rfl (by decide +kernel) ⟨Nat.le_of_ble_eq_true rfl, Nat.le_of_ble_eq_true rfl⟩) zSub.none rfl (Nat.le_of_ble_eq_true rfl) ⟨Nat.le_of_ble_eq_true rfl, Nat.le_of_ble_eq_true rfl⟩ dX4_isOpen_1 ?_
  exact z_out C ht (by decide) (by decide)
set_option maxHeartbeats 4000000 in
set_option maxRecDepth 100000 in
theorem c_X4_paid_ok (l : Launch) (sa : Nat → Nat) (D : va_G) (cI cZ cL : ClassId) (ad : Nat → Nat) (acc net tacc tnet flo bnd frm too amt pri wai byp ldr bor due plg clo pap cnd : Nat → Int32) (small price cut proc : Int32) (mk lm le : Nat) (b : Nat) (o : Nat) (hb : b < 5) (ho : o < 5) : zMi (T := Unit) sa D vwCl (zty cI cZ cL) l yX4_paid wsX4_paid ({ frames := 7, cells := 0, slots := 0, locals := 102 } : Room) [.ref (ad 0), .int (nI b), .int (nI o)] (wX ad cI cZ acc net tacc tnet flo bnd frm too amt pri wai byp ldr bor due plg clo pap cnd small price cut proc (nI mk) (nI lm) (nI le)) (fun r9 _ => r9 = (net (b * 5 + o))) (fun _ => (wX ad cI cZ acc net tacc tnet flo bnd frm too amt pri wai byp ldr bor due plg clo pap cnd small price cut proc (nI mk) (nI lm) (nI le))) 0 0 := by
  refine zMi.of (ret := (some .int)) (cc := cX4_paid) (nL := 3) (own := RX4) (by decide +kernel) rfl [(0, .ref (ad 0)), (1, .int (nI b)), (2, .int (nI o))] rfl (Nat.le_of_ble_eq_true rfl) rfl ?_
  intro A p e s m args below meth c C hmn
  refine z_iload_n C dX4_paid_0 rfl 1 rfl ?_
  refine z_callSv C (T := Unit) (As := [.int (nI b)]) (rest := []) (ws' := fun _ => (wX ad cI cZ acc net tacc tnet flo bnd frm too amt pri wai byp ldr bor due plg clo pap cnd small price cut proc (nI mk) (nI lm) (nI le))) (ok_requireBank l sa D cI cZ cL  b (by first | assumption | omega)) (va_cwS 1 C.2.2.2.2.1 gX4_paid_X4_requireBank rfl rfl rfl (by decide +kernel) ⟨Nat.le_of_ble_eq_true rfl, Nat.le_of_ble_eq_true rfl⟩) (fun _ => zSub.none) zIn.none rfl (Nat.le_of_ble_eq_true rfl) ⟨Nat.le_of_ble_eq_true rfl, Nat.le_of_ble_eq_true rfl⟩ dX4_paid_1 (fun _ _ => ?_)
  refine z_iload_n C dX4_paid_4 rfl 2 rfl ?_
  refine z_callSv C (T := Unit) (As := [.int (nI o)]) (rest := []) (ws' := fun _ => (wX ad cI cZ acc net tacc tnet flo bnd frm too amt pri wai byp ldr bor due plg clo pap cnd small price cut proc (nI mk) (nI lm) (nI le))) (ok_requireBank l sa D cI cZ cL  o (by first | assumption | omega)) (va_cwS 1 C.2.2.2.2.1 gX4_paid_X4_requireBank rfl rfl rfl (by decide +kernel) ⟨Nat.le_of_ble_eq_true rfl, Nat.le_of_ble_eq_true rfl⟩) (fun _ => zSub.none) zIn.none rfl (Nat.le_of_ble_eq_true rfl) ⟨Nat.le_of_ble_eq_true rfl, Nat.le_of_ble_eq_true rfl⟩ dX4_paid_5 (fun _ _ => ?_)
  refine z_aload_n C dX4_paid_8 rfl 0 rfl ?_
  refine z_get C 0 rfl i_X4_paid_X4 rfl 0 (by decide) m_X4_paid_f10 rfl rfl dX4_paid_9 ?_
  refine z_get C 1 rfl i_X4_paid_X3 rfl 1 (by decide) m_X4_paid_f101 rfl rfl dX4_paid_12 ?_
  refine z_iload_n C dX4_paid_15 rfl 1 rfl ?_
  refine z_iload_n C dX4_paid_16 rfl 2 rfl ?_
  refine z_callSi C (T := Unit) (As := [.int (nI b), .int (nI o)]) (rest := [.ref (ad 7)]) (ws' := fun _ => (wX ad cI cZ acc net tacc tnet flo bnd frm too amt pri wai byp ldr bor due plg clo pap cnd small price cut proc (nI mk) (nI lm) (nI le))) (c_X4_pairOf l sa D cI cZ cL  b o ) (va_cwS 2 C.2.2.2.2.1 gX4_paid_X4_pairOf rfl rfl rfl (by decide +kernel) ⟨Nat.le_of_ble_eq_true rfl, Nat.le_of_ble_eq_true rfl⟩) (fun _ => zSub.none) zIn.none rfl (Nat.le_of_ble_eq_true rfl) ⟨Nat.le_of_ble_eq_true rfl, Nat.le_of_ble_eq_true rfl⟩ dX4_paid_17 (fun r_1 _ h_2 => ?_)
  obtain rfl : r_1 = (nI (b * 5 + o)) := h_2
  refine z_iald C 7 0 rfl rfl (b * 5 + o) (nI_clamp (by omega)) (vp_in_nI (by omega) (by omega)) (net (b * 5 + o)) rfl dX4_paid_20 ?_
  exact z_iret C () rfl rfl (by decide) (by decide) dX4_paid_21
set_option maxHeartbeats 4000000 in
set_option maxRecDepth 100000 in
theorem c_X4_paid_b1 (l : Launch) (hfl : l.stackTraces = false) (sa : Nat → Nat) (D : va_G) (cI cZ cL : ClassId) (ad : Nat → Nat) (acc net tacc tnet flo bnd frm too amt pri wai byp ldr bor due plg clo pap cnd : Nat → Int32) (small price cut proc : Int32) (mk lm le : Nat) (b : Int32) (o : Int32) (hb : b < 0 ∨ 5 ≤ b) : zX sa D vwCl (zty cI cZ cL) l yX4_paid wsX4_paid ({ frames := 7, cells := 1, slots := 6, locals := 102 } : Room) [.ref (ad 0), .int b, .int o] (wX ad cI cZ acc net tacc tnet flo bnd frm too amt pri wai byp ldr bor due plg clo pap cnd small price cut proc (nI mk) (nI lm) (nI le)) "java/lang/IndexOutOfBoundsException" 1 6 := by
  refine zX.of (ret := (some .int)) (cc := cX4_paid) (nL := 3) (own := RX4) (by decide +kernel) rfl [(0, .ref (ad 0)), (1, .int b), (2, .int o)] rfl (Nat.le_of_ble_eq_true rfl) rfl ?_
  intro A p e s m args below meth c C hmn ht
  refine z_iload_n C dX4_paid_0 rfl 1 rfl ?_
  refine z_callSx C (As := [.int b]) (rest := []) (bad_requireBank l hfl sa D cI cZ cL  b (by first | assumption | omega)) (va_cwS 1 C.2.2.2.2.1 gX4_paid_X4_requireBank rfl rfl rfl (by decide +kernel) ⟨Nat.le_of_ble_eq_true rfl, Nat.le_of_ble_eq_true rfl⟩) zSub.none rfl (Nat.le_of_ble_eq_true rfl) ⟨Nat.le_of_ble_eq_true rfl, Nat.le_of_ble_eq_true rfl⟩ dX4_paid_1 ?_
  exact z_out C ht (by decide) (by decide)
set_option maxHeartbeats 4000000 in
set_option maxRecDepth 100000 in
theorem c_X4_paid_b1b (l : Launch) (hfl : l.stackTraces = false) (sa : Nat → Nat) (D : va_G) (cI cZ cL : ClassId) (ad : Nat → Nat) (acc net tacc tnet flo bnd frm too amt pri wai byp ldr bor due plg clo pap cnd : Nat → Int32) (small price cut proc : Int32) (mk lm le : Nat) (b : Nat) (o : Int32) (hb : b < 5) (ho : o < 0 ∨ 5 ≤ o) : zX sa D vwCl (zty cI cZ cL) l yX4_paid wsX4_paid ({ frames := 7, cells := 1, slots := 6, locals := 102 } : Room) [.ref (ad 0), .int (nI b), .int o] (wX ad cI cZ acc net tacc tnet flo bnd frm too amt pri wai byp ldr bor due plg clo pap cnd small price cut proc (nI mk) (nI lm) (nI le)) "java/lang/IndexOutOfBoundsException" 1 6 := by
  refine zX.of (ret := (some .int)) (cc := cX4_paid) (nL := 3) (own := RX4) (by decide +kernel) rfl [(0, .ref (ad 0)), (1, .int (nI b)), (2, .int o)] rfl (Nat.le_of_ble_eq_true rfl) rfl ?_
  intro A p e s m args below meth c C hmn ht
  refine z_iload_n C dX4_paid_0 rfl 1 rfl ?_
  refine z_callSv C (T := Unit) (As := [.int (nI b)]) (rest := []) (ws' := fun _ => (wX ad cI cZ acc net tacc tnet flo bnd frm too amt pri wai byp ldr bor due plg clo pap cnd small price cut proc (nI mk) (nI lm) (nI le))) (ok_requireBank l sa D cI cZ cL  b (by first | assumption | omega)) (va_cwS 1 C.2.2.2.2.1 gX4_paid_X4_requireBank rfl rfl rfl (by decide +kernel) ⟨Nat.le_of_ble_eq_true rfl, Nat.le_of_ble_eq_true rfl⟩) (fun _ => zSub.none) zIn.none rfl (Nat.le_of_ble_eq_true rfl) ⟨Nat.le_of_ble_eq_true rfl, Nat.le_of_ble_eq_true rfl⟩ dX4_paid_1 (fun _ _ => ?_)
  refine z_iload_n C dX4_paid_4 rfl 2 rfl ?_
  refine z_callSx C (As := [.int o]) (rest := []) (bad_requireBank l hfl sa D cI cZ cL  o (by first | assumption | omega)) (va_cwS 1 C.2.2.2.2.1 gX4_paid_X4_requireBank rfl rfl rfl (by decide +kernel) ⟨Nat.le_of_ble_eq_true rfl, Nat.le_of_ble_eq_true rfl⟩) zSub.none rfl (Nat.le_of_ble_eq_true rfl) ⟨Nat.le_of_ble_eq_true rfl, Nat.le_of_ble_eq_true rfl⟩ dX4_paid_5 ?_
  exact z_out C ht (by decide) (by decide)
set_option maxHeartbeats 4000000 in
set_option maxRecDepth 100000 in
theorem c_X4_pay_ok (l : Launch) (sa : Nat → Nat) (D : va_G) (cI cZ cL : ClassId) (ad : Nat → Nat) (acc net tacc tnet flo bnd frm too amt pri wai byp ldr bor due plg clo pap cnd : Nat → Int32) (small price cut proc : Int32) (mk lm le : Nat) (b : Nat) (o : Nat) (x : Int32) (r : Nat) (hb : b < 5) (ho : o < 5) (hft : b ≠ o) (h1 : ¬ x < 1) (h2 : ¬ 100000 < x) (hr : r < 3) (hcb : clo b = 0) (hco : clo o = 0) (hmk : mk < 60) (hpri : wf3 mk pri) (hbyp : bypOK byp pri mk) : zMi (T := Nat → Int32) sa D vwCl (zty cI cZ cL) l yX4_pay wsX4_pay ({ frames := 7, cells := 0, slots := 0, locals := 104 } : Room) [.ref (ad 0), .int (nI b), .int (nI o), .int x, .int (nI r)] (wX ad cI cZ acc net tacc tnet flo bnd frm too amt pri wai byp ldr bor due plg clo pap cnd small price cut proc (nI mk) (nI lm) (nI le)) (fun r9 u => r9 = (nI mk) ∧ bypOK u (upd pri mk (nI r)) (mk + 1)) (fun u => (wX ad cI cZ acc net tacc tnet flo bnd (upd frm mk (nI b)) (upd too mk (nI o)) (upd amt mk x) (upd pri mk (nI r)) (upd wai mk 1) u ldr bor due plg clo pap cnd small price cut proc (nI (mk + 1)) (nI lm) (nI le))) 0 0 := by
  refine zMi.of (ret := (some .int)) (cc := cX4_pay) (nL := 5) (own := RX4) (by decide +kernel) rfl [(0, .ref (ad 0)), (1, .int (nI b)), (2, .int (nI o)), (3, .int x), (4, .int (nI r))] rfl (Nat.le_of_ble_eq_true rfl) rfl ?_
  intro A p e s m args below meth c C hmn
  refine z_iload_n C dX4_pay_0 rfl 1 rfl ?_
  refine z_callSv C (T := Unit) (As := [.int (nI b)]) (rest := []) (ws' := fun _ => (wX ad cI cZ acc net tacc tnet flo bnd frm too amt pri wai byp ldr bor due plg clo pap cnd small price cut proc (nI mk) (nI lm) (nI le))) (ok_requireBank l sa D cI cZ cL  b (by first | assumption | omega)) (va_cwS 1 C.2.2.2.2.1 gX4_pay_X4_requireBank rfl rfl rfl (by decide +kernel) ⟨Nat.le_of_ble_eq_true rfl, Nat.le_of_ble_eq_true rfl⟩) (fun _ => zSub.none) zIn.none rfl (Nat.le_of_ble_eq_true rfl) ⟨Nat.le_of_ble_eq_true rfl, Nat.le_of_ble_eq_true rfl⟩ dX4_pay_1 (fun _ _ => ?_)
  refine z_iload_n C dX4_pay_4 rfl 2 rfl ?_
  refine z_callSv C (T := Unit) (As := [.int (nI o)]) (rest := []) (ws' := fun _ => (wX ad cI cZ acc net tacc tnet flo bnd frm too amt pri wai byp ldr bor due plg clo pap cnd small price cut proc (nI mk) (nI lm) (nI le))) (ok_requireBank l sa D cI cZ cL  o (by first | assumption | omega)) (va_cwS 1 C.2.2.2.2.1 gX4_pay_X4_requireBank rfl rfl rfl (by decide +kernel) ⟨Nat.le_of_ble_eq_true rfl, Nat.le_of_ble_eq_true rfl⟩) (fun _ => zSub.none) zIn.none rfl (Nat.le_of_ble_eq_true rfl) ⟨Nat.le_of_ble_eq_true rfl, Nat.le_of_ble_eq_true rfl⟩ dX4_pay_5 (fun _ _ => ?_)
  refine z_iload_n C dX4_pay_8 rfl 1 rfl ?_
  refine z_iload_n C dX4_pay_9 rfl 2 rfl ?_
  refine z_callSv C (T := Unit) (As := [.int (nI b), .int (nI o)]) (rest := []) (ws' := fun _ => (wX ad cI cZ acc net tacc tnet flo bnd frm too amt pri wai byp ldr bor due plg clo pap cnd small price cut proc (nI mk) (nI lm) (nI le))) (ok_requireTwo l sa D cI cZ cL  b o (by first | assumption | omega) (by first | assumption | omega) (by first | assumption | omega)) (va_cwS 2 C.2.2.2.2.1 gX4_pay_X4_requireTwo rfl rfl rfl (by decide +kernel) ⟨Nat.le_of_ble_eq_true rfl, Nat.le_of_ble_eq_true rfl⟩) (fun _ => zSub.none) zIn.none rfl (Nat.le_of_ble_eq_true rfl) ⟨Nat.le_of_ble_eq_true rfl, Nat.le_of_ble_eq_true rfl⟩ dX4_pay_10 (fun _ _ => ?_)
  refine z_iload_n C dX4_pay_13 rfl 3 rfl ?_
  refine z_iconst C (v := 1) dX4_pay_14 (by decide) ?_
  refine z_ldc C m_X4_pay_k110 dX4_pay_15 ?_
  refine z_callSv C (T := Unit) (As := [.int x, .int 1, .int 100000]) (rest := []) (ws' := fun _ => (wX ad cI cZ acc net tacc tnet flo bnd frm too amt pri wai byp ldr bor due plg clo pap cnd small price cut proc (nI mk) (nI lm) (nI le))) (ok_requireRange l sa D cI cZ cL  x 1 100000 (by first | assumption | omega) (by first | assumption | omega)) (va_cwS 3 C.2.2.2.2.1 gX4_pay_X4_requireRange rfl rfl rfl (by decide +kernel) ⟨Nat.le_of_ble_eq_true rfl, Nat.le_of_ble_eq_true rfl⟩) (fun _ => zSub.none) zIn.none rfl (Nat.le_of_ble_eq_true rfl) ⟨Nat.le_of_ble_eq_true rfl, Nat.le_of_ble_eq_true rfl⟩ dX4_pay_17 (fun _ _ => ?_)
  refine z_iload C dX4_pay_20 4 rfl ?_
  refine z_iconst C (v := 0) dX4_pay_22 (by decide) ?_
  refine z_iconst C (v := 2) dX4_pay_23 (by decide) ?_
  refine z_callSv C (T := Unit) (As := [.int (nI r), .int 0, .int 2]) (rest := []) (ws' := fun _ => (wX ad cI cZ acc net tacc tnet flo bnd frm too amt pri wai byp ldr bor due plg clo pap cnd small price cut proc (nI mk) (nI lm) (nI le))) (ok_requireRange l sa D cI cZ cL  (nI r) 0 2 (by exact nI_pos (by omega)) (by exact nI_nlt (a := 2) (b := r) (by omega) (by decide))) (va_cwS 3 C.2.2.2.2.1 gX4_pay_X4_requireRange rfl rfl rfl (by decide +kernel) ⟨Nat.le_of_ble_eq_true rfl, Nat.le_of_ble_eq_true rfl⟩) (fun _ => zSub.none) zIn.none rfl (Nat.le_of_ble_eq_true rfl) ⟨Nat.le_of_ble_eq_true rfl, Nat.le_of_ble_eq_true rfl⟩ dX4_pay_24 (fun _ _ => ?_)
  refine z_aload_n C dX4_pay_27 rfl 0 rfl ?_
  refine z_iload_n C dX4_pay_28 rfl 1 rfl ?_
  refine z_callVv C (T := Unit) (As := [.int (nI b)]) (rest := []) (ws' := fun _ => (wX ad cI cZ acc net tacc tnet flo bnd frm too amt pri wai byp ldr bor due plg clo pap cnd small price cut proc (nI mk) (nI lm) (nI le))) (ok_requireOpen l sa D cI cZ cL ad acc net tacc tnet flo bnd frm too amt pri wai byp ldr bor due plg clo pap cnd small price cut proc mk lm le b (by first | assumption | omega) (by first | assumption | omega)) (cwV 1 C.2.2.2.2.1 gX4_pay_X4_requireOpen rfl rfl rfl (by decide +kernel) ⟨Nat.le_of_ble_eq_true rfl, Nat.le_of_ble_eq_true rfl⟩) 0 rfl rfl rfl (fun _ => zSub.full) zIn.full rfl (Nat.le_of_ble_eq_true rfl) ⟨Nat.le_of_ble_eq_true rfl, Nat.le_of_ble_eq_true rfl⟩ dX4_pay_29 (fun _ _ => ?_)
  refine z_aload_n C dX4_pay_32 rfl 0 rfl ?_
  refine z_iload_n C dX4_pay_33 rfl 2 rfl ?_
  refine z_callVv C (T := Unit) (As := [.int (nI o)]) (rest := []) (ws' := fun _ => (wX ad cI cZ acc net tacc tnet flo bnd frm too amt pri wai byp ldr bor due plg clo pap cnd small price cut proc (nI mk) (nI lm) (nI le))) (ok_requireOpen l sa D cI cZ cL ad acc net tacc tnet flo bnd frm too amt pri wai byp ldr bor due plg clo pap cnd small price cut proc mk lm le o (by first | assumption | omega) (by first | assumption | omega)) (cwV 1 C.2.2.2.2.1 gX4_pay_X4_requireOpen rfl rfl rfl (by decide +kernel) ⟨Nat.le_of_ble_eq_true rfl, Nat.le_of_ble_eq_true rfl⟩) 0 rfl rfl rfl (fun _ => zSub.full) zIn.full rfl (Nat.le_of_ble_eq_true rfl) ⟨Nat.le_of_ble_eq_true rfl, Nat.le_of_ble_eq_true rfl⟩ dX4_pay_34 (fun _ _ => ?_)
  refine z_aload_n C dX4_pay_37 rfl 0 rfl ?_
  refine z_get C 0 rfl i_X4_pay_X4 rfl 3 (by decide) m_X4_pay_f29 rfl rfl dX4_pay_38 ?_
  refine z_get C 4 rfl i_X4_pay_X2 rfl 6 (by decide) m_X4_pay_f113 rfl rfl dX4_pay_41 ?_
  refine z_bipush C (v := 60) dX4_pay_44 (by decide) ?_
  refine z_icmp_lt C (tgt := 59) dX4_pay_46 (by decide) (fun c46_1 => ?_) (fun c46_1 => ?_)
  · skip
    have n_2 : mk < 60 := (nI_ltI (a := mk) (b := 60) (by omega) (by omega)).mp c46_1
    refine z_aload_n C dX4_pay_59 rfl 0 rfl ?_
    refine z_get C 0 rfl i_X4_pay_X4 rfl 3 (by decide) m_X4_pay_f29 rfl rfl dX4_pay_60 ?_
    refine z_iload_n C dX4_pay_63 rfl 1 rfl ?_
    refine z_iload_n C dX4_pay_64 rfl 2 rfl ?_
    refine z_iload_n C dX4_pay_65 rfl 3 rfl ?_
    refine z_iload C dX4_pay_66 4 rfl ?_
    refine z_callVi C (As := [.int (nI b), .int (nI o), .int x, .int (nI r)]) (rest := []) (ws' := fun u_3 => (wX ad cI cZ acc net tacc tnet flo bnd (upd frm mk (nI b)) (upd too mk (nI o)) (upd amt mk x) (upd pri mk (nI r)) (upd wai mk 1) u_3 ldr bor due plg clo pap cnd small price cut proc (nI (mk + 1)) (nI lm) (nI le))) (c_X2_enter l sa D cI cZ cL ad acc net tacc tnet flo bnd frm too amt pri wai byp ldr bor due plg clo pap cnd small price cut proc mk lm le b o x r (by first | assumption | omega) (by first | assumption | omega) (by first | assumption | omega) (by first | assumption | omega) (by first | assumption | omega) (by first | assumption | omega)) (cwV 4 C.2.2.2.2.1 gX4_pay_X2_enter rfl rfl rfl (by decide +kernel) ⟨Nat.le_of_ble_eq_true rfl, Nat.le_of_ble_eq_true rfl⟩) 4 rfl rfl rfl (fun _ => zSub.full) zIn.full rfl (Nat.le_of_ble_eq_true rfl) ⟨Nat.le_of_ble_eq_true rfl, Nat.le_of_ble_eq_true rfl⟩ dX4_pay_68 (fun r_4 u_3 h_5 => ?_)
    obtain ⟨h_5, hx_6⟩ := h_5
    obtain rfl : r_4 = (nI mk) := h_5
    exact z_iret C u_3 (by exact ⟨rfl, hx_6⟩) rfl (by decide) (by decide) dX4_pay_71
  · skip
    have n_7 : ¬ mk < 60 := fun q => c46_1 ((nI_ltI (a := mk) (b := 60) (by omega) (by omega)).mpr q)
    exfalso
    first | omega | contradiction | exact absurd (by assumption) (Int32.not_le.mpr (by assumption))
set_option maxHeartbeats 4000000 in
set_option maxRecDepth 100000 in
theorem c_X4_pay_b1 (l : Launch) (hfl : l.stackTraces = false) (sa : Nat → Nat) (D : va_G) (cI cZ cL : ClassId) (ad : Nat → Nat) (acc net tacc tnet flo bnd frm too amt pri wai byp ldr bor due plg clo pap cnd : Nat → Int32) (small price cut proc : Int32) (mk lm le : Nat) (b : Int32) (o : Int32) (x : Int32) (r : Int32) (hb : b < 0 ∨ 5 ≤ b) : zX sa D vwCl (zty cI cZ cL) l yX4_pay wsX4_pay ({ frames := 7, cells := 1, slots := 6, locals := 102 } : Room) [.ref (ad 0), .int b, .int o, .int x, .int r] (wX ad cI cZ acc net tacc tnet flo bnd frm too amt pri wai byp ldr bor due plg clo pap cnd small price cut proc (nI mk) (nI lm) (nI le)) "java/lang/IndexOutOfBoundsException" 1 6 := by
  refine zX.of (ret := (some .int)) (cc := cX4_pay) (nL := 5) (own := RX4) (by decide +kernel) rfl [(0, .ref (ad 0)), (1, .int b), (2, .int o), (3, .int x), (4, .int r)] rfl (Nat.le_of_ble_eq_true rfl) rfl ?_
  intro A p e s m args below meth c C hmn ht
  refine z_iload_n C dX4_pay_0 rfl 1 rfl ?_
  refine z_callSx C (As := [.int b]) (rest := []) (bad_requireBank l hfl sa D cI cZ cL  b (by first | assumption | omega)) (va_cwS 1 C.2.2.2.2.1 gX4_pay_X4_requireBank rfl rfl rfl (by decide +kernel) ⟨Nat.le_of_ble_eq_true rfl, Nat.le_of_ble_eq_true rfl⟩) zSub.none rfl (Nat.le_of_ble_eq_true rfl) ⟨Nat.le_of_ble_eq_true rfl, Nat.le_of_ble_eq_true rfl⟩ dX4_pay_1 ?_
  exact z_out C ht (by decide) (by decide)
set_option maxHeartbeats 4000000 in
set_option maxRecDepth 100000 in
theorem c_X4_pay_b1b (l : Launch) (hfl : l.stackTraces = false) (sa : Nat → Nat) (D : va_G) (cI cZ cL : ClassId) (ad : Nat → Nat) (acc net tacc tnet flo bnd frm too amt pri wai byp ldr bor due plg clo pap cnd : Nat → Int32) (small price cut proc : Int32) (mk lm le : Nat) (b : Nat) (o : Int32) (x : Int32) (r : Int32) (hb : b < 5) (ho : o < 0 ∨ 5 ≤ o) : zX sa D vwCl (zty cI cZ cL) l yX4_pay wsX4_pay ({ frames := 7, cells := 1, slots := 6, locals := 102 } : Room) [.ref (ad 0), .int (nI b), .int o, .int x, .int r] (wX ad cI cZ acc net tacc tnet flo bnd frm too amt pri wai byp ldr bor due plg clo pap cnd small price cut proc (nI mk) (nI lm) (nI le)) "java/lang/IndexOutOfBoundsException" 1 6 := by
  refine zX.of (ret := (some .int)) (cc := cX4_pay) (nL := 5) (own := RX4) (by decide +kernel) rfl [(0, .ref (ad 0)), (1, .int (nI b)), (2, .int o), (3, .int x), (4, .int r)] rfl (Nat.le_of_ble_eq_true rfl) rfl ?_
  intro A p e s m args below meth c C hmn ht
  refine z_iload_n C dX4_pay_0 rfl 1 rfl ?_
  refine z_callSv C (T := Unit) (As := [.int (nI b)]) (rest := []) (ws' := fun _ => (wX ad cI cZ acc net tacc tnet flo bnd frm too amt pri wai byp ldr bor due plg clo pap cnd small price cut proc (nI mk) (nI lm) (nI le))) (ok_requireBank l sa D cI cZ cL  b (by first | assumption | omega)) (va_cwS 1 C.2.2.2.2.1 gX4_pay_X4_requireBank rfl rfl rfl (by decide +kernel) ⟨Nat.le_of_ble_eq_true rfl, Nat.le_of_ble_eq_true rfl⟩) (fun _ => zSub.none) zIn.none rfl (Nat.le_of_ble_eq_true rfl) ⟨Nat.le_of_ble_eq_true rfl, Nat.le_of_ble_eq_true rfl⟩ dX4_pay_1 (fun _ _ => ?_)
  refine z_iload_n C dX4_pay_4 rfl 2 rfl ?_
  refine z_callSx C (As := [.int o]) (rest := []) (bad_requireBank l hfl sa D cI cZ cL  o (by first | assumption | omega)) (va_cwS 1 C.2.2.2.2.1 gX4_pay_X4_requireBank rfl rfl rfl (by decide +kernel) ⟨Nat.le_of_ble_eq_true rfl, Nat.le_of_ble_eq_true rfl⟩) zSub.none rfl (Nat.le_of_ble_eq_true rfl) ⟨Nat.le_of_ble_eq_true rfl, Nat.le_of_ble_eq_true rfl⟩ dX4_pay_5 ?_
  exact z_out C ht (by decide) (by decide)
set_option maxHeartbeats 4000000 in
set_option maxRecDepth 100000 in
theorem c_X4_pay_b2a (l : Launch) (hfl : l.stackTraces = false) (sa : Nat → Nat) (D : va_G) (cI cZ cL : ClassId) (ad : Nat → Nat) (acc net tacc tnet flo bnd frm too amt pri wai byp ldr bor due plg clo pap cnd : Nat → Int32) (small price cut proc : Int32) (mk lm le : Nat) (b : Nat) (o : Nat) (x : Int32) (r : Int32) (hb : b < 5) (ho : o < 5) (hft : b = o) : zX sa D vwCl (zty cI cZ cL) l yX4_pay wsX4_pay ({ frames := 7, cells := 1, slots := 6, locals := 103 } : Room) [.ref (ad 0), .int (nI b), .int (nI o), .int x, .int r] (wX ad cI cZ acc net tacc tnet flo bnd frm too amt pri wai byp ldr bor due plg clo pap cnd small price cut proc (nI mk) (nI lm) (nI le)) "java/lang/IllegalArgumentException" 1 6 := by
  refine zX.of (ret := (some .int)) (cc := cX4_pay) (nL := 5) (own := RX4) (by decide +kernel) rfl [(0, .ref (ad 0)), (1, .int (nI b)), (2, .int (nI o)), (3, .int x), (4, .int r)] rfl (Nat.le_of_ble_eq_true rfl) rfl ?_
  intro A p e s m args below meth c C hmn ht
  refine z_iload_n C dX4_pay_0 rfl 1 rfl ?_
  refine z_callSv C (T := Unit) (As := [.int (nI b)]) (rest := []) (ws' := fun _ => (wX ad cI cZ acc net tacc tnet flo bnd frm too amt pri wai byp ldr bor due plg clo pap cnd small price cut proc (nI mk) (nI lm) (nI le))) (ok_requireBank l sa D cI cZ cL  b (by first | assumption | omega)) (va_cwS 1 C.2.2.2.2.1 gX4_pay_X4_requireBank rfl rfl rfl (by decide +kernel) ⟨Nat.le_of_ble_eq_true rfl, Nat.le_of_ble_eq_true rfl⟩) (fun _ => zSub.none) zIn.none rfl (Nat.le_of_ble_eq_true rfl) ⟨Nat.le_of_ble_eq_true rfl, Nat.le_of_ble_eq_true rfl⟩ dX4_pay_1 (fun _ _ => ?_)
  refine z_iload_n C dX4_pay_4 rfl 2 rfl ?_
  refine z_callSv C (T := Unit) (As := [.int (nI o)]) (rest := []) (ws' := fun _ => (wX ad cI cZ acc net tacc tnet flo bnd frm too amt pri wai byp ldr bor due plg clo pap cnd small price cut proc (nI mk) (nI lm) (nI le))) (ok_requireBank l sa D cI cZ cL  o (by first | assumption | omega)) (va_cwS 1 C.2.2.2.2.1 gX4_pay_X4_requireBank rfl rfl rfl (by decide +kernel) ⟨Nat.le_of_ble_eq_true rfl, Nat.le_of_ble_eq_true rfl⟩) (fun _ => zSub.none) zIn.none rfl (Nat.le_of_ble_eq_true rfl) ⟨Nat.le_of_ble_eq_true rfl, Nat.le_of_ble_eq_true rfl⟩ dX4_pay_5 (fun _ _ => ?_)
  refine z_iload_n C dX4_pay_8 rfl 1 rfl ?_
  refine z_iload_n C dX4_pay_9 rfl 2 rfl ?_
  refine z_callSx C (As := [.int (nI b), .int (nI o)]) (rest := []) (bad_requireTwo l hfl sa D cI cZ cL  b o (by first | assumption | omega) (by first | assumption | omega) (by first | assumption | omega)) (va_cwS 2 C.2.2.2.2.1 gX4_pay_X4_requireTwo rfl rfl rfl (by decide +kernel) ⟨Nat.le_of_ble_eq_true rfl, Nat.le_of_ble_eq_true rfl⟩) zSub.none rfl (Nat.le_of_ble_eq_true rfl) ⟨Nat.le_of_ble_eq_true rfl, Nat.le_of_ble_eq_true rfl⟩ dX4_pay_10 ?_
  exact z_out C ht (by decide) (by decide)
set_option maxHeartbeats 4000000 in
set_option maxRecDepth 100000 in
theorem c_X4_pay_b2b (l : Launch) (hfl : l.stackTraces = false) (sa : Nat → Nat) (D : va_G) (cI cZ cL : ClassId) (ad : Nat → Nat) (acc net tacc tnet flo bnd frm too amt pri wai byp ldr bor due plg clo pap cnd : Nat → Int32) (small price cut proc : Int32) (mk lm le : Nat) (b : Nat) (o : Nat) (x : Int32) (r : Int32) (hb : b < 5) (ho : o < 5) (hft : b ≠ o) (hbad : x < 1 ∨ 100000 < x ∨ r < 0 ∨ 2 < r) : zX sa D vwCl (zty cI cZ cL) l yX4_pay wsX4_pay ({ frames := 7, cells := 1, slots := 6, locals := 104 } : Room) [.ref (ad 0), .int (nI b), .int (nI o), .int x, .int r] (wX ad cI cZ acc net tacc tnet flo bnd frm too amt pri wai byp ldr bor due plg clo pap cnd small price cut proc (nI mk) (nI lm) (nI le)) "java/lang/IllegalArgumentException" 1 6 := by
  refine zX.of (ret := (some .int)) (cc := cX4_pay) (nL := 5) (own := RX4) (by decide +kernel) rfl [(0, .ref (ad 0)), (1, .int (nI b)), (2, .int (nI o)), (3, .int x), (4, .int r)] rfl (Nat.le_of_ble_eq_true rfl) rfl ?_
  intro A p e s m args below meth c C hmn ht
  refine z_iload_n C dX4_pay_0 rfl 1 rfl ?_
  refine z_callSv C (T := Unit) (As := [.int (nI b)]) (rest := []) (ws' := fun _ => (wX ad cI cZ acc net tacc tnet flo bnd frm too amt pri wai byp ldr bor due plg clo pap cnd small price cut proc (nI mk) (nI lm) (nI le))) (ok_requireBank l sa D cI cZ cL  b (by first | assumption | omega)) (va_cwS 1 C.2.2.2.2.1 gX4_pay_X4_requireBank rfl rfl rfl (by decide +kernel) ⟨Nat.le_of_ble_eq_true rfl, Nat.le_of_ble_eq_true rfl⟩) (fun _ => zSub.none) zIn.none rfl (Nat.le_of_ble_eq_true rfl) ⟨Nat.le_of_ble_eq_true rfl, Nat.le_of_ble_eq_true rfl⟩ dX4_pay_1 (fun _ _ => ?_)
  refine z_iload_n C dX4_pay_4 rfl 2 rfl ?_
  refine z_callSv C (T := Unit) (As := [.int (nI o)]) (rest := []) (ws' := fun _ => (wX ad cI cZ acc net tacc tnet flo bnd frm too amt pri wai byp ldr bor due plg clo pap cnd small price cut proc (nI mk) (nI lm) (nI le))) (ok_requireBank l sa D cI cZ cL  o (by first | assumption | omega)) (va_cwS 1 C.2.2.2.2.1 gX4_pay_X4_requireBank rfl rfl rfl (by decide +kernel) ⟨Nat.le_of_ble_eq_true rfl, Nat.le_of_ble_eq_true rfl⟩) (fun _ => zSub.none) zIn.none rfl (Nat.le_of_ble_eq_true rfl) ⟨Nat.le_of_ble_eq_true rfl, Nat.le_of_ble_eq_true rfl⟩ dX4_pay_5 (fun _ _ => ?_)
  refine z_iload_n C dX4_pay_8 rfl 1 rfl ?_
  refine z_iload_n C dX4_pay_9 rfl 2 rfl ?_
  refine z_callSv C (T := Unit) (As := [.int (nI b), .int (nI o)]) (rest := []) (ws' := fun _ => (wX ad cI cZ acc net tacc tnet flo bnd frm too amt pri wai byp ldr bor due plg clo pap cnd small price cut proc (nI mk) (nI lm) (nI le))) (ok_requireTwo l sa D cI cZ cL  b o (by first | assumption | omega) (by first | assumption | omega) (by first | assumption | omega)) (va_cwS 2 C.2.2.2.2.1 gX4_pay_X4_requireTwo rfl rfl rfl (by decide +kernel) ⟨Nat.le_of_ble_eq_true rfl, Nat.le_of_ble_eq_true rfl⟩) (fun _ => zSub.none) zIn.none rfl (Nat.le_of_ble_eq_true rfl) ⟨Nat.le_of_ble_eq_true rfl, Nat.le_of_ble_eq_true rfl⟩ dX4_pay_10 (fun _ _ => ?_)
  refine z_iload_n C dX4_pay_13 rfl 3 rfl ?_
  refine z_iconst C (v := 1) dX4_pay_14 (by decide) ?_
  refine z_ldc C m_X4_pay_k110 dX4_pay_15 ?_
  refine z_case (¬ x < 1 ∧ ¬ 100000 < x) (fun hp_1 => ?_) (fun hp_1 => ?_)
  · skip
    obtain ⟨_, _⟩ := hp_1
    refine z_callSv C (T := Unit) (As := [.int x, .int 1, .int 100000]) (rest := []) (ws' := fun _ => (wX ad cI cZ acc net tacc tnet flo bnd frm too amt pri wai byp ldr bor due plg clo pap cnd small price cut proc (nI mk) (nI lm) (nI le))) (ok_requireRange l sa D cI cZ cL  x 1 100000 (by first | assumption | omega) (by first | assumption | omega)) (va_cwS 3 C.2.2.2.2.1 gX4_pay_X4_requireRange rfl rfl rfl (by decide +kernel) ⟨Nat.le_of_ble_eq_true rfl, Nat.le_of_ble_eq_true rfl⟩) (fun _ => zSub.none) zIn.none rfl (Nat.le_of_ble_eq_true rfl) ⟨Nat.le_of_ble_eq_true rfl, Nat.le_of_ble_eq_true rfl⟩ dX4_pay_17 (fun _ _ => ?_)
    refine z_iload C dX4_pay_20 4 rfl ?_
    refine z_iconst C (v := 0) dX4_pay_22 (by decide) ?_
    refine z_iconst C (v := 2) dX4_pay_23 (by decide) ?_
    refine z_callSx C (As := [.int r, .int 0, .int 2]) (rest := []) (bad_requireRange l hfl sa D cI cZ cL  r 0 2 (by rcases hbad with h | h | h | h <;> first | contradiction | exact Or.inl h | exact Or.inr h)) (va_cwS 3 C.2.2.2.2.1 gX4_pay_X4_requireRange rfl rfl rfl (by decide +kernel) ⟨Nat.le_of_ble_eq_true rfl, Nat.le_of_ble_eq_true rfl⟩) zSub.none rfl (Nat.le_of_ble_eq_true rfl) ⟨Nat.le_of_ble_eq_true rfl, Nat.le_of_ble_eq_true rfl⟩ dX4_pay_24 ?_
    exact z_out C ht (by decide) (by decide)
  · skip
    have := z_rng hp_1
    refine z_callSx C (As := [.int x, .int 1, .int 100000]) (rest := []) (bad_requireRange l hfl sa D cI cZ cL  x 1 100000 (by first | assumption | omega)) (va_cwS 3 C.2.2.2.2.1 gX4_pay_X4_requireRange rfl rfl rfl (by decide +kernel) ⟨Nat.le_of_ble_eq_true rfl, Nat.le_of_ble_eq_true rfl⟩) zSub.none rfl (Nat.le_of_ble_eq_true rfl) ⟨Nat.le_of_ble_eq_true rfl, Nat.le_of_ble_eq_true rfl⟩ dX4_pay_17 ?_
    exact z_out C ht (by decide) (by decide)
set_option maxHeartbeats 4000000 in
set_option maxRecDepth 100000 in
theorem c_X4_pay_b3 (l : Launch) (hfl : l.stackTraces = false) (sa : Nat → Nat) (D : va_G) (cI cZ cL : ClassId) (ad : Nat → Nat) (acc net tacc tnet flo bnd frm too amt pri wai byp ldr bor due plg clo pap cnd : Nat → Int32) (small price cut proc : Int32) (mk lm le : Nat) (b : Nat) (o : Nat) (x : Int32) (r : Nat) (hb : b < 5) (ho : o < 5) (hft : b ≠ o) (h1 : ¬ x < 1) (h2 : ¬ 100000 < x) (hr : r < 3) (hbad : ¬ (clo b = 0 ∧ clo o = 0 ∧ mk < 60)) (hmk : mk ≤ 60) : zX sa D vwCl (zty cI cZ cL) l yX4_pay wsX4_pay ({ frames := 7, cells := 1, slots := 6, locals := 104 } : Room) [.ref (ad 0), .int (nI b), .int (nI o), .int x, .int (nI r)] (wX ad cI cZ acc net tacc tnet flo bnd frm too amt pri wai byp ldr bor due plg clo pap cnd small price cut proc (nI mk) (nI lm) (nI le)) "java/lang/IllegalStateException" 1 6 := by
  refine zX.of (ret := (some .int)) (cc := cX4_pay) (nL := 5) (own := RX4) (by decide +kernel) rfl [(0, .ref (ad 0)), (1, .int (nI b)), (2, .int (nI o)), (3, .int x), (4, .int (nI r))] rfl (Nat.le_of_ble_eq_true rfl) rfl ?_
  intro A p e s m args below meth c C hmn ht
  refine z_iload_n C dX4_pay_0 rfl 1 rfl ?_
  refine z_callSv C (T := Unit) (As := [.int (nI b)]) (rest := []) (ws' := fun _ => (wX ad cI cZ acc net tacc tnet flo bnd frm too amt pri wai byp ldr bor due plg clo pap cnd small price cut proc (nI mk) (nI lm) (nI le))) (ok_requireBank l sa D cI cZ cL  b (by first | assumption | omega)) (va_cwS 1 C.2.2.2.2.1 gX4_pay_X4_requireBank rfl rfl rfl (by decide +kernel) ⟨Nat.le_of_ble_eq_true rfl, Nat.le_of_ble_eq_true rfl⟩) (fun _ => zSub.none) zIn.none rfl (Nat.le_of_ble_eq_true rfl) ⟨Nat.le_of_ble_eq_true rfl, Nat.le_of_ble_eq_true rfl⟩ dX4_pay_1 (fun _ _ => ?_)
  refine z_iload_n C dX4_pay_4 rfl 2 rfl ?_
  refine z_callSv C (T := Unit) (As := [.int (nI o)]) (rest := []) (ws' := fun _ => (wX ad cI cZ acc net tacc tnet flo bnd frm too amt pri wai byp ldr bor due plg clo pap cnd small price cut proc (nI mk) (nI lm) (nI le))) (ok_requireBank l sa D cI cZ cL  o (by first | assumption | omega)) (va_cwS 1 C.2.2.2.2.1 gX4_pay_X4_requireBank rfl rfl rfl (by decide +kernel) ⟨Nat.le_of_ble_eq_true rfl, Nat.le_of_ble_eq_true rfl⟩) (fun _ => zSub.none) zIn.none rfl (Nat.le_of_ble_eq_true rfl) ⟨Nat.le_of_ble_eq_true rfl, Nat.le_of_ble_eq_true rfl⟩ dX4_pay_5 (fun _ _ => ?_)
  refine z_iload_n C dX4_pay_8 rfl 1 rfl ?_
  refine z_iload_n C dX4_pay_9 rfl 2 rfl ?_
  refine z_callSv C (T := Unit) (As := [.int (nI b), .int (nI o)]) (rest := []) (ws' := fun _ => (wX ad cI cZ acc net tacc tnet flo bnd frm too amt pri wai byp ldr bor due plg clo pap cnd small price cut proc (nI mk) (nI lm) (nI le))) (ok_requireTwo l sa D cI cZ cL  b o (by first | assumption | omega) (by first | assumption | omega) (by first | assumption | omega)) (va_cwS 2 C.2.2.2.2.1 gX4_pay_X4_requireTwo rfl rfl rfl (by decide +kernel) ⟨Nat.le_of_ble_eq_true rfl, Nat.le_of_ble_eq_true rfl⟩) (fun _ => zSub.none) zIn.none rfl (Nat.le_of_ble_eq_true rfl) ⟨Nat.le_of_ble_eq_true rfl, Nat.le_of_ble_eq_true rfl⟩ dX4_pay_10 (fun _ _ => ?_)
  refine z_iload_n C dX4_pay_13 rfl 3 rfl ?_
  refine z_iconst C (v := 1) dX4_pay_14 (by decide) ?_
  refine z_ldc C m_X4_pay_k110 dX4_pay_15 ?_
  refine z_callSv C (T := Unit) (As := [.int x, .int 1, .int 100000]) (rest := []) (ws' := fun _ => (wX ad cI cZ acc net tacc tnet flo bnd frm too amt pri wai byp ldr bor due plg clo pap cnd small price cut proc (nI mk) (nI lm) (nI le))) (ok_requireRange l sa D cI cZ cL  x 1 100000 (by first | assumption | omega) (by first | assumption | omega)) (va_cwS 3 C.2.2.2.2.1 gX4_pay_X4_requireRange rfl rfl rfl (by decide +kernel) ⟨Nat.le_of_ble_eq_true rfl, Nat.le_of_ble_eq_true rfl⟩) (fun _ => zSub.none) zIn.none rfl (Nat.le_of_ble_eq_true rfl) ⟨Nat.le_of_ble_eq_true rfl, Nat.le_of_ble_eq_true rfl⟩ dX4_pay_17 (fun _ _ => ?_)
  refine z_iload C dX4_pay_20 4 rfl ?_
  refine z_iconst C (v := 0) dX4_pay_22 (by decide) ?_
  refine z_iconst C (v := 2) dX4_pay_23 (by decide) ?_
  refine z_callSv C (T := Unit) (As := [.int (nI r), .int 0, .int 2]) (rest := []) (ws' := fun _ => (wX ad cI cZ acc net tacc tnet flo bnd frm too amt pri wai byp ldr bor due plg clo pap cnd small price cut proc (nI mk) (nI lm) (nI le))) (ok_requireRange l sa D cI cZ cL  (nI r) 0 2 (by exact nI_pos (by omega)) (by exact nI_nlt (a := 2) (b := r) (by omega) (by decide))) (va_cwS 3 C.2.2.2.2.1 gX4_pay_X4_requireRange rfl rfl rfl (by decide +kernel) ⟨Nat.le_of_ble_eq_true rfl, Nat.le_of_ble_eq_true rfl⟩) (fun _ => zSub.none) zIn.none rfl (Nat.le_of_ble_eq_true rfl) ⟨Nat.le_of_ble_eq_true rfl, Nat.le_of_ble_eq_true rfl⟩ dX4_pay_24 (fun _ _ => ?_)
  refine z_aload_n C dX4_pay_27 rfl 0 rfl ?_
  refine z_iload_n C dX4_pay_28 rfl 1 rfl ?_
  refine z_case (clo b = 0) (fun hp_1 => ?_) (fun hp_1 => ?_)
  · skip
    refine z_callVv C (T := Unit) (As := [.int (nI b)]) (rest := []) (ws' := fun _ => (wX ad cI cZ acc net tacc tnet flo bnd frm too amt pri wai byp ldr bor due plg clo pap cnd small price cut proc (nI mk) (nI lm) (nI le))) (ok_requireOpen l sa D cI cZ cL ad acc net tacc tnet flo bnd frm too amt pri wai byp ldr bor due plg clo pap cnd small price cut proc mk lm le b (by first | assumption | omega) (by first | assumption | omega)) (cwV 1 C.2.2.2.2.1 gX4_pay_X4_requireOpen rfl rfl rfl (by decide +kernel) ⟨Nat.le_of_ble_eq_true rfl, Nat.le_of_ble_eq_true rfl⟩) 0 rfl rfl rfl (fun _ => zSub.full) zIn.full rfl (Nat.le_of_ble_eq_true rfl) ⟨Nat.le_of_ble_eq_true rfl, Nat.le_of_ble_eq_true rfl⟩ dX4_pay_29 (fun _ _ => ?_)
    refine z_aload_n C dX4_pay_32 rfl 0 rfl ?_
    refine z_iload_n C dX4_pay_33 rfl 2 rfl ?_
    refine z_case (clo o = 0) (fun hp_2 => ?_) (fun hp_2 => ?_)
    · skip
      refine z_callVv C (T := Unit) (As := [.int (nI o)]) (rest := []) (ws' := fun _ => (wX ad cI cZ acc net tacc tnet flo bnd frm too amt pri wai byp ldr bor due plg clo pap cnd small price cut proc (nI mk) (nI lm) (nI le))) (ok_requireOpen l sa D cI cZ cL ad acc net tacc tnet flo bnd frm too amt pri wai byp ldr bor due plg clo pap cnd small price cut proc mk lm le o (by first | assumption | omega) (by first | assumption | omega)) (cwV 1 C.2.2.2.2.1 gX4_pay_X4_requireOpen rfl rfl rfl (by decide +kernel) ⟨Nat.le_of_ble_eq_true rfl, Nat.le_of_ble_eq_true rfl⟩) 0 rfl rfl rfl (fun _ => zSub.full) zIn.full rfl (Nat.le_of_ble_eq_true rfl) ⟨Nat.le_of_ble_eq_true rfl, Nat.le_of_ble_eq_true rfl⟩ dX4_pay_34 (fun _ _ => ?_)
      refine z_aload_n C dX4_pay_37 rfl 0 rfl ?_
      refine z_get C 0 rfl i_X4_pay_X4 rfl 3 (by decide) m_X4_pay_f29 rfl rfl dX4_pay_38 ?_
      refine z_get C 4 rfl i_X4_pay_X2 rfl 6 (by decide) m_X4_pay_f113 rfl rfl dX4_pay_41 ?_
      refine z_bipush C (v := 60) dX4_pay_44 (by decide) ?_
      refine z_icmp_lt C (tgt := 59) dX4_pay_46 (by decide) (fun c46_3 => ?_) (fun c46_3 => ?_)
      · skip
        have n_4 : mk < 60 := (nI_ltI (a := mk) (b := 60) (by omega) (by omega)).mp c46_3
        refine z_aload_n C dX4_pay_59 rfl 0 rfl ?_
        refine z_get C 0 rfl i_X4_pay_X4 rfl 3 (by decide) m_X4_pay_f29 rfl rfl dX4_pay_60 ?_
        refine z_iload_n C dX4_pay_63 rfl 1 rfl ?_
        refine z_iload_n C dX4_pay_64 rfl 2 rfl ?_
        refine z_iload_n C dX4_pay_65 rfl 3 rfl ?_
        refine z_iload C dX4_pay_66 4 rfl ?_
        exfalso
        exact absurd (show clo b = 0 ∧ clo o = 0 ∧ mk < 60 from ⟨by assumption, by assumption, by omega⟩) hbad
      · skip
        have n_5 : ¬ mk < 60 := fun q => c46_3 ((nI_ltI (a := mk) (b := 60) (by omega) (by omega)).mpr q)
        exact z_throwS C (names := ["java/lang/RuntimeException", "java/lang/Exception"]) ht hfl rfl (by decide +kernel) (by decide +kernel) m_X4_pay_c77 m_X4_pay_n77 (is := 116) (text := "there are no more payments to be had") (by decide +kernel) (by decide +kernel) x_X4_pay_49_1 x_X4_pay_49_2 x_X4_pay_49_3 dX4_pay_49 dX4_pay_52 dX4_pay_53 dX4_pay_55 dX4_pay_58 ⟨Nat.le_of_ble_eq_true rfl, Nat.le_of_ble_eq_true rfl, Nat.le_of_ble_eq_true rfl, Nat.le_of_ble_eq_true rfl⟩ (by decide) (by decide)
    · skip
      refine z_callVx C (As := [.int (nI o)]) (rest := []) (bad_requireOpen l hfl sa D cI cZ cL ad acc net tacc tnet flo bnd frm too amt pri wai byp ldr bor due plg clo pap cnd small price cut proc mk lm le o (by first | assumption | omega) (by first | assumption | omega)) (cwV 1 C.2.2.2.2.1 gX4_pay_X4_requireOpen rfl rfl rfl (by decide +kernel) ⟨Nat.le_of_ble_eq_true rfl, Nat.le_of_ble_eq_true rfl⟩) 0 rfl rfl rfl zSub.full rfl (Nat.le_of_ble_eq_true rfl) ⟨Nat.le_of_ble_eq_true rfl, Nat.le_of_ble_eq_true rfl⟩ dX4_pay_34 ?_
      exact z_out C ht (by decide) (by decide)
  · skip
    refine z_callVx C (As := [.int (nI b)]) (rest := []) (bad_requireOpen l hfl sa D cI cZ cL ad acc net tacc tnet flo bnd frm too amt pri wai byp ldr bor due plg clo pap cnd small price cut proc mk lm le b (by first | assumption | omega) (by first | assumption | omega)) (cwV 1 C.2.2.2.2.1 gX4_pay_X4_requireOpen rfl rfl rfl (by decide +kernel) ⟨Nat.le_of_ble_eq_true rfl, Nat.le_of_ble_eq_true rfl⟩) 0 rfl rfl rfl zSub.full rfl (Nat.le_of_ble_eq_true rfl) ⟨Nat.le_of_ble_eq_true rfl, Nat.le_of_ble_eq_true rfl⟩ dX4_pay_29 ?_
    exact z_out C ht (by decide) (by decide)
set_option maxHeartbeats 4000000 in
set_option maxRecDepth 100000 in
theorem c_X4_drop_ok (l : Launch) (sa : Nat → Nat) (D : va_G) (cI cZ cL : ClassId) (ad : Nat → Nat) (acc net tacc tnet flo bnd frm too amt pri wai byp ldr bor due plg clo pap cnd : Nat → Int32) (small price cut proc : Int32) (mk lm le : Nat) (p9 : Nat) (hp : p9 < mk) (hmk : mk ≤ 60) (hw : ¬ wai p9 = 0) : zMi (T := Unit) sa D vwCl (zty cI cZ cL) l yX4_drop wsX4_drop ({ frames := 7, cells := 0, slots := 0, locals := 103 } : Room) [.ref (ad 0), .int (nI p9)] (wX ad cI cZ acc net tacc tnet flo bnd frm too amt pri wai byp ldr bor due plg clo pap cnd small price cut proc (nI mk) (nI lm) (nI le)) (fun r9 _ => r9 = (nI (cntW (upd wai p9 0) mk))) (fun _ => (wX ad cI cZ acc net tacc tnet flo bnd frm too amt pri (upd wai p9 0) byp ldr bor due plg clo pap cnd small price cut proc (nI mk) (nI lm) (nI le))) 0 0 := by
  refine zMi.of (ret := (some .int)) (cc := cX4_drop) (nL := 2) (own := RX4) (by decide +kernel) rfl [(0, .ref (ad 0)), (1, .int (nI p9))] rfl (Nat.le_of_ble_eq_true rfl) rfl ?_
  intro A p e s m args below meth c C hmn
  refine z_aload_n C dX4_drop_0 rfl 0 rfl ?_
  refine z_iload_n C dX4_drop_1 rfl 1 rfl ?_
  refine z_callVv C (T := Unit) (As := [.int (nI p9)]) (rest := []) (ws' := fun _ => (wX ad cI cZ acc net tacc tnet flo bnd frm too amt pri wai byp ldr bor due plg clo pap cnd small price cut proc (nI mk) (nI lm) (nI le))) (ok_requirePayment l sa D cI cZ cL ad acc net tacc tnet flo bnd frm too amt pri wai byp ldr bor due plg clo pap cnd small price cut proc mk lm le p9 (by first | assumption | omega) (by first | assumption | omega)) (cwV 1 C.2.2.2.2.1 gX4_drop_X4_requirePayment rfl rfl rfl (by decide +kernel) ⟨Nat.le_of_ble_eq_true rfl, Nat.le_of_ble_eq_true rfl⟩) 0 rfl rfl rfl (fun _ => zSub.full) zIn.full rfl (Nat.le_of_ble_eq_true rfl) ⟨Nat.le_of_ble_eq_true rfl, Nat.le_of_ble_eq_true rfl⟩ dX4_drop_2 (fun _ _ => ?_)
  refine z_aload_n C dX4_drop_5 rfl 0 rfl ?_
  refine z_get C 0 rfl i_X4_drop_X4 rfl 3 (by decide) m_X4_drop_f29 rfl rfl dX4_drop_6 ?_
  refine z_get C 4 rfl i_X4_drop_X2 rfl 4 (by decide) m_X4_drop_f125 rfl rfl dX4_drop_9 ?_
  refine z_iload_n C dX4_drop_12 rfl 1 rfl ?_
  refine z_zald C 16 1 rfl rfl p9 (nI_clamp (by omega)) (vp_in_nI (by omega) (by omega)) (wai p9) rfl dX4_drop_13 ?_
  refine z_if_ne C (tgt := 27) dX4_drop_14 (by decide) (fun c14_1 => ?_) (fun c14_1 => ?_)
  · skip
    refine z_aload_n C dX4_drop_27 rfl 0 rfl ?_
    refine z_get C 0 rfl i_X4_drop_X4 rfl 3 (by decide) m_X4_drop_f29 rfl rfl dX4_drop_28 ?_
    refine z_get C 4 rfl i_X4_drop_X2 rfl 4 (by decide) m_X4_drop_f125 rfl rfl dX4_drop_31 ?_
    refine z_iload_n C dX4_drop_34 rfl 1 rfl ?_
    refine z_iconst C (v := 0) dX4_drop_35 (by decide) ?_
    refine z_zast C 16 1 rfl rfl p9 (nI_clamp (by omega)) (vp_in_nI (by omega) (by omega)) 0 (by decide) dX4_drop_36 (wX ad cI cZ acc net tacc tnet flo bnd frm too amt pri (upd wai p9 0) byp ldr bor due plg clo pap cnd small price cut proc (nI mk) (nI lm) (nI le)) rfl ?_
    refine z_aload_n C dX4_drop_37 rfl 0 rfl ?_
    refine z_get C 0 rfl i_X4_drop_X4 rfl 3 (by decide) m_X4_drop_f29 rfl rfl dX4_drop_38 ?_
    refine z_callVi C (T := Unit) (As := []) (rest := []) (ws' := fun _ => (wX ad cI cZ acc net tacc tnet flo bnd frm too amt pri (upd wai p9 0) byp ldr bor due plg clo pap cnd small price cut proc (nI mk) (nI lm) (nI le))) (c_X2_countWaiting l sa D cI cZ cL ad acc net tacc tnet flo bnd frm too amt pri (upd wai p9 0) byp ldr bor due plg clo pap cnd small price cut proc mk lm le  (by first | assumption | omega)) (cwV 0 C.2.2.2.2.1 gX4_drop_X2_countWaiting rfl rfl rfl (by decide +kernel) ⟨Nat.le_of_ble_eq_true rfl, Nat.le_of_ble_eq_true rfl⟩) 4 rfl rfl rfl (fun _ => zSub.full) zIn.full rfl (Nat.le_of_ble_eq_true rfl) ⟨Nat.le_of_ble_eq_true rfl, Nat.le_of_ble_eq_true rfl⟩ dX4_drop_41 (fun r_2 _ h_3 => ?_)
    obtain rfl : r_2 = (nI (cntW (upd wai p9 0) mk)) := h_3
    exact z_iret C () rfl rfl (by decide) (by decide) dX4_drop_44
  · skip
    exfalso
    first | omega | contradiction | exact absurd (by assumption) (Int32.not_le.mpr (by assumption))
set_option maxHeartbeats 4000000 in
set_option maxRecDepth 100000 in
theorem c_X4_drop_b1 (l : Launch) (hfl : l.stackTraces = false) (sa : Nat → Nat) (D : va_G) (cI cZ cL : ClassId) (ad : Nat → Nat) (acc net tacc tnet flo bnd frm too amt pri wai byp ldr bor due plg clo pap cnd : Nat → Int32) (small price cut proc : Int32) (mk lm le : Nat) (p9 : Int32) (hp : p9 < 0 ∨ nI mk ≤ p9) : zX sa D vwCl (zty cI cZ cL) l yX4_drop wsX4_drop ({ frames := 7, cells := 1, slots := 6, locals := 103 } : Room) [.ref (ad 0), .int p9] (wX ad cI cZ acc net tacc tnet flo bnd frm too amt pri wai byp ldr bor due plg clo pap cnd small price cut proc (nI mk) (nI lm) (nI le)) "java/lang/IndexOutOfBoundsException" 1 6 := by
  refine zX.of (ret := (some .int)) (cc := cX4_drop) (nL := 2) (own := RX4) (by decide +kernel) rfl [(0, .ref (ad 0)), (1, .int p9)] rfl (Nat.le_of_ble_eq_true rfl) rfl ?_
  intro A p e s m args below meth c C hmn ht
  refine z_aload_n C dX4_drop_0 rfl 0 rfl ?_
  refine z_iload_n C dX4_drop_1 rfl 1 rfl ?_
  refine z_callVx C (As := [.int p9]) (rest := []) (bad_requirePayment l hfl sa D cI cZ cL ad acc net tacc tnet flo bnd frm too amt pri wai byp ldr bor due plg clo pap cnd small price cut proc mk lm le p9 (by first | assumption | omega)) (cwV 1 C.2.2.2.2.1 gX4_drop_X4_requirePayment rfl rfl rfl (by decide +kernel) ⟨Nat.le_of_ble_eq_true rfl, Nat.le_of_ble_eq_true rfl⟩) 0 rfl rfl rfl zSub.full rfl (Nat.le_of_ble_eq_true rfl) ⟨Nat.le_of_ble_eq_true rfl, Nat.le_of_ble_eq_true rfl⟩ dX4_drop_2 ?_
  exact z_out C ht (by decide) (by decide)
set_option maxHeartbeats 4000000 in
set_option maxRecDepth 100000 in
theorem c_X4_drop_b2 (l : Launch) (hfl : l.stackTraces = false) (sa : Nat → Nat) (D : va_G) (cI cZ cL : ClassId) (ad : Nat → Nat) (acc net tacc tnet flo bnd frm too amt pri wai byp ldr bor due plg clo pap cnd : Nat → Int32) (small price cut proc : Int32) (mk lm le : Nat) (p9 : Nat) (hp : p9 < mk) (hmk : mk ≤ 60) (hw : wai p9 = 0) : zX sa D vwCl (zty cI cZ cL) l yX4_drop wsX4_drop ({ frames := 7, cells := 1, slots := 6, locals := 103 } : Room) [.ref (ad 0), .int (nI p9)] (wX ad cI cZ acc net tacc tnet flo bnd frm too amt pri wai byp ldr bor due plg clo pap cnd small price cut proc (nI mk) (nI lm) (nI le)) "java/lang/IllegalStateException" 1 6 := by
  refine zX.of (ret := (some .int)) (cc := cX4_drop) (nL := 2) (own := RX4) (by decide +kernel) rfl [(0, .ref (ad 0)), (1, .int (nI p9))] rfl (Nat.le_of_ble_eq_true rfl) rfl ?_
  intro A p e s m args below meth c C hmn ht
  refine z_aload_n C dX4_drop_0 rfl 0 rfl ?_
  refine z_iload_n C dX4_drop_1 rfl 1 rfl ?_
  refine z_callVv C (T := Unit) (As := [.int (nI p9)]) (rest := []) (ws' := fun _ => (wX ad cI cZ acc net tacc tnet flo bnd frm too amt pri wai byp ldr bor due plg clo pap cnd small price cut proc (nI mk) (nI lm) (nI le))) (ok_requirePayment l sa D cI cZ cL ad acc net tacc tnet flo bnd frm too amt pri wai byp ldr bor due plg clo pap cnd small price cut proc mk lm le p9 (by first | assumption | omega) (by first | assumption | omega)) (cwV 1 C.2.2.2.2.1 gX4_drop_X4_requirePayment rfl rfl rfl (by decide +kernel) ⟨Nat.le_of_ble_eq_true rfl, Nat.le_of_ble_eq_true rfl⟩) 0 rfl rfl rfl (fun _ => zSub.full) zIn.full rfl (Nat.le_of_ble_eq_true rfl) ⟨Nat.le_of_ble_eq_true rfl, Nat.le_of_ble_eq_true rfl⟩ dX4_drop_2 (fun _ _ => ?_)
  refine z_aload_n C dX4_drop_5 rfl 0 rfl ?_
  refine z_get C 0 rfl i_X4_drop_X4 rfl 3 (by decide) m_X4_drop_f29 rfl rfl dX4_drop_6 ?_
  refine z_get C 4 rfl i_X4_drop_X2 rfl 4 (by decide) m_X4_drop_f125 rfl rfl dX4_drop_9 ?_
  refine z_iload_n C dX4_drop_12 rfl 1 rfl ?_
  refine z_zald C 16 1 rfl rfl p9 (nI_clamp (by omega)) (vp_in_nI (by omega) (by omega)) (wai p9) rfl dX4_drop_13 ?_
  refine z_if_ne C (tgt := 27) dX4_drop_14 (by decide) (fun c14_1 => ?_) (fun c14_1 => ?_)
  · skip
    refine z_aload_n C dX4_drop_27 rfl 0 rfl ?_
    refine z_get C 0 rfl i_X4_drop_X4 rfl 3 (by decide) m_X4_drop_f29 rfl rfl dX4_drop_28 ?_
    refine z_get C 4 rfl i_X4_drop_X2 rfl 4 (by decide) m_X4_drop_f125 rfl rfl dX4_drop_31 ?_
    refine z_iload_n C dX4_drop_34 rfl 1 rfl ?_
    refine z_iconst C (v := 0) dX4_drop_35 (by decide) ?_
    refine z_zast C 16 1 rfl rfl p9 (nI_clamp (by omega)) (vp_in_nI (by omega) (by omega)) 0 (by decide) dX4_drop_36 (wX ad cI cZ acc net tacc tnet flo bnd frm too amt pri (upd wai p9 0) byp ldr bor due plg clo pap cnd small price cut proc (nI mk) (nI lm) (nI le)) rfl ?_
    refine z_aload_n C dX4_drop_37 rfl 0 rfl ?_
    refine z_get C 0 rfl i_X4_drop_X4 rfl 3 (by decide) m_X4_drop_f29 rfl rfl dX4_drop_38 ?_
    refine z_callVi C (T := Unit) (As := []) (rest := []) (ws' := fun _ => (wX ad cI cZ acc net tacc tnet flo bnd frm too amt pri (upd wai p9 0) byp ldr bor due plg clo pap cnd small price cut proc (nI mk) (nI lm) (nI le))) (c_X2_countWaiting l sa D cI cZ cL ad acc net tacc tnet flo bnd frm too amt pri (upd wai p9 0) byp ldr bor due plg clo pap cnd small price cut proc mk lm le  (by first | assumption | omega)) (cwV 0 C.2.2.2.2.1 gX4_drop_X2_countWaiting rfl rfl rfl (by decide +kernel) ⟨Nat.le_of_ble_eq_true rfl, Nat.le_of_ble_eq_true rfl⟩) 4 rfl rfl rfl (fun _ => zSub.full) zIn.full rfl (Nat.le_of_ble_eq_true rfl) ⟨Nat.le_of_ble_eq_true rfl, Nat.le_of_ble_eq_true rfl⟩ dX4_drop_41 (fun r_2 _ h_3 => ?_)
    obtain rfl : r_2 = (nI (cntW (upd wai p9 0) mk)) := h_3
    exfalso
    first | omega | contradiction
  · skip
    exact z_throwS C (names := ["java/lang/RuntimeException", "java/lang/Exception"]) ht hfl rfl (by decide +kernel) (by decide +kernel) m_X4_drop_c77 m_X4_drop_n77 (is := 128) (text := "the payment does not wait") (by decide +kernel) (by decide +kernel) x_X4_drop_17_1 x_X4_drop_17_2 x_X4_drop_17_3 dX4_drop_17 dX4_drop_20 dX4_drop_21 dX4_drop_23 dX4_drop_26 ⟨Nat.le_of_ble_eq_true rfl, Nat.le_of_ble_eq_true rfl, Nat.le_of_ble_eq_true rfl, Nat.le_of_ble_eq_true rfl⟩ (by decide) (by decide)
set_option maxHeartbeats 4000000 in
set_option maxRecDepth 100000 in
theorem c_X4_setSmall_ok (l : Launch) (sa : Nat → Nat) (D : va_G) (cI cZ cL : ClassId) (ad : Nat → Nat) (acc net tacc tnet flo bnd frm too amt pri wai byp ldr bor due plg clo pap cnd : Nat → Int32) (small price cut proc : Int32) (mk lm le : Nat) (x : Int32) (h1 : ¬ x < 0) (h2 : ¬ 100000 < x) : zMi (T := Unit) sa D vwCl (zty cI cZ cL) l yX4_setSmall wsX4_setSmall ({ frames := 7, cells := 0, slots := 0, locals := 104 } : Room) [.ref (ad 0), .int x] (wX ad cI cZ acc net tacc tnet flo bnd frm too amt pri wai byp ldr bor due plg clo pap cnd small price cut proc (nI mk) (nI lm) (nI le)) (fun r9 _ => r9 = small) (fun _ => (wX ad cI cZ acc net tacc tnet flo bnd frm too amt pri wai byp ldr bor due plg clo pap cnd x price cut proc (nI mk) (nI lm) (nI le))) 0 0 := by
  refine zMi.of (ret := (some .int)) (cc := cX4_setSmall) (nL := 3) (own := RX4) (by decide +kernel) rfl [(0, .ref (ad 0)), (1, .int x)] rfl (Nat.le_of_ble_eq_true rfl) rfl ?_
  intro A p e s m args below meth c C hmn
  refine z_iload_n C dX4_setSmall_0 rfl 1 rfl ?_
  refine z_iconst C (v := 0) dX4_setSmall_1 (by decide) ?_
  refine z_ldc C m_X4_setSmall_k110 dX4_setSmall_2 ?_
  refine z_callSv C (T := Unit) (As := [.int x, .int 0, .int 100000]) (rest := []) (ws' := fun _ => (wX ad cI cZ acc net tacc tnet flo bnd frm too amt pri wai byp ldr bor due plg clo pap cnd small price cut proc (nI mk) (nI lm) (nI le))) (ok_requireRange l sa D cI cZ cL  x 0 100000 (by first | assumption | omega) (by first | assumption | omega)) (va_cwS 3 C.2.2.2.2.1 gX4_setSmall_X4_requireRange rfl rfl rfl (by decide +kernel) ⟨Nat.le_of_ble_eq_true rfl, Nat.le_of_ble_eq_true rfl⟩) (fun _ => zSub.none) zIn.none rfl (Nat.le_of_ble_eq_true rfl) ⟨Nat.le_of_ble_eq_true rfl, Nat.le_of_ble_eq_true rfl⟩ dX4_setSmall_4 (fun _ _ => ?_)
  refine z_aload_n C dX4_setSmall_7 rfl 0 rfl ?_
  refine z_get C 0 rfl i_X4_setSmall_X4 rfl 8 (by decide) m_X4_setSmall_f51 rfl rfl dX4_setSmall_8 ?_
  refine z_istore_n C dX4_setSmall_11 rfl (by decide) [(0, .ref (ad 0)), (1, .int x), (2, .int small)] [1, 2, 0] rfl ?_
  refine z_aload_n C dX4_setSmall_12 rfl 0 rfl ?_
  refine z_iload_n C dX4_setSmall_13 rfl 1 rfl ?_
  refine z_put C 0 rfl i_X4_setSmall_X4 rfl 8 (by decide) m_X4_setSmall_f51 rfl tyX4 tyX4_ok nmX4 rfl (ty := .int) (by decide +kernel) rfl rfl (Nat.le_of_ble_eq_true rfl) dX4_setSmall_14 (wX ad cI cZ acc net tacc tnet flo bnd frm too amt pri wai byp ldr bor due plg clo pap cnd x price cut proc (nI mk) (nI lm) (nI le)) rfl ?_
  refine z_iload_n C dX4_setSmall_17 rfl 2 rfl ?_
  exact z_iret C () rfl rfl (by decide) (by decide) dX4_setSmall_18
set_option maxHeartbeats 4000000 in
set_option maxRecDepth 100000 in
theorem c_X4_setSmall_b1 (l : Launch) (hfl : l.stackTraces = false) (sa : Nat → Nat) (D : va_G) (cI cZ cL : ClassId) (ad : Nat → Nat) (acc net tacc tnet flo bnd frm too amt pri wai byp ldr bor due plg clo pap cnd : Nat → Int32) (small price cut proc : Int32) (mk lm le : Nat) (x : Int32) (hbad : x < 0 ∨ 100000 < x) : zX sa D vwCl (zty cI cZ cL) l yX4_setSmall wsX4_setSmall ({ frames := 7, cells := 1, slots := 6, locals := 104 } : Room) [.ref (ad 0), .int x] (wX ad cI cZ acc net tacc tnet flo bnd frm too amt pri wai byp ldr bor due plg clo pap cnd small price cut proc (nI mk) (nI lm) (nI le)) "java/lang/IllegalArgumentException" 1 6 := by
  refine zX.of (ret := (some .int)) (cc := cX4_setSmall) (nL := 3) (own := RX4) (by decide +kernel) rfl [(0, .ref (ad 0)), (1, .int x)] rfl (Nat.le_of_ble_eq_true rfl) rfl ?_
  intro A p e s m args below meth c C hmn ht
  refine z_iload_n C dX4_setSmall_0 rfl 1 rfl ?_
  refine z_iconst C (v := 0) dX4_setSmall_1 (by decide) ?_
  refine z_ldc C m_X4_setSmall_k110 dX4_setSmall_2 ?_
  refine z_callSx C (As := [.int x, .int 0, .int 100000]) (rest := []) (bad_requireRange l hfl sa D cI cZ cL  x 0 100000 (by first | assumption | omega)) (va_cwS 3 C.2.2.2.2.1 gX4_setSmall_X4_requireRange rfl rfl rfl (by decide +kernel) ⟨Nat.le_of_ble_eq_true rfl, Nat.le_of_ble_eq_true rfl⟩) zSub.none rfl (Nat.le_of_ble_eq_true rfl) ⟨Nat.le_of_ble_eq_true rfl, Nat.le_of_ble_eq_true rfl⟩ dX4_setSmall_4 ?_
  exact z_out C ht (by decide) (by decide)
set_option maxHeartbeats 4000000 in
set_option maxRecDepth 100000 in
theorem c_X4_queued_ok (l : Launch) (sa : Nat → Nat) (D : va_G) (cI cZ cL : ClassId) (ad : Nat → Nat) (acc net tacc tnet flo bnd frm too amt pri wai byp ldr bor due plg clo pap cnd : Nat → Int32) (small price cut proc : Int32) (mk lm le : Nat) (b : Nat) (k : Nat) (hb : b < 5) (hk : k < 2147483648) (hmk : mk ≤ 60) (hfrm : wf5 mk frm) (htoo : wf5 mk too) (hbyp : bypOK byp pri mk) : zMi (T := Unit) sa D vwCl (zty cI cZ cL) l yX4_queued wsX4_queued ({ frames := 7, cells := 0, slots := 0, locals := 102 } : Room) [.ref (ad 0), .int (nI b), .int (nI k)] (wX ad cI cZ acc net tacc tnet flo bnd frm too amt pri wai byp ldr bor due plg clo pap cnd small price cut proc (nI mk) (nI lm) (nI le)) (fun r9 _ => r9 = oI (atQ (ordL pri mk) (isq wai frm b) k)) (fun _ => (wX ad cI cZ acc net tacc tnet flo bnd frm too amt pri wai byp ldr bor due plg clo pap cnd small price cut proc (nI mk) (nI lm) (nI le))) 0 0 := by
  refine zMi.of (ret := (some .int)) (cc := cX4_queued) (nL := 3) (own := RX4) (by decide +kernel) rfl [(0, .ref (ad 0)), (1, .int (nI b)), (2, .int (nI k))] rfl (Nat.le_of_ble_eq_true rfl) rfl ?_
  intro A p e s m args below meth c C hmn
  refine z_iload_n C dX4_queued_0 rfl 1 rfl ?_
  refine z_callSv C (T := Unit) (As := [.int (nI b)]) (rest := []) (ws' := fun _ => (wX ad cI cZ acc net tacc tnet flo bnd frm too amt pri wai byp ldr bor due plg clo pap cnd small price cut proc (nI mk) (nI lm) (nI le))) (ok_requireBank l sa D cI cZ cL  b (by first | assumption | omega)) (va_cwS 1 C.2.2.2.2.1 gX4_queued_X4_requireBank rfl rfl rfl (by decide +kernel) ⟨Nat.le_of_ble_eq_true rfl, Nat.le_of_ble_eq_true rfl⟩) (fun _ => zSub.none) zIn.none rfl (Nat.le_of_ble_eq_true rfl) ⟨Nat.le_of_ble_eq_true rfl, Nat.le_of_ble_eq_true rfl⟩ dX4_queued_1 (fun _ _ => ?_)
  refine z_iload_n C dX4_queued_4 rfl 2 rfl ?_
  refine z_if_ge C (tgt := 18) dX4_queued_5 (by decide) (fun _ => ?_) (fun h => absurd (nI_pos' (by omega)) h)
  refine z_aload_n C dX4_queued_18 rfl 0 rfl ?_
  refine z_get C 0 rfl i_X4_queued_X4 rfl 3 (by decide) m_X4_queued_f29 rfl rfl dX4_queued_19 ?_
  refine z_iload_n C dX4_queued_22 rfl 1 rfl ?_
  refine z_iload_n C dX4_queued_23 rfl 2 rfl ?_
  rcases hq_1 : atQ (ordL pri mk) (isq wai frm b) k with _ | p_2
  · skip
    refine z_callVi C (T := Unit) (As := [.int (nI b), .int (nI k)]) (rest := []) (ws' := fun _ => (wX ad cI cZ acc net tacc tnet flo bnd frm too amt pri wai byp ldr bor due plg clo pap cnd small price cut proc (nI mk) (nI lm) (nI le))) (c_X2_inQueue l sa D cI cZ cL ad acc net tacc tnet flo bnd frm too amt pri wai byp ldr bor due plg clo pap cnd small price cut proc mk lm le b k (by first | assumption | omega) (by first | assumption | omega) (by first | assumption | omega) (by first | assumption | omega) (by first | assumption | omega) (by first | assumption | omega)) (cwV 2 C.2.2.2.2.1 gX4_queued_X2_inQueue rfl rfl rfl (by decide +kernel) ⟨Nat.le_of_ble_eq_true rfl, Nat.le_of_ble_eq_true rfl⟩) 4 rfl rfl rfl (fun _ => zSub.full) zIn.full rfl (Nat.le_of_ble_eq_true rfl) ⟨Nat.le_of_ble_eq_true rfl, Nat.le_of_ble_eq_true rfl⟩ dX4_queued_24 (fun r_3 _ h_4 => ?_)
    obtain rfl : r_3 = (-1) := h_4.trans (by rw [hq_1]; rfl)
    exact z_iret C () (by simp [hq_1, oI]) rfl (by decide) (by decide) dX4_queued_27
  · skip
    have hm_p_2 := atQ_mem hq_1
    have := ordL_mem hm_p_2.1
    refine z_callVi C (T := Unit) (As := [.int (nI b), .int (nI k)]) (rest := []) (ws' := fun _ => (wX ad cI cZ acc net tacc tnet flo bnd frm too amt pri wai byp ldr bor due plg clo pap cnd small price cut proc (nI mk) (nI lm) (nI le))) (c_X2_inQueue l sa D cI cZ cL ad acc net tacc tnet flo bnd frm too amt pri wai byp ldr bor due plg clo pap cnd small price cut proc mk lm le b k (by first | assumption | omega) (by first | assumption | omega) (by first | assumption | omega) (by first | assumption | omega) (by first | assumption | omega) (by first | assumption | omega)) (cwV 2 C.2.2.2.2.1 gX4_queued_X2_inQueue rfl rfl rfl (by decide +kernel) ⟨Nat.le_of_ble_eq_true rfl, Nat.le_of_ble_eq_true rfl⟩) 4 rfl rfl rfl (fun _ => zSub.full) zIn.full rfl (Nat.le_of_ble_eq_true rfl) ⟨Nat.le_of_ble_eq_true rfl, Nat.le_of_ble_eq_true rfl⟩ dX4_queued_24 (fun r_5 _ h_6 => ?_)
    obtain rfl : r_5 = (nI p_2) := h_6.trans (by rw [hq_1]; rfl)
    exact z_iret C () (by simp [hq_1, oI]) rfl (by decide) (by decide) dX4_queued_27
set_option maxHeartbeats 4000000 in
set_option maxRecDepth 100000 in
theorem c_X4_queued_b1 (l : Launch) (hfl : l.stackTraces = false) (sa : Nat → Nat) (D : va_G) (cI cZ cL : ClassId) (ad : Nat → Nat) (acc net tacc tnet flo bnd frm too amt pri wai byp ldr bor due plg clo pap cnd : Nat → Int32) (small price cut proc : Int32) (mk lm le : Nat) (b : Int32) (k : Int32) (hb : b < 0 ∨ 5 ≤ b) : zX sa D vwCl (zty cI cZ cL) l yX4_queued wsX4_queued ({ frames := 7, cells := 1, slots := 6, locals := 102 } : Room) [.ref (ad 0), .int b, .int k] (wX ad cI cZ acc net tacc tnet flo bnd frm too amt pri wai byp ldr bor due plg clo pap cnd small price cut proc (nI mk) (nI lm) (nI le)) "java/lang/IndexOutOfBoundsException" 1 6 := by
  refine zX.of (ret := (some .int)) (cc := cX4_queued) (nL := 3) (own := RX4) (by decide +kernel) rfl [(0, .ref (ad 0)), (1, .int b), (2, .int k)] rfl (Nat.le_of_ble_eq_true rfl) rfl ?_
  intro A p e s m args below meth c C hmn ht
  refine z_iload_n C dX4_queued_0 rfl 1 rfl ?_
  refine z_callSx C (As := [.int b]) (rest := []) (bad_requireBank l hfl sa D cI cZ cL  b (by first | assumption | omega)) (va_cwS 1 C.2.2.2.2.1 gX4_queued_X4_requireBank rfl rfl rfl (by decide +kernel) ⟨Nat.le_of_ble_eq_true rfl, Nat.le_of_ble_eq_true rfl⟩) zSub.none rfl (Nat.le_of_ble_eq_true rfl) ⟨Nat.le_of_ble_eq_true rfl, Nat.le_of_ble_eq_true rfl⟩ dX4_queued_1 ?_
  exact z_out C ht (by decide) (by decide)
set_option maxHeartbeats 4000000 in
set_option maxRecDepth 100000 in
theorem c_X4_queued_b2 (l : Launch) (hfl : l.stackTraces = false) (sa : Nat → Nat) (D : va_G) (cI cZ cL : ClassId) (ad : Nat → Nat) (acc net tacc tnet flo bnd frm too amt pri wai byp ldr bor due plg clo pap cnd : Nat → Int32) (small price cut proc : Int32) (mk lm le : Nat) (b : Nat) (k : Int32) (hb : b < 5) (hk : k < 0) : zX sa D vwCl (zty cI cZ cL) l yX4_queued wsX4_queued ({ frames := 7, cells := 1, slots := 6, locals := 102 } : Room) [.ref (ad 0), .int (nI b), .int k] (wX ad cI cZ acc net tacc tnet flo bnd frm too amt pri wai byp ldr bor due plg clo pap cnd small price cut proc (nI mk) (nI lm) (nI le)) "java/lang/IndexOutOfBoundsException" 1 6 := by
  refine zX.of (ret := (some .int)) (cc := cX4_queued) (nL := 3) (own := RX4) (by decide +kernel) rfl [(0, .ref (ad 0)), (1, .int (nI b)), (2, .int k)] rfl (Nat.le_of_ble_eq_true rfl) rfl ?_
  intro A p e s m args below meth c C hmn ht
  refine z_iload_n C dX4_queued_0 rfl 1 rfl ?_
  refine z_callSv C (T := Unit) (As := [.int (nI b)]) (rest := []) (ws' := fun _ => (wX ad cI cZ acc net tacc tnet flo bnd frm too amt pri wai byp ldr bor due plg clo pap cnd small price cut proc (nI mk) (nI lm) (nI le))) (ok_requireBank l sa D cI cZ cL  b (by first | assumption | omega)) (va_cwS 1 C.2.2.2.2.1 gX4_queued_X4_requireBank rfl rfl rfl (by decide +kernel) ⟨Nat.le_of_ble_eq_true rfl, Nat.le_of_ble_eq_true rfl⟩) (fun _ => zSub.none) zIn.none rfl (Nat.le_of_ble_eq_true rfl) ⟨Nat.le_of_ble_eq_true rfl, Nat.le_of_ble_eq_true rfl⟩ dX4_queued_1 (fun _ _ => ?_)
  refine z_iload_n C dX4_queued_4 rfl 2 rfl ?_
  refine z_if_ge C (tgt := 18) dX4_queued_5 (by decide) (fun c5_1 => ?_) (fun c5_1 => ?_)
  · skip
    exfalso
    exact absurd hk (Int32.not_lt.mpr (by assumption))
  · skip
    exact z_throwS C (names := ["java/lang/RuntimeException", "java/lang/Exception"]) ht hfl rfl (by decide +kernel) (by decide +kernel) m_X4_queued_c140 m_X4_queued_n140 (is := 142) (text := "there is no such place") (by decide +kernel) (by decide +kernel) x_X4_queued_8_1 x_X4_queued_8_2 x_X4_queued_8_3 dX4_queued_8 dX4_queued_11 dX4_queued_12 dX4_queued_14 dX4_queued_17 ⟨Nat.le_of_ble_eq_true rfl, Nat.le_of_ble_eq_true rfl, Nat.le_of_ble_eq_true rfl, Nat.le_of_ble_eq_true rfl⟩ (by decide) (by decide)
set_option maxHeartbeats 4000000 in
set_option maxRecDepth 100000 in
theorem c_X4_why_ok (l : Launch) (sa : Nat → Nat) (D : va_G) (cI cZ cL : ClassId) (ad : Nat → Nat) (acc net tacc tnet flo bnd frm too amt pri wai byp ldr bor due plg clo pap cnd : Nat → Int32) (small price cut proc : Int32) (mk lm le : Nat) (p9 : Nat) (hp : p9 < mk) (hmk : mk ≤ 60) (hfrm : wf5 mk frm) (htoo : wf5 mk too) : zMi (T := Unit) sa D vwCl (zty cI cZ cL) l yX4_why wsX4_why ({ frames := 7, cells := 0, slots := 0, locals := 103 } : Room) [.ref (ad 0), .int (nI p9)] (wX ad cI cZ acc net tacc tnet flo bnd frm too amt pri wai byp ldr bor due plg clo pap cnd small price cut proc (nI mk) (nI lm) (nI le)) (fun r9 _ => r9 = (obs acc net flo bnd frm too amt wai p9)) (fun _ => (wX ad cI cZ acc net tacc tnet flo bnd frm too amt pri wai byp ldr bor due plg clo pap cnd small price cut proc (nI mk) (nI lm) (nI le))) 0 0 := by
  refine zMi.of (ret := (some .int)) (cc := cX4_why) (nL := 2) (own := RX4) (by decide +kernel) rfl [(0, .ref (ad 0)), (1, .int (nI p9))] rfl (Nat.le_of_ble_eq_true rfl) rfl ?_
  intro A p e s m args below meth c C hmn
  refine z_aload_n C dX4_why_0 rfl 0 rfl ?_
  refine z_iload_n C dX4_why_1 rfl 1 rfl ?_
  refine z_callVv C (T := Unit) (As := [.int (nI p9)]) (rest := []) (ws' := fun _ => (wX ad cI cZ acc net tacc tnet flo bnd frm too amt pri wai byp ldr bor due plg clo pap cnd small price cut proc (nI mk) (nI lm) (nI le))) (ok_requirePayment l sa D cI cZ cL ad acc net tacc tnet flo bnd frm too amt pri wai byp ldr bor due plg clo pap cnd small price cut proc mk lm le p9 (by first | assumption | omega) (by first | assumption | omega)) (cwV 1 C.2.2.2.2.1 gX4_why_X4_requirePayment rfl rfl rfl (by decide +kernel) ⟨Nat.le_of_ble_eq_true rfl, Nat.le_of_ble_eq_true rfl⟩) 0 rfl rfl rfl (fun _ => zSub.full) zIn.full rfl (Nat.le_of_ble_eq_true rfl) ⟨Nat.le_of_ble_eq_true rfl, Nat.le_of_ble_eq_true rfl⟩ dX4_why_2 (fun _ _ => ?_)
  refine z_aload_n C dX4_why_5 rfl 0 rfl ?_
  refine z_iload_n C dX4_why_6 rfl 1 rfl ?_
  refine z_callVi C (T := Unit) (As := [.int (nI p9)]) (rest := []) (ws' := fun _ => (wX ad cI cZ acc net tacc tnet flo bnd frm too amt pri wai byp ldr bor due plg clo pap cnd small price cut proc (nI mk) (nI lm) (nI le))) (c_X4_obstacle l sa D cI cZ cL ad acc net tacc tnet flo bnd frm too amt pri wai byp ldr bor due plg clo pap cnd small price cut proc mk lm le p9 (by first | assumption | omega) (by first | assumption | omega) (by first | assumption | omega) (by first | assumption | omega)) (cwV 1 C.2.2.2.2.1 gX4_why_X4_obstacle rfl rfl rfl (by decide +kernel) ⟨Nat.le_of_ble_eq_true rfl, Nat.le_of_ble_eq_true rfl⟩) 0 rfl rfl rfl (fun _ => zSub.full) zIn.full rfl (Nat.le_of_ble_eq_true rfl) ⟨Nat.le_of_ble_eq_true rfl, Nat.le_of_ble_eq_true rfl⟩ dX4_why_7 (fun r_1 _ h_2 => ?_)
  obtain rfl : r_1 = (obs acc net flo bnd frm too amt wai p9) := h_2
  exact z_iret C () rfl rfl (by decide) (by decide) dX4_why_10
set_option maxHeartbeats 4000000 in
set_option maxRecDepth 100000 in
theorem c_X4_why_b1 (l : Launch) (hfl : l.stackTraces = false) (sa : Nat → Nat) (D : va_G) (cI cZ cL : ClassId) (ad : Nat → Nat) (acc net tacc tnet flo bnd frm too amt pri wai byp ldr bor due plg clo pap cnd : Nat → Int32) (small price cut proc : Int32) (mk lm le : Nat) (p9 : Int32) (hp : p9 < 0 ∨ nI mk ≤ p9) : zX sa D vwCl (zty cI cZ cL) l yX4_why wsX4_why ({ frames := 7, cells := 1, slots := 6, locals := 103 } : Room) [.ref (ad 0), .int p9] (wX ad cI cZ acc net tacc tnet flo bnd frm too amt pri wai byp ldr bor due plg clo pap cnd small price cut proc (nI mk) (nI lm) (nI le)) "java/lang/IndexOutOfBoundsException" 1 6 := by
  refine zX.of (ret := (some .int)) (cc := cX4_why) (nL := 2) (own := RX4) (by decide +kernel) rfl [(0, .ref (ad 0)), (1, .int p9)] rfl (Nat.le_of_ble_eq_true rfl) rfl ?_
  intro A p e s m args below meth c C hmn ht
  refine z_aload_n C dX4_why_0 rfl 0 rfl ?_
  refine z_iload_n C dX4_why_1 rfl 1 rfl ?_
  refine z_callVx C (As := [.int p9]) (rest := []) (bad_requirePayment l hfl sa D cI cZ cL ad acc net tacc tnet flo bnd frm too amt pri wai byp ldr bor due plg clo pap cnd small price cut proc mk lm le p9 (by first | assumption | omega)) (cwV 1 C.2.2.2.2.1 gX4_why_X4_requirePayment rfl rfl rfl (by decide +kernel) ⟨Nat.le_of_ble_eq_true rfl, Nat.le_of_ble_eq_true rfl⟩) 0 rfl rfl rfl zSub.full rfl (Nat.le_of_ble_eq_true rfl) ⟨Nat.le_of_ble_eq_true rfl, Nat.le_of_ble_eq_true rfl⟩ dX4_why_2 ?_
  exact z_out C ht (by decide) (by decide)
set_option maxHeartbeats 4000000 in
set_option maxRecDepth 100000 in
theorem c_X4_setPrice_ok (l : Launch) (sa : Nat → Nat) (D : va_G) (cI cZ cL : ClassId) (ad : Nat → Nat) (acc net tacc tnet flo bnd frm too amt pri wai byp ldr bor due plg clo pap cnd : Nat → Int32) (small price cut proc : Int32) (mk lm le : Nat) (p9 : Int32) (c9 : Int32) (h1 : ¬ p9 < 1) (h2 : ¬ 1000 < p9) (h3 : ¬ c9 < 0) (h4 : ¬ 1000 < c9) : zMv (T := Unit) sa D vwCl (zty cI cZ cL) l yX4_setPrice wsX4_setPrice ({ frames := 7, cells := 0, slots := 0, locals := 104 } : Room) [.ref (ad 0), .int p9, .int c9] (wX ad cI cZ acc net tacc tnet flo bnd frm too amt pri wai byp ldr bor due plg clo pap cnd small price cut proc (nI mk) (nI lm) (nI le)) (fun _ => True) (fun _ => (wX ad cI cZ acc net tacc tnet flo bnd frm too amt pri wai byp ldr bor due plg clo pap cnd small p9 c9 proc (nI mk) (nI lm) (nI le))) 0 0 := by
  refine zMv.of (ret := none) (cc := cX4_setPrice) (nL := 3) (own := RX4) (by decide +kernel) rfl [(0, .ref (ad 0)), (1, .int p9), (2, .int c9)] rfl (Nat.le_of_ble_eq_true rfl) rfl ?_
  intro A p e s m args below meth c C hmn
  refine z_iload_n C dX4_setPrice_0 rfl 1 rfl ?_
  refine z_iconst C (v := 1) dX4_setPrice_1 (by decide) ?_
  refine z_sipush C (v := 1000) dX4_setPrice_2 (by decide) ?_
  refine z_callSv C (T := Unit) (As := [.int p9, .int 1, .int 1000]) (rest := []) (ws' := fun _ => (wX ad cI cZ acc net tacc tnet flo bnd frm too amt pri wai byp ldr bor due plg clo pap cnd small price cut proc (nI mk) (nI lm) (nI le))) (ok_requireRange l sa D cI cZ cL  p9 1 1000 (by first | assumption | omega) (by first | assumption | omega)) (va_cwS 3 C.2.2.2.2.1 gX4_setPrice_X4_requireRange rfl rfl rfl (by decide +kernel) ⟨Nat.le_of_ble_eq_true rfl, Nat.le_of_ble_eq_true rfl⟩) (fun _ => zSub.none) zIn.none rfl (Nat.le_of_ble_eq_true rfl) ⟨Nat.le_of_ble_eq_true rfl, Nat.le_of_ble_eq_true rfl⟩ dX4_setPrice_5 (fun _ _ => ?_)
  refine z_iload_n C dX4_setPrice_8 rfl 2 rfl ?_
  refine z_iconst C (v := 0) dX4_setPrice_9 (by decide) ?_
  refine z_sipush C (v := 1000) dX4_setPrice_10 (by decide) ?_
  refine z_callSv C (T := Unit) (As := [.int c9, .int 0, .int 1000]) (rest := []) (ws' := fun _ => (wX ad cI cZ acc net tacc tnet flo bnd frm too amt pri wai byp ldr bor due plg clo pap cnd small price cut proc (nI mk) (nI lm) (nI le))) (ok_requireRange l sa D cI cZ cL  c9 0 1000 (by first | assumption | omega) (by first | assumption | omega)) (va_cwS 3 C.2.2.2.2.1 gX4_setPrice_X4_requireRange rfl rfl rfl (by decide +kernel) ⟨Nat.le_of_ble_eq_true rfl, Nat.le_of_ble_eq_true rfl⟩) (fun _ => zSub.none) zIn.none rfl (Nat.le_of_ble_eq_true rfl) ⟨Nat.le_of_ble_eq_true rfl, Nat.le_of_ble_eq_true rfl⟩ dX4_setPrice_13 (fun _ _ => ?_)
  refine z_aload_n C dX4_setPrice_16 rfl 0 rfl ?_
  refine z_iload_n C dX4_setPrice_17 rfl 1 rfl ?_
  refine z_put C 0 rfl i_X4_setPrice_X4 rfl 9 (by decide) m_X4_setPrice_f55 rfl tyX4 tyX4_ok nmX4 rfl (ty := .int) (by decide +kernel) rfl rfl (Nat.le_of_ble_eq_true rfl) dX4_setPrice_18 (wX ad cI cZ acc net tacc tnet flo bnd frm too amt pri wai byp ldr bor due plg clo pap cnd small p9 cut proc (nI mk) (nI lm) (nI le)) rfl ?_
  refine z_aload_n C dX4_setPrice_21 rfl 0 rfl ?_
  refine z_iload_n C dX4_setPrice_22 rfl 2 rfl ?_
  refine z_put C 0 rfl i_X4_setPrice_X4 rfl 10 (by decide) m_X4_setPrice_f58 rfl tyX4 tyX4_ok nmX4 rfl (ty := .int) (by decide +kernel) rfl rfl (Nat.le_of_ble_eq_true rfl) dX4_setPrice_23 (wX ad cI cZ acc net tacc tnet flo bnd frm too amt pri wai byp ldr bor due plg clo pap cnd small p9 c9 proc (nI mk) (nI lm) (nI le)) rfl ?_
  exact z_vret C () (by exact trivial) rfl (by decide) (by decide) dX4_setPrice_26
set_option maxHeartbeats 4000000 in
set_option maxRecDepth 100000 in
theorem c_X4_setPrice_b1 (l : Launch) (hfl : l.stackTraces = false) (sa : Nat → Nat) (D : va_G) (cI cZ cL : ClassId) (ad : Nat → Nat) (acc net tacc tnet flo bnd frm too amt pri wai byp ldr bor due plg clo pap cnd : Nat → Int32) (small price cut proc : Int32) (mk lm le : Nat) (p9 : Int32) (c9 : Int32) (hbad : p9 < 1 ∨ 1000 < p9 ∨ c9 < 0 ∨ 1000 < c9) : zX sa D vwCl (zty cI cZ cL) l yX4_setPrice wsX4_setPrice ({ frames := 7, cells := 1, slots := 6, locals := 104 } : Room) [.ref (ad 0), .int p9, .int c9] (wX ad cI cZ acc net tacc tnet flo bnd frm too amt pri wai byp ldr bor due plg clo pap cnd small price cut proc (nI mk) (nI lm) (nI le)) "java/lang/IllegalArgumentException" 1 6 := by
  refine zX.of (ret := none) (cc := cX4_setPrice) (nL := 3) (own := RX4) (by decide +kernel) rfl [(0, .ref (ad 0)), (1, .int p9), (2, .int c9)] rfl (Nat.le_of_ble_eq_true rfl) rfl ?_
  intro A p e s m args below meth c C hmn ht
  refine z_iload_n C dX4_setPrice_0 rfl 1 rfl ?_
  refine z_iconst C (v := 1) dX4_setPrice_1 (by decide) ?_
  refine z_sipush C (v := 1000) dX4_setPrice_2 (by decide) ?_
  refine z_case (¬ p9 < 1 ∧ ¬ 1000 < p9) (fun hp_1 => ?_) (fun hp_1 => ?_)
  · skip
    obtain ⟨_, _⟩ := hp_1
    refine z_callSv C (T := Unit) (As := [.int p9, .int 1, .int 1000]) (rest := []) (ws' := fun _ => (wX ad cI cZ acc net tacc tnet flo bnd frm too amt pri wai byp ldr bor due plg clo pap cnd small price cut proc (nI mk) (nI lm) (nI le))) (ok_requireRange l sa D cI cZ cL  p9 1 1000 (by first | assumption | omega) (by first | assumption | omega)) (va_cwS 3 C.2.2.2.2.1 gX4_setPrice_X4_requireRange rfl rfl rfl (by decide +kernel) ⟨Nat.le_of_ble_eq_true rfl, Nat.le_of_ble_eq_true rfl⟩) (fun _ => zSub.none) zIn.none rfl (Nat.le_of_ble_eq_true rfl) ⟨Nat.le_of_ble_eq_true rfl, Nat.le_of_ble_eq_true rfl⟩ dX4_setPrice_5 (fun _ _ => ?_)
    refine z_iload_n C dX4_setPrice_8 rfl 2 rfl ?_
    refine z_iconst C (v := 0) dX4_setPrice_9 (by decide) ?_
    refine z_sipush C (v := 1000) dX4_setPrice_10 (by decide) ?_
    refine z_callSx C (As := [.int c9, .int 0, .int 1000]) (rest := []) (bad_requireRange l hfl sa D cI cZ cL  c9 0 1000 (by rcases hbad with h | h | h | h <;> first | contradiction | exact Or.inl h | exact Or.inr h)) (va_cwS 3 C.2.2.2.2.1 gX4_setPrice_X4_requireRange rfl rfl rfl (by decide +kernel) ⟨Nat.le_of_ble_eq_true rfl, Nat.le_of_ble_eq_true rfl⟩) zSub.none rfl (Nat.le_of_ble_eq_true rfl) ⟨Nat.le_of_ble_eq_true rfl, Nat.le_of_ble_eq_true rfl⟩ dX4_setPrice_13 ?_
    exact z_out C ht (by decide) (by decide)
  · skip
    have := z_rng hp_1
    refine z_callSx C (As := [.int p9, .int 1, .int 1000]) (rest := []) (bad_requireRange l hfl sa D cI cZ cL  p9 1 1000 (by first | assumption | omega)) (va_cwS 3 C.2.2.2.2.1 gX4_setPrice_X4_requireRange rfl rfl rfl (by decide +kernel) ⟨Nat.le_of_ble_eq_true rfl, Nat.le_of_ble_eq_true rfl⟩) zSub.none rfl (Nat.le_of_ble_eq_true rfl) ⟨Nat.le_of_ble_eq_true rfl, Nat.le_of_ble_eq_true rfl⟩ dX4_setPrice_5 ?_
    exact z_out C ht (by decide) (by decide)
set_option maxHeartbeats 4000000 in
set_option maxRecDepth 100000 in
theorem c_X4_lend_ok (l : Launch) (sa : Nat → Nat) (D : va_G) (cI cZ cL : ClassId) (ad : Nat → Nat) (acc net tacc tnet flo bnd frm too amt pri wai byp ldr bor due plg clo pap cnd : Nat → Int32) (small price cut proc : Int32) (mk lm le : Nat) (b : Nat) (o : Nat) (am : Int32) (rt : Int32) (x : Int32) (hb : b < 5) (ho : o < 5) (hft : b ≠ o) (g1 : ¬ am < 1) (g2 : ¬ 100000 < am) (g3 : ¬ rt < 0) (g4 : ¬ 200 < rt) (g5 : ¬ x < 0) (g6 : ¬ 1000 < x) (hcb : clo b = 0) (hco : clo o = 0) (hlm : lm < 40) (k1 : ¬ pap o < x) (k2 : ¬ x * price * (1000 - cut) / 1000 < am) (k3 : ¬ acc b - am < flo b) : zMi (T := Unit) sa D vwCl (zty cI cZ cL) l yX4_lend wsX4_lend ({ frames := 7, cells := 0, slots := 0, locals := 106 } : Room) [.ref (ad 0), .int (nI b), .int (nI o), .int am, .int rt, .int x] (wX ad cI cZ acc net tacc tnet flo bnd frm too amt pri wai byp ldr bor due plg clo pap cnd small price cut proc (nI mk) (nI lm) (nI le)) (fun r9 _ => r9 = (nI lm)) (fun _ => (wX ad cI cZ (mvA b o am acc) net tacc tnet flo bnd frm too amt pri wai byp (upd ldr lm (nI b)) (upd bor lm (nI o)) (upd due lm (am + am * rt / 1000)) (upd plg lm x) clo (upd pap o (pap o - x)) cnd small price cut proc (nI mk) (nI (lm + 1)) (nI le))) 0 0 := by
  refine zMi.of (ret := (some .int)) (cc := cX4_lend) (nL := 6) (own := RX4) (by decide +kernel) rfl [(0, .ref (ad 0)), (1, .int (nI b)), (2, .int (nI o)), (3, .int am), (4, .int rt), (5, .int x)] rfl (Nat.le_of_ble_eq_true rfl) rfl ?_
  intro A p e s m args below meth c C hmn
  refine z_iload_n C dX4_lend_0 rfl 1 rfl ?_
  refine z_callSv C (T := Unit) (As := [.int (nI b)]) (rest := []) (ws' := fun _ => (wX ad cI cZ acc net tacc tnet flo bnd frm too amt pri wai byp ldr bor due plg clo pap cnd small price cut proc (nI mk) (nI lm) (nI le))) (ok_requireBank l sa D cI cZ cL  b (by first | assumption | omega)) (va_cwS 1 C.2.2.2.2.1 gX4_lend_X4_requireBank rfl rfl rfl (by decide +kernel) ⟨Nat.le_of_ble_eq_true rfl, Nat.le_of_ble_eq_true rfl⟩) (fun _ => zSub.none) zIn.none rfl (Nat.le_of_ble_eq_true rfl) ⟨Nat.le_of_ble_eq_true rfl, Nat.le_of_ble_eq_true rfl⟩ dX4_lend_1 (fun _ _ => ?_)
  refine z_iload_n C dX4_lend_4 rfl 2 rfl ?_
  refine z_callSv C (T := Unit) (As := [.int (nI o)]) (rest := []) (ws' := fun _ => (wX ad cI cZ acc net tacc tnet flo bnd frm too amt pri wai byp ldr bor due plg clo pap cnd small price cut proc (nI mk) (nI lm) (nI le))) (ok_requireBank l sa D cI cZ cL  o (by first | assumption | omega)) (va_cwS 1 C.2.2.2.2.1 gX4_lend_X4_requireBank rfl rfl rfl (by decide +kernel) ⟨Nat.le_of_ble_eq_true rfl, Nat.le_of_ble_eq_true rfl⟩) (fun _ => zSub.none) zIn.none rfl (Nat.le_of_ble_eq_true rfl) ⟨Nat.le_of_ble_eq_true rfl, Nat.le_of_ble_eq_true rfl⟩ dX4_lend_5 (fun _ _ => ?_)
  refine z_iload_n C dX4_lend_8 rfl 1 rfl ?_
  refine z_iload_n C dX4_lend_9 rfl 2 rfl ?_
  refine z_callSv C (T := Unit) (As := [.int (nI b), .int (nI o)]) (rest := []) (ws' := fun _ => (wX ad cI cZ acc net tacc tnet flo bnd frm too amt pri wai byp ldr bor due plg clo pap cnd small price cut proc (nI mk) (nI lm) (nI le))) (ok_requireTwo l sa D cI cZ cL  b o (by first | assumption | omega) (by first | assumption | omega) (by first | assumption | omega)) (va_cwS 2 C.2.2.2.2.1 gX4_lend_X4_requireTwo rfl rfl rfl (by decide +kernel) ⟨Nat.le_of_ble_eq_true rfl, Nat.le_of_ble_eq_true rfl⟩) (fun _ => zSub.none) zIn.none rfl (Nat.le_of_ble_eq_true rfl) ⟨Nat.le_of_ble_eq_true rfl, Nat.le_of_ble_eq_true rfl⟩ dX4_lend_10 (fun _ _ => ?_)
  refine z_iload_n C dX4_lend_13 rfl 3 rfl ?_
  refine z_iconst C (v := 1) dX4_lend_14 (by decide) ?_
  refine z_ldc C m_X4_lend_k110 dX4_lend_15 ?_
  refine z_callSv C (T := Unit) (As := [.int am, .int 1, .int 100000]) (rest := []) (ws' := fun _ => (wX ad cI cZ acc net tacc tnet flo bnd frm too amt pri wai byp ldr bor due plg clo pap cnd small price cut proc (nI mk) (nI lm) (nI le))) (ok_requireRange l sa D cI cZ cL  am 1 100000 (by first | assumption | omega) (by first | assumption | omega)) (va_cwS 3 C.2.2.2.2.1 gX4_lend_X4_requireRange rfl rfl rfl (by decide +kernel) ⟨Nat.le_of_ble_eq_true rfl, Nat.le_of_ble_eq_true rfl⟩) (fun _ => zSub.none) zIn.none rfl (Nat.le_of_ble_eq_true rfl) ⟨Nat.le_of_ble_eq_true rfl, Nat.le_of_ble_eq_true rfl⟩ dX4_lend_17 (fun _ _ => ?_)
  refine z_iload C dX4_lend_20 4 rfl ?_
  refine z_iconst C (v := 0) dX4_lend_22 (by decide) ?_
  refine z_sipush C (v := 200) dX4_lend_23 (by decide) ?_
  refine z_callSv C (T := Unit) (As := [.int rt, .int 0, .int 200]) (rest := []) (ws' := fun _ => (wX ad cI cZ acc net tacc tnet flo bnd frm too amt pri wai byp ldr bor due plg clo pap cnd small price cut proc (nI mk) (nI lm) (nI le))) (ok_requireRange l sa D cI cZ cL  rt 0 200 (by first | assumption | omega) (by first | assumption | omega)) (va_cwS 3 C.2.2.2.2.1 gX4_lend_X4_requireRange rfl rfl rfl (by decide +kernel) ⟨Nat.le_of_ble_eq_true rfl, Nat.le_of_ble_eq_true rfl⟩) (fun _ => zSub.none) zIn.none rfl (Nat.le_of_ble_eq_true rfl) ⟨Nat.le_of_ble_eq_true rfl, Nat.le_of_ble_eq_true rfl⟩ dX4_lend_26 (fun _ _ => ?_)
  refine z_iload C dX4_lend_29 5 rfl ?_
  refine z_iconst C (v := 0) dX4_lend_31 (by decide) ?_
  refine z_sipush C (v := 1000) dX4_lend_32 (by decide) ?_
  refine z_callSv C (T := Unit) (As := [.int x, .int 0, .int 1000]) (rest := []) (ws' := fun _ => (wX ad cI cZ acc net tacc tnet flo bnd frm too amt pri wai byp ldr bor due plg clo pap cnd small price cut proc (nI mk) (nI lm) (nI le))) (ok_requireRange l sa D cI cZ cL  x 0 1000 (by first | assumption | omega) (by first | assumption | omega)) (va_cwS 3 C.2.2.2.2.1 gX4_lend_X4_requireRange rfl rfl rfl (by decide +kernel) ⟨Nat.le_of_ble_eq_true rfl, Nat.le_of_ble_eq_true rfl⟩) (fun _ => zSub.none) zIn.none rfl (Nat.le_of_ble_eq_true rfl) ⟨Nat.le_of_ble_eq_true rfl, Nat.le_of_ble_eq_true rfl⟩ dX4_lend_35 (fun _ _ => ?_)
  refine z_aload_n C dX4_lend_38 rfl 0 rfl ?_
  refine z_iload_n C dX4_lend_39 rfl 1 rfl ?_
  refine z_callVv C (T := Unit) (As := [.int (nI b)]) (rest := []) (ws' := fun _ => (wX ad cI cZ acc net tacc tnet flo bnd frm too amt pri wai byp ldr bor due plg clo pap cnd small price cut proc (nI mk) (nI lm) (nI le))) (ok_requireOpen l sa D cI cZ cL ad acc net tacc tnet flo bnd frm too amt pri wai byp ldr bor due plg clo pap cnd small price cut proc mk lm le b (by first | assumption | omega) (by first | assumption | omega)) (cwV 1 C.2.2.2.2.1 gX4_lend_X4_requireOpen rfl rfl rfl (by decide +kernel) ⟨Nat.le_of_ble_eq_true rfl, Nat.le_of_ble_eq_true rfl⟩) 0 rfl rfl rfl (fun _ => zSub.full) zIn.full rfl (Nat.le_of_ble_eq_true rfl) ⟨Nat.le_of_ble_eq_true rfl, Nat.le_of_ble_eq_true rfl⟩ dX4_lend_40 (fun _ _ => ?_)
  refine z_aload_n C dX4_lend_43 rfl 0 rfl ?_
  refine z_iload_n C dX4_lend_44 rfl 2 rfl ?_
  refine z_callVv C (T := Unit) (As := [.int (nI o)]) (rest := []) (ws' := fun _ => (wX ad cI cZ acc net tacc tnet flo bnd frm too amt pri wai byp ldr bor due plg clo pap cnd small price cut proc (nI mk) (nI lm) (nI le))) (ok_requireOpen l sa D cI cZ cL ad acc net tacc tnet flo bnd frm too amt pri wai byp ldr bor due plg clo pap cnd small price cut proc mk lm le o (by first | assumption | omega) (by first | assumption | omega)) (cwV 1 C.2.2.2.2.1 gX4_lend_X4_requireOpen rfl rfl rfl (by decide +kernel) ⟨Nat.le_of_ble_eq_true rfl, Nat.le_of_ble_eq_true rfl⟩) 0 rfl rfl rfl (fun _ => zSub.full) zIn.full rfl (Nat.le_of_ble_eq_true rfl) ⟨Nat.le_of_ble_eq_true rfl, Nat.le_of_ble_eq_true rfl⟩ dX4_lend_45 (fun _ _ => ?_)
  refine z_aload_n C dX4_lend_48 rfl 0 rfl ?_
  refine z_iload_n C dX4_lend_49 rfl 1 rfl ?_
  refine z_iload_n C dX4_lend_50 rfl 2 rfl ?_
  refine z_iload_n C dX4_lend_51 rfl 3 rfl ?_
  refine z_iload C dX4_lend_52 5 rfl ?_
  refine z_callVv C (T := Unit) (As := [.int (nI b), .int (nI o), .int am, .int x]) (rest := []) (ws' := fun _ => (wX ad cI cZ acc net tacc tnet flo bnd frm too amt pri wai byp ldr bor due plg clo pap cnd small price cut proc (nI mk) (nI lm) (nI le))) (ok_requireLoanable l sa D cI cZ cL ad acc net tacc tnet flo bnd frm too amt pri wai byp ldr bor due plg clo pap cnd small price cut proc mk lm le b o am x (by first | assumption | omega) (by first | assumption | omega) (by first | assumption | omega) (by first | assumption | omega) (by first | assumption | omega) (by first | assumption | omega)) (cwV 4 C.2.2.2.2.1 gX4_lend_X4_requireLoanable rfl rfl rfl (by decide +kernel) ⟨Nat.le_of_ble_eq_true rfl, Nat.le_of_ble_eq_true rfl⟩) 0 rfl rfl rfl (fun _ => zSub.full) zIn.full rfl (Nat.le_of_ble_eq_true rfl) ⟨Nat.le_of_ble_eq_true rfl, Nat.le_of_ble_eq_true rfl⟩ dX4_lend_54 (fun _ _ => ?_)
  refine z_aload_n C dX4_lend_57 rfl 0 rfl ?_
  refine z_get C 0 rfl i_X4_lend_X4 rfl 0 (by decide) m_X4_lend_f10 rfl rfl dX4_lend_58 ?_
  refine z_iload_n C dX4_lend_61 rfl 1 rfl ?_
  refine z_iload_n C dX4_lend_62 rfl 2 rfl ?_
  refine z_iload_n C dX4_lend_63 rfl 3 rfl ?_
  refine z_callVv C (T := Unit) (As := [.int (nI b), .int (nI o), .int am]) (rest := []) (ws' := fun _ => (wX ad cI cZ (mvA b o am acc) net tacc tnet flo bnd frm too amt pri wai byp ldr bor due plg clo pap cnd small price cut proc (nI mk) (nI lm) (nI le))) (c_X3_move l sa D cI cZ cL (ad 1) (ad 6) (ad 7) acc net b o am (by first | assumption | omega) (by first | assumption | omega)) (cwV 3 C.2.2.2.2.1 gX4_lend_X3_move rfl rfl rfl (by decide +kernel) ⟨Nat.le_of_ble_eq_true rfl, Nat.le_of_ble_eq_true rfl⟩) 1 rfl rfl rfl (fun _ => (zSub.of (wr := [((ad 0), .inr (4, [.ref (ad 1), .ref (ad 2), .ref (ad 3), .ref (ad 4), .ref (ad 5), .ref (ad 22), .ref (ad 23), .ref (ad 24), .int small, .int price, .int cut, .int proc])), ((ad 2), .inr (3, [.ref (ad 8), .ref (ad 9)])), ((ad 3), .inr (0, [.ref (ad 10), .ref (ad 11)])), ((ad 4), .inr (2, [.ref (ad 12), .ref (ad 13), .ref (ad 14), .ref (ad 15), .ref (ad 16), .ref (ad 17), .int (nI mk)])), ((ad 5), .inr (1, [.ref (ad 18), .ref (ad 19), .ref (ad 20), .ref (ad 21), .int (nI lm), .int (nI le)])), ((ad 8), .inl (cI, 5, .inl tacc)), ((ad 9), .inl (cI, 25, .inl tnet)), ((ad 10), .inl (cI, 5, .inl flo)), ((ad 11), .inl (cI, 25, .inl bnd)), ((ad 12), .inl (cI, 60, .inl frm)), ((ad 13), .inl (cI, 60, .inl too)), ((ad 14), .inl (cI, 60, .inl amt)), ((ad 15), .inl (cI, 60, .inl pri)), ((ad 16), .inl (cZ, 60, .inl wai)), ((ad 17), .inl (cI, 60, .inl byp)), ((ad 18), .inl (cI, 40, .inl ldr)), ((ad 19), .inl (cI, 40, .inl bor)), ((ad 20), .inl (cI, 40, .inl due)), ((ad 21), .inl (cI, 40, .inl plg)), ((ad 22), .inl (cZ, 5, .inl clo)), ((ad 23), .inl (cI, 5, .inl pap)), ((ad 24), .inl (cI, 10, .inl cnd))]) [1, 6, 7] [0, 2, 3, 4, 5, 8, 9, 10, 11, 12, 13, 14, 15, 16, 17, 18, 19, 20, 21, 22, 23, 24] [0, 22, 1, 2, 3, 4, 23, 24, 5, 6, 7, 8, 9, 10, 11, 12, 13, 14, 15, 16, 17, 18, 19, 20, 21] rfl rfl rfl rfl (by decide) rfl rfl)) (zIn.of [1, 6, 7] rfl rfl) rfl (Nat.le_of_ble_eq_true rfl) ⟨Nat.le_of_ble_eq_true rfl, Nat.le_of_ble_eq_true rfl⟩ dX4_lend_64 (fun _ _ => ?_)
  refine z_aload_n C dX4_lend_67 rfl 0 rfl ?_
  refine z_get C 0 rfl i_X4_lend_X4 rfl 6 (by decide) m_X4_lend_f44 rfl rfl dX4_lend_68 ?_
  refine z_iload_n C dX4_lend_71 rfl 2 rfl ?_
  refine z_dup2 C dX4_lend_72 rfl rfl ?_
  refine z_iald C 23 0 rfl rfl o (nI_clamp (by omega)) (vp_in_nI (by omega) (by omega)) (pap o) rfl dX4_lend_73 ?_
  refine z_iload C dX4_lend_74 5 rfl ?_
  refine z_isub C (v := ((pap o) - x)) dX4_lend_76 rfl ?_
  refine z_iast C 23 0 rfl rfl o (nI_clamp (by omega)) (vp_in_nI (by omega) (by omega)) ((pap o) - x) rfl dX4_lend_77 (wX ad cI cZ (mvA b o am acc) net tacc tnet flo bnd frm too amt pri wai byp ldr bor due plg clo (upd pap o ((pap o) - x)) cnd small price cut proc (nI mk) (nI lm) (nI le)) rfl ?_
  refine z_aload_n C dX4_lend_78 rfl 0 rfl ?_
  refine z_get C 0 rfl i_X4_lend_X4 rfl 4 (by decide) m_X4_lend_f36 rfl rfl dX4_lend_79 ?_
  refine z_iload_n C dX4_lend_82 rfl 1 rfl ?_
  refine z_iload_n C dX4_lend_83 rfl 2 rfl ?_
  refine z_iload_n C dX4_lend_84 rfl 3 rfl ?_
  refine z_iload_n C dX4_lend_85 rfl 3 rfl ?_
  refine z_iload C dX4_lend_86 4 rfl ?_
  refine z_imul C (v := (am * rt)) dX4_lend_88 rfl ?_
  refine z_sipush C (v := 1000) dX4_lend_89 (by decide) ?_
  refine z_idiv C (v := ((am * rt) / 1000)) dX4_lend_92 (by decide) rfl ?_
  refine z_iadd C (v := (am + ((am * rt) / 1000))) dX4_lend_93 rfl ?_
  refine z_iload C dX4_lend_94 5 rfl ?_
  refine z_callVi C (T := Unit) (As := [.int (nI b), .int (nI o), .int (am + ((am * rt) / 1000)), .int x]) (rest := []) (ws' := fun _ => (wX ad cI cZ (mvA b o am acc) net tacc tnet flo bnd frm too amt pri wai byp (upd ldr lm (nI b)) (upd bor lm (nI o)) (upd due lm (am + ((am * rt) / 1000))) (upd plg lm x) clo (upd pap o ((pap o) - x)) cnd small price cut proc (nI mk) (nI (lm + 1)) (nI le))) (c_X1_enter l sa D cI cZ cL ad (mvA b o am acc) net tacc tnet flo bnd frm too amt pri wai byp ldr bor due plg clo (upd pap o ((pap o) - x)) cnd small price cut proc mk lm le b o (am + ((am * rt) / 1000)) x (by first | assumption | omega)) (cwV 4 C.2.2.2.2.1 gX4_lend_X1_enter rfl rfl rfl (by decide +kernel) ⟨Nat.le_of_ble_eq_true rfl, Nat.le_of_ble_eq_true rfl⟩) 5 rfl rfl rfl (fun _ => zSub.full) zIn.full rfl (Nat.le_of_ble_eq_true rfl) ⟨Nat.le_of_ble_eq_true rfl, Nat.le_of_ble_eq_true rfl⟩ dX4_lend_96 (fun r_1 _ h_2 => ?_)
  obtain rfl : r_1 = (nI lm) := h_2
  exact z_iret C () rfl rfl (by decide) (by decide) dX4_lend_99
set_option maxHeartbeats 4000000 in
set_option maxRecDepth 100000 in
theorem c_X4_lend_b1 (l : Launch) (hfl : l.stackTraces = false) (sa : Nat → Nat) (D : va_G) (cI cZ cL : ClassId) (ad : Nat → Nat) (acc net tacc tnet flo bnd frm too amt pri wai byp ldr bor due plg clo pap cnd : Nat → Int32) (small price cut proc : Int32) (mk lm le : Nat) (b : Int32) (o : Int32) (am : Int32) (rt : Int32) (x : Int32) (hb : b < 0 ∨ 5 ≤ b) : zX sa D vwCl (zty cI cZ cL) l yX4_lend wsX4_lend ({ frames := 7, cells := 1, slots := 6, locals := 102 } : Room) [.ref (ad 0), .int b, .int o, .int am, .int rt, .int x] (wX ad cI cZ acc net tacc tnet flo bnd frm too amt pri wai byp ldr bor due plg clo pap cnd small price cut proc (nI mk) (nI lm) (nI le)) "java/lang/IndexOutOfBoundsException" 1 6 := by
  refine zX.of (ret := (some .int)) (cc := cX4_lend) (nL := 6) (own := RX4) (by decide +kernel) rfl [(0, .ref (ad 0)), (1, .int b), (2, .int o), (3, .int am), (4, .int rt), (5, .int x)] rfl (Nat.le_of_ble_eq_true rfl) rfl ?_
  intro A p e s m args below meth c C hmn ht
  refine z_iload_n C dX4_lend_0 rfl 1 rfl ?_
  refine z_callSx C (As := [.int b]) (rest := []) (bad_requireBank l hfl sa D cI cZ cL  b (by first | assumption | omega)) (va_cwS 1 C.2.2.2.2.1 gX4_lend_X4_requireBank rfl rfl rfl (by decide +kernel) ⟨Nat.le_of_ble_eq_true rfl, Nat.le_of_ble_eq_true rfl⟩) zSub.none rfl (Nat.le_of_ble_eq_true rfl) ⟨Nat.le_of_ble_eq_true rfl, Nat.le_of_ble_eq_true rfl⟩ dX4_lend_1 ?_
  exact z_out C ht (by decide) (by decide)
set_option maxHeartbeats 4000000 in
set_option maxRecDepth 100000 in
theorem c_X4_lend_b1b (l : Launch) (hfl : l.stackTraces = false) (sa : Nat → Nat) (D : va_G) (cI cZ cL : ClassId) (ad : Nat → Nat) (acc net tacc tnet flo bnd frm too amt pri wai byp ldr bor due plg clo pap cnd : Nat → Int32) (small price cut proc : Int32) (mk lm le : Nat) (b : Nat) (o : Int32) (am : Int32) (rt : Int32) (x : Int32) (hb : b < 5) (ho : o < 0 ∨ 5 ≤ o) : zX sa D vwCl (zty cI cZ cL) l yX4_lend wsX4_lend ({ frames := 7, cells := 1, slots := 6, locals := 102 } : Room) [.ref (ad 0), .int (nI b), .int o, .int am, .int rt, .int x] (wX ad cI cZ acc net tacc tnet flo bnd frm too amt pri wai byp ldr bor due plg clo pap cnd small price cut proc (nI mk) (nI lm) (nI le)) "java/lang/IndexOutOfBoundsException" 1 6 := by
  refine zX.of (ret := (some .int)) (cc := cX4_lend) (nL := 6) (own := RX4) (by decide +kernel) rfl [(0, .ref (ad 0)), (1, .int (nI b)), (2, .int o), (3, .int am), (4, .int rt), (5, .int x)] rfl (Nat.le_of_ble_eq_true rfl) rfl ?_
  intro A p e s m args below meth c C hmn ht
  refine z_iload_n C dX4_lend_0 rfl 1 rfl ?_
  refine z_callSv C (T := Unit) (As := [.int (nI b)]) (rest := []) (ws' := fun _ => (wX ad cI cZ acc net tacc tnet flo bnd frm too amt pri wai byp ldr bor due plg clo pap cnd small price cut proc (nI mk) (nI lm) (nI le))) (ok_requireBank l sa D cI cZ cL  b (by first | assumption | omega)) (va_cwS 1 C.2.2.2.2.1 gX4_lend_X4_requireBank rfl rfl rfl (by decide +kernel) ⟨Nat.le_of_ble_eq_true rfl, Nat.le_of_ble_eq_true rfl⟩) (fun _ => zSub.none) zIn.none rfl (Nat.le_of_ble_eq_true rfl) ⟨Nat.le_of_ble_eq_true rfl, Nat.le_of_ble_eq_true rfl⟩ dX4_lend_1 (fun _ _ => ?_)
  refine z_iload_n C dX4_lend_4 rfl 2 rfl ?_
  refine z_callSx C (As := [.int o]) (rest := []) (bad_requireBank l hfl sa D cI cZ cL  o (by first | assumption | omega)) (va_cwS 1 C.2.2.2.2.1 gX4_lend_X4_requireBank rfl rfl rfl (by decide +kernel) ⟨Nat.le_of_ble_eq_true rfl, Nat.le_of_ble_eq_true rfl⟩) zSub.none rfl (Nat.le_of_ble_eq_true rfl) ⟨Nat.le_of_ble_eq_true rfl, Nat.le_of_ble_eq_true rfl⟩ dX4_lend_5 ?_
  exact z_out C ht (by decide) (by decide)
set_option maxHeartbeats 4000000 in
set_option maxRecDepth 100000 in
theorem c_X4_lend_b2a (l : Launch) (hfl : l.stackTraces = false) (sa : Nat → Nat) (D : va_G) (cI cZ cL : ClassId) (ad : Nat → Nat) (acc net tacc tnet flo bnd frm too amt pri wai byp ldr bor due plg clo pap cnd : Nat → Int32) (small price cut proc : Int32) (mk lm le : Nat) (b : Nat) (o : Nat) (am : Int32) (rt : Int32) (x : Int32) (hb : b < 5) (ho : o < 5) (hft : b = o) : zX sa D vwCl (zty cI cZ cL) l yX4_lend wsX4_lend ({ frames := 7, cells := 1, slots := 6, locals := 103 } : Room) [.ref (ad 0), .int (nI b), .int (nI o), .int am, .int rt, .int x] (wX ad cI cZ acc net tacc tnet flo bnd frm too amt pri wai byp ldr bor due plg clo pap cnd small price cut proc (nI mk) (nI lm) (nI le)) "java/lang/IllegalArgumentException" 1 6 := by
  refine zX.of (ret := (some .int)) (cc := cX4_lend) (nL := 6) (own := RX4) (by decide +kernel) rfl [(0, .ref (ad 0)), (1, .int (nI b)), (2, .int (nI o)), (3, .int am), (4, .int rt), (5, .int x)] rfl (Nat.le_of_ble_eq_true rfl) rfl ?_
  intro A p e s m args below meth c C hmn ht
  refine z_iload_n C dX4_lend_0 rfl 1 rfl ?_
  refine z_callSv C (T := Unit) (As := [.int (nI b)]) (rest := []) (ws' := fun _ => (wX ad cI cZ acc net tacc tnet flo bnd frm too amt pri wai byp ldr bor due plg clo pap cnd small price cut proc (nI mk) (nI lm) (nI le))) (ok_requireBank l sa D cI cZ cL  b (by first | assumption | omega)) (va_cwS 1 C.2.2.2.2.1 gX4_lend_X4_requireBank rfl rfl rfl (by decide +kernel) ⟨Nat.le_of_ble_eq_true rfl, Nat.le_of_ble_eq_true rfl⟩) (fun _ => zSub.none) zIn.none rfl (Nat.le_of_ble_eq_true rfl) ⟨Nat.le_of_ble_eq_true rfl, Nat.le_of_ble_eq_true rfl⟩ dX4_lend_1 (fun _ _ => ?_)
  refine z_iload_n C dX4_lend_4 rfl 2 rfl ?_
  refine z_callSv C (T := Unit) (As := [.int (nI o)]) (rest := []) (ws' := fun _ => (wX ad cI cZ acc net tacc tnet flo bnd frm too amt pri wai byp ldr bor due plg clo pap cnd small price cut proc (nI mk) (nI lm) (nI le))) (ok_requireBank l sa D cI cZ cL  o (by first | assumption | omega)) (va_cwS 1 C.2.2.2.2.1 gX4_lend_X4_requireBank rfl rfl rfl (by decide +kernel) ⟨Nat.le_of_ble_eq_true rfl, Nat.le_of_ble_eq_true rfl⟩) (fun _ => zSub.none) zIn.none rfl (Nat.le_of_ble_eq_true rfl) ⟨Nat.le_of_ble_eq_true rfl, Nat.le_of_ble_eq_true rfl⟩ dX4_lend_5 (fun _ _ => ?_)
  refine z_iload_n C dX4_lend_8 rfl 1 rfl ?_
  refine z_iload_n C dX4_lend_9 rfl 2 rfl ?_
  refine z_callSx C (As := [.int (nI b), .int (nI o)]) (rest := []) (bad_requireTwo l hfl sa D cI cZ cL  b o (by first | assumption | omega) (by first | assumption | omega) (by first | assumption | omega)) (va_cwS 2 C.2.2.2.2.1 gX4_lend_X4_requireTwo rfl rfl rfl (by decide +kernel) ⟨Nat.le_of_ble_eq_true rfl, Nat.le_of_ble_eq_true rfl⟩) zSub.none rfl (Nat.le_of_ble_eq_true rfl) ⟨Nat.le_of_ble_eq_true rfl, Nat.le_of_ble_eq_true rfl⟩ dX4_lend_10 ?_
  exact z_out C ht (by decide) (by decide)
set_option maxHeartbeats 4000000 in
set_option maxRecDepth 100000 in
theorem c_X4_lend_b2b (l : Launch) (hfl : l.stackTraces = false) (sa : Nat → Nat) (D : va_G) (cI cZ cL : ClassId) (ad : Nat → Nat) (acc net tacc tnet flo bnd frm too amt pri wai byp ldr bor due plg clo pap cnd : Nat → Int32) (small price cut proc : Int32) (mk lm le : Nat) (b : Nat) (o : Nat) (am : Int32) (rt : Int32) (x : Int32) (hb : b < 5) (ho : o < 5) (hft : b ≠ o) (hbad : am < 1 ∨ 100000 < am ∨ rt < 0 ∨ 200 < rt ∨ x < 0 ∨ 1000 < x) : zX sa D vwCl (zty cI cZ cL) l yX4_lend wsX4_lend ({ frames := 7, cells := 1, slots := 6, locals := 104 } : Room) [.ref (ad 0), .int (nI b), .int (nI o), .int am, .int rt, .int x] (wX ad cI cZ acc net tacc tnet flo bnd frm too amt pri wai byp ldr bor due plg clo pap cnd small price cut proc (nI mk) (nI lm) (nI le)) "java/lang/IllegalArgumentException" 1 6 := by
  refine zX.of (ret := (some .int)) (cc := cX4_lend) (nL := 6) (own := RX4) (by decide +kernel) rfl [(0, .ref (ad 0)), (1, .int (nI b)), (2, .int (nI o)), (3, .int am), (4, .int rt), (5, .int x)] rfl (Nat.le_of_ble_eq_true rfl) rfl ?_
  intro A p e s m args below meth c C hmn ht
  refine z_iload_n C dX4_lend_0 rfl 1 rfl ?_
  refine z_callSv C (T := Unit) (As := [.int (nI b)]) (rest := []) (ws' := fun _ => (wX ad cI cZ acc net tacc tnet flo bnd frm too amt pri wai byp ldr bor due plg clo pap cnd small price cut proc (nI mk) (nI lm) (nI le))) (ok_requireBank l sa D cI cZ cL  b (by first | assumption | omega)) (va_cwS 1 C.2.2.2.2.1 gX4_lend_X4_requireBank rfl rfl rfl (by decide +kernel) ⟨Nat.le_of_ble_eq_true rfl, Nat.le_of_ble_eq_true rfl⟩) (fun _ => zSub.none) zIn.none rfl (Nat.le_of_ble_eq_true rfl) ⟨Nat.le_of_ble_eq_true rfl, Nat.le_of_ble_eq_true rfl⟩ dX4_lend_1 (fun _ _ => ?_)
  refine z_iload_n C dX4_lend_4 rfl 2 rfl ?_
  refine z_callSv C (T := Unit) (As := [.int (nI o)]) (rest := []) (ws' := fun _ => (wX ad cI cZ acc net tacc tnet flo bnd frm too amt pri wai byp ldr bor due plg clo pap cnd small price cut proc (nI mk) (nI lm) (nI le))) (ok_requireBank l sa D cI cZ cL  o (by first | assumption | omega)) (va_cwS 1 C.2.2.2.2.1 gX4_lend_X4_requireBank rfl rfl rfl (by decide +kernel) ⟨Nat.le_of_ble_eq_true rfl, Nat.le_of_ble_eq_true rfl⟩) (fun _ => zSub.none) zIn.none rfl (Nat.le_of_ble_eq_true rfl) ⟨Nat.le_of_ble_eq_true rfl, Nat.le_of_ble_eq_true rfl⟩ dX4_lend_5 (fun _ _ => ?_)
  refine z_iload_n C dX4_lend_8 rfl 1 rfl ?_
  refine z_iload_n C dX4_lend_9 rfl 2 rfl ?_
  refine z_callSv C (T := Unit) (As := [.int (nI b), .int (nI o)]) (rest := []) (ws' := fun _ => (wX ad cI cZ acc net tacc tnet flo bnd frm too amt pri wai byp ldr bor due plg clo pap cnd small price cut proc (nI mk) (nI lm) (nI le))) (ok_requireTwo l sa D cI cZ cL  b o (by first | assumption | omega) (by first | assumption | omega) (by first | assumption | omega)) (va_cwS 2 C.2.2.2.2.1 gX4_lend_X4_requireTwo rfl rfl rfl (by decide +kernel) ⟨Nat.le_of_ble_eq_true rfl, Nat.le_of_ble_eq_true rfl⟩) (fun _ => zSub.none) zIn.none rfl (Nat.le_of_ble_eq_true rfl) ⟨Nat.le_of_ble_eq_true rfl, Nat.le_of_ble_eq_true rfl⟩ dX4_lend_10 (fun _ _ => ?_)
  refine z_iload_n C dX4_lend_13 rfl 3 rfl ?_
  refine z_iconst C (v := 1) dX4_lend_14 (by decide) ?_
  refine z_ldc C m_X4_lend_k110 dX4_lend_15 ?_
  refine z_case (¬ am < 1 ∧ ¬ 100000 < am) (fun hp_1 => ?_) (fun hp_1 => ?_)
  · skip
    obtain ⟨_, _⟩ := hp_1
    refine z_callSv C (T := Unit) (As := [.int am, .int 1, .int 100000]) (rest := []) (ws' := fun _ => (wX ad cI cZ acc net tacc tnet flo bnd frm too amt pri wai byp ldr bor due plg clo pap cnd small price cut proc (nI mk) (nI lm) (nI le))) (ok_requireRange l sa D cI cZ cL  am 1 100000 (by first | assumption | omega) (by first | assumption | omega)) (va_cwS 3 C.2.2.2.2.1 gX4_lend_X4_requireRange rfl rfl rfl (by decide +kernel) ⟨Nat.le_of_ble_eq_true rfl, Nat.le_of_ble_eq_true rfl⟩) (fun _ => zSub.none) zIn.none rfl (Nat.le_of_ble_eq_true rfl) ⟨Nat.le_of_ble_eq_true rfl, Nat.le_of_ble_eq_true rfl⟩ dX4_lend_17 (fun _ _ => ?_)
    refine z_iload C dX4_lend_20 4 rfl ?_
    refine z_iconst C (v := 0) dX4_lend_22 (by decide) ?_
    refine z_sipush C (v := 200) dX4_lend_23 (by decide) ?_
    refine z_case (¬ rt < 0 ∧ ¬ 200 < rt) (fun hp_2 => ?_) (fun hp_2 => ?_)
    · skip
      obtain ⟨_, _⟩ := hp_2
      refine z_callSv C (T := Unit) (As := [.int rt, .int 0, .int 200]) (rest := []) (ws' := fun _ => (wX ad cI cZ acc net tacc tnet flo bnd frm too amt pri wai byp ldr bor due plg clo pap cnd small price cut proc (nI mk) (nI lm) (nI le))) (ok_requireRange l sa D cI cZ cL  rt 0 200 (by first | assumption | omega) (by first | assumption | omega)) (va_cwS 3 C.2.2.2.2.1 gX4_lend_X4_requireRange rfl rfl rfl (by decide +kernel) ⟨Nat.le_of_ble_eq_true rfl, Nat.le_of_ble_eq_true rfl⟩) (fun _ => zSub.none) zIn.none rfl (Nat.le_of_ble_eq_true rfl) ⟨Nat.le_of_ble_eq_true rfl, Nat.le_of_ble_eq_true rfl⟩ dX4_lend_26 (fun _ _ => ?_)
      refine z_iload C dX4_lend_29 5 rfl ?_
      refine z_iconst C (v := 0) dX4_lend_31 (by decide) ?_
      refine z_sipush C (v := 1000) dX4_lend_32 (by decide) ?_
      refine z_callSx C (As := [.int x, .int 0, .int 1000]) (rest := []) (bad_requireRange l hfl sa D cI cZ cL  x 0 1000 (by rcases hbad with h | h | h | h | h | h <;> first | contradiction | exact Or.inl h | exact Or.inr h)) (va_cwS 3 C.2.2.2.2.1 gX4_lend_X4_requireRange rfl rfl rfl (by decide +kernel) ⟨Nat.le_of_ble_eq_true rfl, Nat.le_of_ble_eq_true rfl⟩) zSub.none rfl (Nat.le_of_ble_eq_true rfl) ⟨Nat.le_of_ble_eq_true rfl, Nat.le_of_ble_eq_true rfl⟩ dX4_lend_35 ?_
      exact z_out C ht (by decide) (by decide)
    · skip
      have := z_rng hp_2
      refine z_callSx C (As := [.int rt, .int 0, .int 200]) (rest := []) (bad_requireRange l hfl sa D cI cZ cL  rt 0 200 (by first | assumption | omega)) (va_cwS 3 C.2.2.2.2.1 gX4_lend_X4_requireRange rfl rfl rfl (by decide +kernel) ⟨Nat.le_of_ble_eq_true rfl, Nat.le_of_ble_eq_true rfl⟩) zSub.none rfl (Nat.le_of_ble_eq_true rfl) ⟨Nat.le_of_ble_eq_true rfl, Nat.le_of_ble_eq_true rfl⟩ dX4_lend_26 ?_
      exact z_out C ht (by decide) (by decide)
  · skip
    have := z_rng hp_1
    refine z_callSx C (As := [.int am, .int 1, .int 100000]) (rest := []) (bad_requireRange l hfl sa D cI cZ cL  am 1 100000 (by first | assumption | omega)) (va_cwS 3 C.2.2.2.2.1 gX4_lend_X4_requireRange rfl rfl rfl (by decide +kernel) ⟨Nat.le_of_ble_eq_true rfl, Nat.le_of_ble_eq_true rfl⟩) zSub.none rfl (Nat.le_of_ble_eq_true rfl) ⟨Nat.le_of_ble_eq_true rfl, Nat.le_of_ble_eq_true rfl⟩ dX4_lend_17 ?_
    exact z_out C ht (by decide) (by decide)
set_option maxHeartbeats 4000000 in
set_option maxRecDepth 100000 in
theorem c_X4_lend_b3 (l : Launch) (hfl : l.stackTraces = false) (sa : Nat → Nat) (D : va_G) (cI cZ cL : ClassId) (ad : Nat → Nat) (acc net tacc tnet flo bnd frm too amt pri wai byp ldr bor due plg clo pap cnd : Nat → Int32) (small price cut proc : Int32) (mk lm le : Nat) (b : Nat) (o : Nat) (am : Int32) (rt : Int32) (x : Int32) (hb : b < 5) (ho : o < 5) (hft : b ≠ o) (g1 : ¬ am < 1) (g2 : ¬ 100000 < am) (g3 : ¬ rt < 0) (g4 : ¬ 200 < rt) (g5 : ¬ x < 0) (g6 : ¬ 1000 < x) (hlm : lm ≤ 40) (hbad : ¬ (clo b = 0 ∧ clo o = 0 ∧ lm < 40 ∧ ¬ pap o < x ∧ ¬ x * price * (1000 - cut) / 1000 < am ∧ ¬ acc b - am < flo b)) : zX sa D vwCl (zty cI cZ cL) l yX4_lend wsX4_lend ({ frames := 7, cells := 1, slots := 6, locals := 106 } : Room) [.ref (ad 0), .int (nI b), .int (nI o), .int am, .int rt, .int x] (wX ad cI cZ acc net tacc tnet flo bnd frm too amt pri wai byp ldr bor due plg clo pap cnd small price cut proc (nI mk) (nI lm) (nI le)) "java/lang/IllegalStateException" 1 6 := by
  refine zX.of (ret := (some .int)) (cc := cX4_lend) (nL := 6) (own := RX4) (by decide +kernel) rfl [(0, .ref (ad 0)), (1, .int (nI b)), (2, .int (nI o)), (3, .int am), (4, .int rt), (5, .int x)] rfl (Nat.le_of_ble_eq_true rfl) rfl ?_
  intro A p e s m args below meth c C hmn ht
  refine z_iload_n C dX4_lend_0 rfl 1 rfl ?_
  refine z_callSv C (T := Unit) (As := [.int (nI b)]) (rest := []) (ws' := fun _ => (wX ad cI cZ acc net tacc tnet flo bnd frm too amt pri wai byp ldr bor due plg clo pap cnd small price cut proc (nI mk) (nI lm) (nI le))) (ok_requireBank l sa D cI cZ cL  b (by first | assumption | omega)) (va_cwS 1 C.2.2.2.2.1 gX4_lend_X4_requireBank rfl rfl rfl (by decide +kernel) ⟨Nat.le_of_ble_eq_true rfl, Nat.le_of_ble_eq_true rfl⟩) (fun _ => zSub.none) zIn.none rfl (Nat.le_of_ble_eq_true rfl) ⟨Nat.le_of_ble_eq_true rfl, Nat.le_of_ble_eq_true rfl⟩ dX4_lend_1 (fun _ _ => ?_)
  refine z_iload_n C dX4_lend_4 rfl 2 rfl ?_
  refine z_callSv C (T := Unit) (As := [.int (nI o)]) (rest := []) (ws' := fun _ => (wX ad cI cZ acc net tacc tnet flo bnd frm too amt pri wai byp ldr bor due plg clo pap cnd small price cut proc (nI mk) (nI lm) (nI le))) (ok_requireBank l sa D cI cZ cL  o (by first | assumption | omega)) (va_cwS 1 C.2.2.2.2.1 gX4_lend_X4_requireBank rfl rfl rfl (by decide +kernel) ⟨Nat.le_of_ble_eq_true rfl, Nat.le_of_ble_eq_true rfl⟩) (fun _ => zSub.none) zIn.none rfl (Nat.le_of_ble_eq_true rfl) ⟨Nat.le_of_ble_eq_true rfl, Nat.le_of_ble_eq_true rfl⟩ dX4_lend_5 (fun _ _ => ?_)
  refine z_iload_n C dX4_lend_8 rfl 1 rfl ?_
  refine z_iload_n C dX4_lend_9 rfl 2 rfl ?_
  refine z_callSv C (T := Unit) (As := [.int (nI b), .int (nI o)]) (rest := []) (ws' := fun _ => (wX ad cI cZ acc net tacc tnet flo bnd frm too amt pri wai byp ldr bor due plg clo pap cnd small price cut proc (nI mk) (nI lm) (nI le))) (ok_requireTwo l sa D cI cZ cL  b o (by first | assumption | omega) (by first | assumption | omega) (by first | assumption | omega)) (va_cwS 2 C.2.2.2.2.1 gX4_lend_X4_requireTwo rfl rfl rfl (by decide +kernel) ⟨Nat.le_of_ble_eq_true rfl, Nat.le_of_ble_eq_true rfl⟩) (fun _ => zSub.none) zIn.none rfl (Nat.le_of_ble_eq_true rfl) ⟨Nat.le_of_ble_eq_true rfl, Nat.le_of_ble_eq_true rfl⟩ dX4_lend_10 (fun _ _ => ?_)
  refine z_iload_n C dX4_lend_13 rfl 3 rfl ?_
  refine z_iconst C (v := 1) dX4_lend_14 (by decide) ?_
  refine z_ldc C m_X4_lend_k110 dX4_lend_15 ?_
  refine z_callSv C (T := Unit) (As := [.int am, .int 1, .int 100000]) (rest := []) (ws' := fun _ => (wX ad cI cZ acc net tacc tnet flo bnd frm too amt pri wai byp ldr bor due plg clo pap cnd small price cut proc (nI mk) (nI lm) (nI le))) (ok_requireRange l sa D cI cZ cL  am 1 100000 (by first | assumption | omega) (by first | assumption | omega)) (va_cwS 3 C.2.2.2.2.1 gX4_lend_X4_requireRange rfl rfl rfl (by decide +kernel) ⟨Nat.le_of_ble_eq_true rfl, Nat.le_of_ble_eq_true rfl⟩) (fun _ => zSub.none) zIn.none rfl (Nat.le_of_ble_eq_true rfl) ⟨Nat.le_of_ble_eq_true rfl, Nat.le_of_ble_eq_true rfl⟩ dX4_lend_17 (fun _ _ => ?_)
  refine z_iload C dX4_lend_20 4 rfl ?_
  refine z_iconst C (v := 0) dX4_lend_22 (by decide) ?_
  refine z_sipush C (v := 200) dX4_lend_23 (by decide) ?_
  refine z_callSv C (T := Unit) (As := [.int rt, .int 0, .int 200]) (rest := []) (ws' := fun _ => (wX ad cI cZ acc net tacc tnet flo bnd frm too amt pri wai byp ldr bor due plg clo pap cnd small price cut proc (nI mk) (nI lm) (nI le))) (ok_requireRange l sa D cI cZ cL  rt 0 200 (by first | assumption | omega) (by first | assumption | omega)) (va_cwS 3 C.2.2.2.2.1 gX4_lend_X4_requireRange rfl rfl rfl (by decide +kernel) ⟨Nat.le_of_ble_eq_true rfl, Nat.le_of_ble_eq_true rfl⟩) (fun _ => zSub.none) zIn.none rfl (Nat.le_of_ble_eq_true rfl) ⟨Nat.le_of_ble_eq_true rfl, Nat.le_of_ble_eq_true rfl⟩ dX4_lend_26 (fun _ _ => ?_)
  refine z_iload C dX4_lend_29 5 rfl ?_
  refine z_iconst C (v := 0) dX4_lend_31 (by decide) ?_
  refine z_sipush C (v := 1000) dX4_lend_32 (by decide) ?_
  refine z_callSv C (T := Unit) (As := [.int x, .int 0, .int 1000]) (rest := []) (ws' := fun _ => (wX ad cI cZ acc net tacc tnet flo bnd frm too amt pri wai byp ldr bor due plg clo pap cnd small price cut proc (nI mk) (nI lm) (nI le))) (ok_requireRange l sa D cI cZ cL  x 0 1000 (by first | assumption | omega) (by first | assumption | omega)) (va_cwS 3 C.2.2.2.2.1 gX4_lend_X4_requireRange rfl rfl rfl (by decide +kernel) ⟨Nat.le_of_ble_eq_true rfl, Nat.le_of_ble_eq_true rfl⟩) (fun _ => zSub.none) zIn.none rfl (Nat.le_of_ble_eq_true rfl) ⟨Nat.le_of_ble_eq_true rfl, Nat.le_of_ble_eq_true rfl⟩ dX4_lend_35 (fun _ _ => ?_)
  refine z_aload_n C dX4_lend_38 rfl 0 rfl ?_
  refine z_iload_n C dX4_lend_39 rfl 1 rfl ?_
  refine z_case (clo b = 0) (fun hp_1 => ?_) (fun hp_1 => ?_)
  · skip
    refine z_callVv C (T := Unit) (As := [.int (nI b)]) (rest := []) (ws' := fun _ => (wX ad cI cZ acc net tacc tnet flo bnd frm too amt pri wai byp ldr bor due plg clo pap cnd small price cut proc (nI mk) (nI lm) (nI le))) (ok_requireOpen l sa D cI cZ cL ad acc net tacc tnet flo bnd frm too amt pri wai byp ldr bor due plg clo pap cnd small price cut proc mk lm le b (by first | assumption | omega) (by first | assumption | omega)) (cwV 1 C.2.2.2.2.1 gX4_lend_X4_requireOpen rfl rfl rfl (by decide +kernel) ⟨Nat.le_of_ble_eq_true rfl, Nat.le_of_ble_eq_true rfl⟩) 0 rfl rfl rfl (fun _ => zSub.full) zIn.full rfl (Nat.le_of_ble_eq_true rfl) ⟨Nat.le_of_ble_eq_true rfl, Nat.le_of_ble_eq_true rfl⟩ dX4_lend_40 (fun _ _ => ?_)
    refine z_aload_n C dX4_lend_43 rfl 0 rfl ?_
    refine z_iload_n C dX4_lend_44 rfl 2 rfl ?_
    refine z_case (clo o = 0) (fun hp_2 => ?_) (fun hp_2 => ?_)
    · skip
      refine z_callVv C (T := Unit) (As := [.int (nI o)]) (rest := []) (ws' := fun _ => (wX ad cI cZ acc net tacc tnet flo bnd frm too amt pri wai byp ldr bor due plg clo pap cnd small price cut proc (nI mk) (nI lm) (nI le))) (ok_requireOpen l sa D cI cZ cL ad acc net tacc tnet flo bnd frm too amt pri wai byp ldr bor due plg clo pap cnd small price cut proc mk lm le o (by first | assumption | omega) (by first | assumption | omega)) (cwV 1 C.2.2.2.2.1 gX4_lend_X4_requireOpen rfl rfl rfl (by decide +kernel) ⟨Nat.le_of_ble_eq_true rfl, Nat.le_of_ble_eq_true rfl⟩) 0 rfl rfl rfl (fun _ => zSub.full) zIn.full rfl (Nat.le_of_ble_eq_true rfl) ⟨Nat.le_of_ble_eq_true rfl, Nat.le_of_ble_eq_true rfl⟩ dX4_lend_45 (fun _ _ => ?_)
      refine z_aload_n C dX4_lend_48 rfl 0 rfl ?_
      refine z_iload_n C dX4_lend_49 rfl 1 rfl ?_
      refine z_iload_n C dX4_lend_50 rfl 2 rfl ?_
      refine z_iload_n C dX4_lend_51 rfl 3 rfl ?_
      refine z_iload C dX4_lend_52 5 rfl ?_
      refine z_callVx C (As := [.int (nI b), .int (nI o), .int am, .int x]) (rest := []) (bad_requireLoanable l hfl sa D cI cZ cL ad acc net tacc tnet flo bnd frm too amt pri wai byp ldr bor due plg clo pap cnd small price cut proc mk lm le b o am x (by first | assumption | omega) (by first | assumption | omega) (by first | assumption | omega) (by exact z_lnd (by assumption) (by assumption) hbad)) (cwV 4 C.2.2.2.2.1 gX4_lend_X4_requireLoanable rfl rfl rfl (by decide +kernel) ⟨Nat.le_of_ble_eq_true rfl, Nat.le_of_ble_eq_true rfl⟩) 0 rfl rfl rfl zSub.full rfl (Nat.le_of_ble_eq_true rfl) ⟨Nat.le_of_ble_eq_true rfl, Nat.le_of_ble_eq_true rfl⟩ dX4_lend_54 ?_
      exact z_out C ht (by decide) (by decide)
    · skip
      refine z_callVx C (As := [.int (nI o)]) (rest := []) (bad_requireOpen l hfl sa D cI cZ cL ad acc net tacc tnet flo bnd frm too amt pri wai byp ldr bor due plg clo pap cnd small price cut proc mk lm le o (by first | assumption | omega) (by first | assumption | omega)) (cwV 1 C.2.2.2.2.1 gX4_lend_X4_requireOpen rfl rfl rfl (by decide +kernel) ⟨Nat.le_of_ble_eq_true rfl, Nat.le_of_ble_eq_true rfl⟩) 0 rfl rfl rfl zSub.full rfl (Nat.le_of_ble_eq_true rfl) ⟨Nat.le_of_ble_eq_true rfl, Nat.le_of_ble_eq_true rfl⟩ dX4_lend_45 ?_
      exact z_out C ht (by decide) (by decide)
  · skip
    refine z_callVx C (As := [.int (nI b)]) (rest := []) (bad_requireOpen l hfl sa D cI cZ cL ad acc net tacc tnet flo bnd frm too amt pri wai byp ldr bor due plg clo pap cnd small price cut proc mk lm le b (by first | assumption | omega) (by first | assumption | omega)) (cwV 1 C.2.2.2.2.1 gX4_lend_X4_requireOpen rfl rfl rfl (by decide +kernel) ⟨Nat.le_of_ble_eq_true rfl, Nat.le_of_ble_eq_true rfl⟩) 0 rfl rfl rfl zSub.full rfl (Nat.le_of_ble_eq_true rfl) ⟨Nat.le_of_ble_eq_true rfl, Nat.le_of_ble_eq_true rfl⟩ dX4_lend_40 ?_
    exact z_out C ht (by decide) (by decide)
set_option maxHeartbeats 4000000 in
set_option maxRecDepth 100000 in
theorem c_X4_canAny_ok (l : Launch) (sa : Nat → Nat) (D : va_G) (cI cZ cL : ClassId) (ad : Nat → Nat) (acc net tacc tnet flo bnd frm too amt pri wai byp ldr bor due plg clo pap cnd : Nat → Int32) (small price cut proc : Int32) (mk lm le : Nat)  (hmk : mk ≤ 60) (hfrm : wf5 mk frm) (htoo : wf5 mk too) (hc10 : cntW wai mk ≤ 10) : zMi (T := (Nat → Int32) × (Nat → Int32) × (Nat → Int32)) sa D vwCl (zty cI cZ cL) l yX4_canAny wsX4_canAny ({ frames := 6, cells := 0, slots := 0, locals := 89 } : Room) [.ref (ad 0)] (wX ad cI cZ acc net tacc tnet flo bnd frm too amt pri wai byp ldr bor due plg clo pap cnd small price cut proc (nI mk) (nI lm) (nI le)) (fun r9 u => r9 = if anyB (okS frm too amt flo bnd (fun k => (wlL wai mk)[k]?) (wlL wai mk).length acc net) (2 ^ (wlL wai mk).length) = true then 1 else 0) (fun u => (wX ad cI cZ acc net u.2.1 u.2.2 flo bnd frm too amt pri wai byp ldr bor due plg clo pap u.1 small price cut proc (nI mk) (nI lm) (nI le))) 0 0 := by
  refine zMi.of (ret := (some .boolean)) (cc := cX4_canAny) (nL := 3) (own := RX4) (by decide +kernel) rfl [(0, .ref (ad 0))] rfl (Nat.le_of_ble_eq_true rfl) rfl ?_
  intro A p e s m args below meth c C hmn
  have hlen := wlL_len wai mk
  have hp2 : 2 ^ (wlL wai mk).length ≤ 1024 := Nat.le_trans (Nat.pow_le_pow_right (n := 2) (by decide) (show (wlL wai mk).length ≤ 10 by omega)) (by decide)
  refine z_aload_n C dX4_canAny_0 rfl 0 rfl ?_
  refine z_get C 0 rfl i_X4_canAny_X4 rfl 3 (by decide) m_X4_canAny_f29 rfl rfl dX4_canAny_1 ?_
  refine z_callVi C (T := Unit) (As := []) (rest := []) (ws' := fun _ => (wX ad cI cZ acc net tacc tnet flo bnd frm too amt pri wai byp ldr bor due plg clo pap cnd small price cut proc (nI mk) (nI lm) (nI le))) (c_X2_countWaiting l sa D cI cZ cL ad acc net tacc tnet flo bnd frm too amt pri wai byp ldr bor due plg clo pap cnd small price cut proc mk lm le  (by first | assumption | omega)) (cwV 0 C.2.2.2.2.1 gX4_canAny_X2_countWaiting rfl rfl rfl (by decide +kernel) ⟨Nat.le_of_ble_eq_true rfl, Nat.le_of_ble_eq_true rfl⟩) 4 rfl rfl rfl (fun _ => zSub.full) zIn.full rfl (Nat.le_of_ble_eq_true rfl) ⟨Nat.le_of_ble_eq_true rfl, Nat.le_of_ble_eq_true rfl⟩ dX4_canAny_4 (fun r_1 _ h_2 => ?_)
  obtain rfl : r_1 = (nI (cntW wai mk)) := h_2
  refine z_bipush C (v := 10) dX4_canAny_7 (by decide) ?_
  refine z_icmp_le C (tgt := 22) dX4_canAny_9 (by decide) (fun c9_3 => ?_) (fun c9_3 => ?_)
  · skip
    have n_4 : (cntW wai mk) ≤ 10 := (nI_leI (a := cntW wai mk) (b := 10) (by omega) (by omega)).mp c9_3
    refine z_aload_n C dX4_canAny_22 rfl 0 rfl ?_
    refine z_callVi C (As := []) (rest := []) (ws' := fun u_5 => (wX ad cI cZ acc net tacc tnet flo bnd frm too amt pri wai byp ldr bor due plg clo pap u_5 small price cut proc (nI mk) (nI lm) (nI le))) (c_X4_listWaiting l sa D cI cZ cL ad acc net tacc tnet flo bnd frm too amt pri wai byp ldr bor due plg clo pap cnd small price cut proc mk lm le  (by first | assumption | omega) (by omega)) (cwV 0 C.2.2.2.2.1 gX4_canAny_X4_listWaiting rfl rfl rfl (by decide +kernel) ⟨Nat.le_of_ble_eq_true rfl, Nat.le_of_ble_eq_true rfl⟩) 0 rfl rfl rfl (fun _ => zSub.full) zIn.full rfl (Nat.le_of_ble_eq_true rfl) ⟨Nat.le_of_ble_eq_true rfl, Nat.le_of_ble_eq_true rfl⟩ dX4_canAny_23 (fun r_6 u_5 h_7 => ?_)
    obtain ⟨h_7, hx_8⟩ := h_7
    obtain rfl : r_6 = (nI ((wlL wai mk).length)) := h_7
    refine z_istore_n C dX4_canAny_26 rfl (by decide) [(0, .ref (ad 0)), (1, .int (nI ((wlL wai mk).length)))] [1, 0] rfl ?_
    refine z_iconst C (v := 1) dX4_canAny_27 (by decide) ?_
    refine z_istore_n C dX4_canAny_28 rfl (by decide) [(0, .ref (ad 0)), (1, .int (nI ((wlL wai mk).length))), (2, .int 1)] [1, 2, 0] rfl ?_
    have L29_k_9 : ∀ (n : Nat) (s9 : Nat) (ta tn : Nat → Int32), 2 ^ (wlL wai mk).length - s9 < n → (1 ≤ s9) → (s9 ≤ 2 ^ (wlL wai mk).length) → (∀ S, S < s9 → 1 ≤ S → (okS frm too amt flo bnd (fun k => (wlL wai mk)[k]?) (wlL wai mk).length acc net) S = false) → zW p l e ({ frames := 6, cells := 0, slots := 0, locals := 89 } : Room) s m args below meth c (MQ below (zQi (T := (Nat → Int32) × (Nat → Int32) × (Nat → Int32)) D vwCl (zty cI cZ cL) A (fun r9 u => r9 = if anyB (okS frm too amt flo bnd (fun k => (wlL wai mk)[k]?) (wlL wai mk).length acc net) (2 ^ (wlL wai mk).length) = true then 1 else 0) (fun u => (wX ad cI cZ acc net u.2.1 u.2.2 flo bnd frm too amt pri wai byp ldr bor due plg clo pap u.1 small price cut proc (nI mk) (nI lm) (nI le)))) args s 0 0 A) D vwCl A 3 0 0 (wX ad cI cZ acc net ta tn flo bnd frm too amt pri wai byp ldr bor due plg clo pap u_5 small price cut proc (nI mk) (nI lm) (nI le)) [(0, .ref (ad 0)), (1, .int (nI ((wlL wai mk).length))), (2, .int (nI s9))] 29 [] := by
      intro n
      induction n with
      | zero => intros; omega
      | succ n ih =>
        intro s9 ta tn hm hs1 hs hno
        refine z_iload_n C dX4_canAny_29 rfl 2 rfl ?_
        refine z_iconst C (v := 1) dX4_canAny_30 (by decide) ?_
        refine z_iload_n C dX4_canAny_31 rfl 1 rfl ?_
        refine z_ishl C (v := (nI (2 ^ ((wlL wai mk).length)))) dX4_canAny_32 (z_shl1 (by omega)) ?_
        refine z_icmp_ge C (tgt := 53) dX4_canAny_33 (by decide) (fun c33_10 => ?_) (fun c33_10 => ?_)
        · skip
          have n_11 : (2 ^ ((wlL wai mk).length)) ≤ s9 := (nI_leI (a := 2 ^ ((wlL wai mk).length)) (b := s9) (by omega) (by omega)).mp c33_10
          refine z_iconst C (v := 0) dX4_canAny_53 (by decide) ?_
          exact z_zret C (u_5, ta, tn) (by rw [if_neg (by rw [anyB_n (fun S h1 h2 => hno S (by omega) h2)]; decide)]) rfl (by decide) (by decide) (by decide) dX4_canAny_54
        · skip
          have n_12 : ¬ (2 ^ ((wlL wai mk).length)) ≤ s9 := fun q => c33_10 ((nI_leI (a := 2 ^ ((wlL wai mk).length)) (b := s9) (by omega) (by omega)).mpr q)
          refine z_aload_n C dX4_canAny_36 rfl 0 rfl ?_
          refine z_iload_n C dX4_canAny_37 rfl 2 rfl ?_
          refine z_iload_n C dX4_canAny_38 rfl 1 rfl ?_
          refine z_case (okS frm too amt flo bnd (fun k => (wlL wai mk)[k]?) ((wlL wai mk).length) acc net s9 = true) (fun hp_13 => ?_) (fun hp_13 => ?_)
          · skip
            refine z_callVi C (As := [.int (nI s9), .int (nI ((wlL wai mk).length))]) (rest := []) (ws' := fun u_14 => (wX ad cI cZ acc net u_14.1 u_14.2 flo bnd frm too amt pri wai byp ldr bor due plg clo pap u_5 small price cut proc (nI mk) (nI lm) (nI le))) (c_X4_canGoTogether l sa D cI cZ cL ad acc net ta tn flo bnd frm too amt pri wai byp ldr bor due plg clo pap u_5 small price cut proc mk lm le s9 ((wlL wai mk).length) (fun k => (wlL wai mk)[k]?) (by first | assumption | omega) (by first | assumption | omega) (by assumption) (by exact fun k p9 h9 => wlL_mem h9) (by first | assumption | omega) (by first | assumption | omega) (by first | assumption | omega)) (cwV 2 C.2.2.2.2.1 gX4_canAny_X4_canGoTogether rfl rfl rfl (by decide +kernel) ⟨Nat.le_of_ble_eq_true rfl, Nat.le_of_ble_eq_true rfl⟩) 0 rfl rfl rfl (fun _ => zSub.full) zIn.full rfl (Nat.le_of_ble_eq_true rfl) ⟨Nat.le_of_ble_eq_true rfl, Nat.le_of_ble_eq_true rfl⟩ dX4_canAny_39 (fun r_15 u_14 h_16 => ?_)
            obtain rfl : r_15 = 1 := h_16.trans (if_pos hp_13)
            refine z_if_eq C (tgt := 47) dX4_canAny_42 (by decide) (fun h => absurd h (by decide)) (fun _ => ?_)
            refine z_iconst C (v := 1) dX4_canAny_45 (by decide) ?_
            exact z_zret C (u_5, u_14.1, u_14.2) (by rw [if_pos (anyB_y (S := s9) hs1 (by omega) (by assumption))]) rfl (by decide) (by decide) (by decide) dX4_canAny_46
          · skip
            refine z_callVi C (As := [.int (nI s9), .int (nI ((wlL wai mk).length))]) (rest := []) (ws' := fun u_17 => (wX ad cI cZ acc net u_17.1 u_17.2 flo bnd frm too amt pri wai byp ldr bor due plg clo pap u_5 small price cut proc (nI mk) (nI lm) (nI le))) (c_X4_canGoTogether l sa D cI cZ cL ad acc net ta tn flo bnd frm too amt pri wai byp ldr bor due plg clo pap u_5 small price cut proc mk lm le s9 ((wlL wai mk).length) (fun k => (wlL wai mk)[k]?) (by first | assumption | omega) (by first | assumption | omega) (by assumption) (by exact fun k p9 h9 => wlL_mem h9) (by first | assumption | omega) (by first | assumption | omega) (by first | assumption | omega)) (cwV 2 C.2.2.2.2.1 gX4_canAny_X4_canGoTogether rfl rfl rfl (by decide +kernel) ⟨Nat.le_of_ble_eq_true rfl, Nat.le_of_ble_eq_true rfl⟩) 0 rfl rfl rfl (fun _ => zSub.full) zIn.full rfl (Nat.le_of_ble_eq_true rfl) ⟨Nat.le_of_ble_eq_true rfl, Nat.le_of_ble_eq_true rfl⟩ dX4_canAny_39 (fun r_18 u_17 h_19 => ?_)
            obtain rfl : r_18 = 0 := h_19.trans (if_neg hp_13)
            refine z_if_eq C (tgt := 47) dX4_canAny_42 (by decide) (fun _ => ?_) (fun h => absurd h (by decide))
            refine z_iinc C (v := (nI (s9 + 1))) dX4_canAny_47 2 rfl (nI_add s9 1) (by decide) [(0, .ref (ad 0)), (1, .int (nI ((wlL wai mk).length))), (2, .int (nI (s9 + 1)))] [1, 2, 0] rfl ?_
            refine z_goto C (tgt := 29) dX4_canAny_50 (by decide) ?_
            exact ih (s9 + 1) u_17.1 u_17.2 (by omega) (by first | assumption | omega) (by first | assumption | omega) (by exact z_no hno (by assumption))
    refine z_lveq [(0, .ref (ad 0)), (1, .int (nI ((wlL wai mk).length))), (2, .int (nI 1))] (by rfl) ?_
    exact L29_k_9 (2 ^ (wlL wai mk).length - 1 + 1) 1 tacc tnet (Nat.lt_succ_self _) (by first | assumption | omega) (by have := Nat.one_le_two_pow (n := (wlL wai mk).length); omega) (by intro S h1 h2; omega)
  · skip
    have n_20 : ¬ (cntW wai mk) ≤ 10 := fun q => c9_3 ((nI_leI (a := cntW wai mk) (b := 10) (by omega) (by omega)).mpr q)
    exfalso
    omega
set_option maxHeartbeats 4000000 in
set_option maxRecDepth 100000 in
theorem c_X4_canAny_b1 (l : Launch) (hfl : l.stackTraces = false) (sa : Nat → Nat) (D : va_G) (cI cZ cL : ClassId) (ad : Nat → Nat) (acc net tacc tnet flo bnd frm too amt pri wai byp ldr bor due plg clo pap cnd : Nat → Int32) (small price cut proc : Int32) (mk lm le : Nat)  (hmk : mk ≤ 60) (hc10 : 10 < cntW wai mk) : zX sa D vwCl (zty cI cZ cL) l yX4_canAny wsX4_canAny ({ frames := 6, cells := 1, slots := 6, locals := 82 } : Room) [.ref (ad 0)] (wX ad cI cZ acc net tacc tnet flo bnd frm too amt pri wai byp ldr bor due plg clo pap cnd small price cut proc (nI mk) (nI lm) (nI le)) "java/lang/IllegalStateException" 1 6 := by
  refine zX.of (ret := (some .boolean)) (cc := cX4_canAny) (nL := 3) (own := RX4) (by decide +kernel) rfl [(0, .ref (ad 0))] rfl (Nat.le_of_ble_eq_true rfl) rfl ?_
  intro A p e s m args below meth c C hmn ht
  have hc := cntW_le wai mk
  refine z_aload_n C dX4_canAny_0 rfl 0 rfl ?_
  refine z_get C 0 rfl i_X4_canAny_X4 rfl 3 (by decide) m_X4_canAny_f29 rfl rfl dX4_canAny_1 ?_
  refine z_callVi C (T := Unit) (As := []) (rest := []) (ws' := fun _ => (wX ad cI cZ acc net tacc tnet flo bnd frm too amt pri wai byp ldr bor due plg clo pap cnd small price cut proc (nI mk) (nI lm) (nI le))) (c_X2_countWaiting l sa D cI cZ cL ad acc net tacc tnet flo bnd frm too amt pri wai byp ldr bor due plg clo pap cnd small price cut proc mk lm le  (by first | assumption | omega)) (cwV 0 C.2.2.2.2.1 gX4_canAny_X2_countWaiting rfl rfl rfl (by decide +kernel) ⟨Nat.le_of_ble_eq_true rfl, Nat.le_of_ble_eq_true rfl⟩) 4 rfl rfl rfl (fun _ => zSub.full) zIn.full rfl (Nat.le_of_ble_eq_true rfl) ⟨Nat.le_of_ble_eq_true rfl, Nat.le_of_ble_eq_true rfl⟩ dX4_canAny_4 (fun r_1 _ h_2 => ?_)
  obtain rfl : r_1 = (nI (cntW wai mk)) := h_2
  refine z_bipush C (v := 10) dX4_canAny_7 (by decide) ?_
  refine z_icmp_le C (tgt := 22) dX4_canAny_9 (by decide) (fun c9_3 => ?_) (fun c9_3 => ?_)
  · skip
    have n_4 : (cntW wai mk) ≤ 10 := (nI_leI (a := cntW wai mk) (b := 10) (by omega) (by omega)).mp c9_3
    refine z_aload_n C dX4_canAny_22 rfl 0 rfl ?_
    exfalso
    omega
  · skip
    have n_5 : ¬ (cntW wai mk) ≤ 10 := fun q => c9_3 ((nI_leI (a := cntW wai mk) (b := 10) (by omega) (by omega)).mpr q)
    exact z_throwS C (names := ["java/lang/RuntimeException", "java/lang/Exception"]) ht hfl rfl (by decide +kernel) (by decide +kernel) m_X4_canAny_c77 m_X4_canAny_n77 (is := 152) (text := "too many payments wait") (by decide +kernel) (by decide +kernel) x_X4_canAny_12_1 x_X4_canAny_12_2 x_X4_canAny_12_3 dX4_canAny_12 dX4_canAny_15 dX4_canAny_16 dX4_canAny_18 dX4_canAny_21 ⟨Nat.le_of_ble_eq_true rfl, Nat.le_of_ble_eq_true rfl, Nat.le_of_ble_eq_true rfl, Nat.le_of_ble_eq_true rfl⟩ (by decide) (by decide)
