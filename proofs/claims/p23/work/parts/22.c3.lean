theorem m_J6_bitCount_0f7a4_k265 : Cond.constant RJ6 265 (1431655765) ∈ wsJ6_bitCount_0f7a4 := by decide +kernel
theorem m_J6_bitCount_0f7a4_k266 : Cond.constant RJ6 266 (858993459) ∈ wsJ6_bitCount_0f7a4 := by decide +kernel
theorem m_J6_bitCount_0f7a4_k267 : Cond.constant RJ6 267 (252645135) ∈ wsJ6_bitCount_0f7a4 := by decide +kernel
theorem m_X3_copy_f9 : Cond.fieldLink RX3 9 "Queuefloat$Sums" "accountOf" "[I" ∈ wsX3_copy := by decide +kernel
theorem i_X3_copy_X3 : ∀ w ∈ wsX30, w ∈ wsX3_copy := by decide +kernel
theorem m_X3_copy_l22 : Cond.methodLink RX3 22 arraycopyName ∈ wsX3_copy := by decide +kernel
theorem m_X3_copy_acn : Cond.native arraycopyName ∈ wsX3_copy := by decide +kernel
theorem m_X3_copy_acs : Cond.static arraycopyName ∈ wsX3_copy := by decide +kernel
theorem m_X3_copy_aci : Cond.initialized "java/lang/System" ∈ wsX3_copy := by decide +kernel
theorem m_X3_copy_f15 : Cond.fieldLink RX3 15 "Queuefloat$Sums" "netPaid" "[I" ∈ wsX3_copy := by decide +kernel
theorem m_X0_allow_f24 : Cond.fieldLink RX0 24 "Queuefloat$Sums" "netPaid" "[I" ∈ wsX0_allow := by decide +kernel
theorem i_X0_allow_X3 : ∀ w ∈ wsX30, w ∈ wsX0_allow := by decide +kernel
theorem m_X0_allow_f15 : Cond.fieldLink RX0 15 "Queuefloat$Limits" "boundOf" "[I" ∈ wsX0_allow := by decide +kernel
theorem i_X0_allow_X0 : ∀ w ∈ wsX00, w ∈ wsX0_allow := by decide +kernel
theorem m_X0_allow_f19 : Cond.fieldLink RX0 19 "Queuefloat$Sums" "accountOf" "[I" ∈ wsX0_allow := by decide +kernel
theorem m_X0_allow_f9 : Cond.fieldLink RX0 9 "Queuefloat$Limits" "floorOf" "[I" ∈ wsX0_allow := by decide +kernel
theorem m_X4_canGoTogether_f16 : Cond.fieldLink RX4 16 "Queuefloat" "trial" "LQueuefloat$Sums;" ∈ wsX4_canGoTogether := by decide +kernel
theorem i_X4_canGoTogether_X4 : ∀ w ∈ wsX40, w ∈ wsX4_canGoTogether := by decide +kernel
theorem m_X4_canGoTogether_f10 : Cond.fieldLink RX4 10 "Queuefloat" "sums" "LQueuefloat$Sums;" ∈ wsX4_canGoTogether := by decide +kernel
theorem m_X4_canGoTogether_f22 : Cond.fieldLink RX4 22 "Queuefloat" "limits" "LQueuefloat$Limits;" ∈ wsX4_canGoTogether := by decide +kernel
theorem m_X4_canGoTogether_f48 : Cond.fieldLink RX4 48 "Queuefloat" "candidates" "[I" ∈ wsX4_canGoTogether := by decide +kernel
theorem m_X4_canGoTogether_f29 : Cond.fieldLink RX4 29 "Queuefloat" "payments" "LQueuefloat$Payments;" ∈ wsX4_canGoTogether := by decide +kernel
theorem m_X4_listWaiting_f29 : Cond.fieldLink RX4 29 "Queuefloat" "payments" "LQueuefloat$Payments;" ∈ wsX4_listWaiting := by decide +kernel
theorem i_X4_listWaiting_X4 : ∀ w ∈ wsX40, w ∈ wsX4_listWaiting := by decide +kernel
theorem m_X4_listWaiting_f113 : Cond.fieldLink RX4 113 "Queuefloat$Payments" "made" "I" ∈ wsX4_listWaiting := by decide +kernel
theorem i_X4_listWaiting_X2 : ∀ w ∈ wsX20, w ∈ wsX4_listWaiting := by decide +kernel
theorem m_X4_listWaiting_f125 : Cond.fieldLink RX4 125 "Queuefloat$Payments" "waits" "[Z" ∈ wsX4_listWaiting := by decide +kernel
theorem m_X4_listWaiting_f48 : Cond.fieldLink RX4 48 "Queuefloat" "candidates" "[I" ∈ wsX4_listWaiting := by decide +kernel
set_option maxHeartbeats 4000000 in
set_option maxRecDepth 100000 in
theorem c_X4_isIn (l : Launch) (sa : Nat → Nat) (D : va_G) (cI cZ cL : ClassId)  (S : Nat) (k : Nat) (hS : S < 1024) (hk : k < 10) : zMi (T := Unit) sa D vwCl (zty cI cZ cL) l yX4_isIn wsX4_isIn ({ frames := 0, cells := 0, slots := 0, locals := 0 } : Room) [.int (nI S), .int (nI k)] [] (fun r9 _ => r9 = if S.testBit k = true then 1 else 0) (fun _ => []) 0 0 := by
  refine zMi.of (ret := (some .boolean)) (cc := cX4_isIn) (nL := 2) (own := RX4) (by decide +kernel) rfl [(0, .int (nI S)), (1, .int (nI k))] rfl (Nat.le_of_ble_eq_true rfl) rfl ?_
  intro A p e s m args below meth c C hmn
  refine z_iload_n C dX4_isIn_0 rfl 0 rfl ?_
  refine z_iconst C (v := 1) dX4_isIn_1 (by decide) ?_
  refine z_iload_n C dX4_isIn_2 rfl 1 rfl ?_
  refine z_ishl C (v := (nI (2 ^ k))) dX4_isIn_3 (z_shl1 (by omega)) ?_
  refine z_iand C (v := ((nI S) &&& (nI (2 ^ k)))) dX4_isIn_4 rfl ?_
  refine z_if_eq C (tgt := 12) dX4_isIn_5 (by decide) (fun c5_1 => ?_) (fun c5_1 => ?_)
  · skip
    refine z_iconst C (v := 0) dX4_isIn_12 (by decide) ?_
    exact z_zret C () (by rw [if_neg (by rw [(z_bit hS hk).mp c5_1]; decide)]) rfl (by decide) (by decide) (by decide) dX4_isIn_13
  · skip
    refine z_iconst C (v := 1) dX4_isIn_8 (by decide) ?_
    refine z_goto C (tgt := 13) dX4_isIn_9 (by decide) ?_
    exact z_zret C () (by rw [if_pos (by cases e : S.testBit k with | true => rfl | false => exact absurd ((z_bit hS hk).mpr e) c5_1)]) rfl (by decide) (by decide) (by decide) dX4_isIn_13
theorem bc32 : ∀ S, S < 32 → (((((((((nI S) - ((((nI S).toUInt32 >>> ((1 : Int32).toUInt32 &&& Int32.toUInt32 31)).toInt32) &&& 1431655765)) &&& 858993459) + (((((nI S) - ((((nI S).toUInt32 >>> ((1 : Int32).toUInt32 &&& Int32.toUInt32 31)).toInt32) &&& 1431655765)).toUInt32 >>> ((2 : Int32).toUInt32 &&& Int32.toUInt32 31)).toInt32) &&& 858993459)) + ((((((nI S) - ((((nI S).toUInt32 >>> ((1 : Int32).toUInt32 &&& Int32.toUInt32 31)).toInt32) &&& 1431655765)) &&& 858993459) + (((((nI S) - ((((nI S).toUInt32 >>> ((1 : Int32).toUInt32 &&& Int32.toUInt32 31)).toInt32) &&& 1431655765)).toUInt32 >>> ((2 : Int32).toUInt32 &&& Int32.toUInt32 31)).toInt32) &&& 858993459)).toUInt32 >>> ((4 : Int32).toUInt32 &&& Int32.toUInt32 31)).toInt32)) &&& 252645135) + ((((((((nI S) - ((((nI S).toUInt32 >>> ((1 : Int32).toUInt32 &&& Int32.toUInt32 31)).toInt32) &&& 1431655765)) &&& 858993459) + (((((nI S) - ((((nI S).toUInt32 >>> ((1 : Int32).toUInt32 &&& Int32.toUInt32 31)).toInt32) &&& 1431655765)).toUInt32 >>> ((2 : Int32).toUInt32 &&& Int32.toUInt32 31)).toInt32) &&& 858993459)) + ((((((nI S) - ((((nI S).toUInt32 >>> ((1 : Int32).toUInt32 &&& Int32.toUInt32 31)).toInt32) &&& 1431655765)) &&& 858993459) + (((((nI S) - ((((nI S).toUInt32 >>> ((1 : Int32).toUInt32 &&& Int32.toUInt32 31)).toInt32) &&& 1431655765)).toUInt32 >>> ((2 : Int32).toUInt32 &&& Int32.toUInt32 31)).toInt32) &&& 858993459)).toUInt32 >>> ((4 : Int32).toUInt32 &&& Int32.toUInt32 31)).toInt32)) &&& 252645135).toUInt32 >>> ((8 : Int32).toUInt32 &&& Int32.toUInt32 31)).toInt32)) + (((((((((nI S) - ((((nI S).toUInt32 >>> ((1 : Int32).toUInt32 &&& Int32.toUInt32 31)).toInt32) &&& 1431655765)) &&& 858993459) + (((((nI S) - ((((nI S).toUInt32 >>> ((1 : Int32).toUInt32 &&& Int32.toUInt32 31)).toInt32) &&& 1431655765)).toUInt32 >>> ((2 : Int32).toUInt32 &&& Int32.toUInt32 31)).toInt32) &&& 858993459)) + ((((((nI S) - ((((nI S).toUInt32 >>> ((1 : Int32).toUInt32 &&& Int32.toUInt32 31)).toInt32) &&& 1431655765)) &&& 858993459) + (((((nI S) - ((((nI S).toUInt32 >>> ((1 : Int32).toUInt32 &&& Int32.toUInt32 31)).toInt32) &&& 1431655765)).toUInt32 >>> ((2 : Int32).toUInt32 &&& Int32.toUInt32 31)).toInt32) &&& 858993459)).toUInt32 >>> ((4 : Int32).toUInt32 &&& Int32.toUInt32 31)).toInt32)) &&& 252645135) + ((((((((nI S) - ((((nI S).toUInt32 >>> ((1 : Int32).toUInt32 &&& Int32.toUInt32 31)).toInt32) &&& 1431655765)) &&& 858993459) + (((((nI S) - ((((nI S).toUInt32 >>> ((1 : Int32).toUInt32 &&& Int32.toUInt32 31)).toInt32) &&& 1431655765)).toUInt32 >>> ((2 : Int32).toUInt32 &&& Int32.toUInt32 31)).toInt32) &&& 858993459)) + ((((((nI S) - ((((nI S).toUInt32 >>> ((1 : Int32).toUInt32 &&& Int32.toUInt32 31)).toInt32) &&& 1431655765)) &&& 858993459) + (((((nI S) - ((((nI S).toUInt32 >>> ((1 : Int32).toUInt32 &&& Int32.toUInt32 31)).toInt32) &&& 1431655765)).toUInt32 >>> ((2 : Int32).toUInt32 &&& Int32.toUInt32 31)).toInt32) &&& 858993459)).toUInt32 >>> ((4 : Int32).toUInt32 &&& Int32.toUInt32 31)).toInt32)) &&& 252645135).toUInt32 >>> ((8 : Int32).toUInt32 &&& Int32.toUInt32 31)).toInt32)).toUInt32 >>> ((16 : Int32).toUInt32 &&& Int32.toUInt32 31)).toInt32)) &&& 63) = nI (pc5 S) := by decide +kernel
set_option maxHeartbeats 4000000 in
set_option maxRecDepth 100000 in
theorem c_bitCount (l : Launch) (sa : Nat → Nat) (D : va_G) (cI cZ cL : ClassId)  (S : Nat) (hS : S < 32) : zMi (T := Unit) sa D vwCl (zty cI cZ cL) l yJ6_bitCount_0f7a4 wsJ6_bitCount_0f7a4 ({ frames := 0, cells := 0, slots := 0, locals := 0 } : Room) [.int (nI S)] [] (fun r9 _ => r9 = (nI (pc5 S))) (fun _ => []) 0 0 := by
  refine zMi.of (ret := (some .int)) (cc := cJ6_bitCount_0f7a4) (nL := 1) (own := RJ6) (by decide +kernel) rfl [(0, .int (nI S))] rfl (Nat.le_of_ble_eq_true rfl) rfl ?_
  intro A p e s m args below meth c C hmn
  refine z_iload_n C dJ6_bitCount_0f7a4_0 rfl 0 rfl ?_
  refine z_iload_n C dJ6_bitCount_0f7a4_1 rfl 0 rfl ?_
  refine z_iconst C (v := 1) dJ6_bitCount_0f7a4_2 (by decide) ?_
  refine z_iushr C (v := (((nI S).toUInt32 >>> ((1 : Int32).toUInt32 &&& Int32.toUInt32 31)).toInt32)) dJ6_bitCount_0f7a4_3 rfl ?_
  refine z_ldcw C m_J6_bitCount_0f7a4_k265 dJ6_bitCount_0f7a4_4 ?_
  refine z_iand C (v := ((((nI S).toUInt32 >>> ((1 : Int32).toUInt32 &&& Int32.toUInt32 31)).toInt32) &&& 1431655765)) dJ6_bitCount_0f7a4_7 rfl ?_
  refine z_isub C (v := ((nI S) - ((((nI S).toUInt32 >>> ((1 : Int32).toUInt32 &&& Int32.toUInt32 31)).toInt32) &&& 1431655765))) dJ6_bitCount_0f7a4_8 rfl ?_
  refine z_istore_n C dJ6_bitCount_0f7a4_9 rfl (by decide) [(0, .int ((nI S) - ((((nI S).toUInt32 >>> ((1 : Int32).toUInt32 &&& Int32.toUInt32 31)).toInt32) &&& 1431655765)))] [0] rfl ?_
  refine z_iload_n C dJ6_bitCount_0f7a4_10 rfl 0 rfl ?_
  refine z_ldcw C m_J6_bitCount_0f7a4_k266 dJ6_bitCount_0f7a4_11 ?_
  refine z_iand C (v := (((nI S) - ((((nI S).toUInt32 >>> ((1 : Int32).toUInt32 &&& Int32.toUInt32 31)).toInt32) &&& 1431655765)) &&& 858993459)) dJ6_bitCount_0f7a4_14 rfl ?_
  refine z_iload_n C dJ6_bitCount_0f7a4_15 rfl 0 rfl ?_
  refine z_iconst C (v := 2) dJ6_bitCount_0f7a4_16 (by decide) ?_
  refine z_iushr C (v := ((((nI S) - ((((nI S).toUInt32 >>> ((1 : Int32).toUInt32 &&& Int32.toUInt32 31)).toInt32) &&& 1431655765)).toUInt32 >>> ((2 : Int32).toUInt32 &&& Int32.toUInt32 31)).toInt32)) dJ6_bitCount_0f7a4_17 rfl ?_
  refine z_ldcw C m_J6_bitCount_0f7a4_k266 dJ6_bitCount_0f7a4_18 ?_
  refine z_iand C (v := (((((nI S) - ((((nI S).toUInt32 >>> ((1 : Int32).toUInt32 &&& Int32.toUInt32 31)).toInt32) &&& 1431655765)).toUInt32 >>> ((2 : Int32).toUInt32 &&& Int32.toUInt32 31)).toInt32) &&& 858993459)) dJ6_bitCount_0f7a4_21 rfl ?_
  refine z_iadd C (v := ((((nI S) - ((((nI S).toUInt32 >>> ((1 : Int32).toUInt32 &&& Int32.toUInt32 31)).toInt32) &&& 1431655765)) &&& 858993459) + (((((nI S) - ((((nI S).toUInt32 >>> ((1 : Int32).toUInt32 &&& Int32.toUInt32 31)).toInt32) &&& 1431655765)).toUInt32 >>> ((2 : Int32).toUInt32 &&& Int32.toUInt32 31)).toInt32) &&& 858993459))) dJ6_bitCount_0f7a4_22 rfl ?_
  refine z_istore_n C dJ6_bitCount_0f7a4_23 rfl (by decide) [(0, .int ((((nI S) - ((((nI S).toUInt32 >>> ((1 : Int32).toUInt32 &&& Int32.toUInt32 31)).toInt32) &&& 1431655765)) &&& 858993459) + (((((nI S) - ((((nI S).toUInt32 >>> ((1 : Int32).toUInt32 &&& Int32.toUInt32 31)).toInt32) &&& 1431655765)).toUInt32 >>> ((2 : Int32).toUInt32 &&& Int32.toUInt32 31)).toInt32) &&& 858993459)))] [0] rfl ?_
  refine z_iload_n C dJ6_bitCount_0f7a4_24 rfl 0 rfl ?_
  refine z_iload_n C dJ6_bitCount_0f7a4_25 rfl 0 rfl ?_
  refine z_iconst C (v := 4) dJ6_bitCount_0f7a4_26 (by decide) ?_
  refine z_iushr C (v := ((((((nI S) - ((((nI S).toUInt32 >>> ((1 : Int32).toUInt32 &&& Int32.toUInt32 31)).toInt32) &&& 1431655765)) &&& 858993459) + (((((nI S) - ((((nI S).toUInt32 >>> ((1 : Int32).toUInt32 &&& Int32.toUInt32 31)).toInt32) &&& 1431655765)).toUInt32 >>> ((2 : Int32).toUInt32 &&& Int32.toUInt32 31)).toInt32) &&& 858993459)).toUInt32 >>> ((4 : Int32).toUInt32 &&& Int32.toUInt32 31)).toInt32)) dJ6_bitCount_0f7a4_27 rfl ?_
  refine z_iadd C (v := (((((nI S) - ((((nI S).toUInt32 >>> ((1 : Int32).toUInt32 &&& Int32.toUInt32 31)).toInt32) &&& 1431655765)) &&& 858993459) + (((((nI S) - ((((nI S).toUInt32 >>> ((1 : Int32).toUInt32 &&& Int32.toUInt32 31)).toInt32) &&& 1431655765)).toUInt32 >>> ((2 : Int32).toUInt32 &&& Int32.toUInt32 31)).toInt32) &&& 858993459)) + ((((((nI S) - ((((nI S).toUInt32 >>> ((1 : Int32).toUInt32 &&& Int32.toUInt32 31)).toInt32) &&& 1431655765)) &&& 858993459) + (((((nI S) - ((((nI S).toUInt32 >>> ((1 : Int32).toUInt32 &&& Int32.toUInt32 31)).toInt32) &&& 1431655765)).toUInt32 >>> ((2 : Int32).toUInt32 &&& Int32.toUInt32 31)).toInt32) &&& 858993459)).toUInt32 >>> ((4 : Int32).toUInt32 &&& Int32.toUInt32 31)).toInt32))) dJ6_bitCount_0f7a4_28 rfl ?_
  refine z_ldcw C m_J6_bitCount_0f7a4_k267 dJ6_bitCount_0f7a4_29 ?_
  refine z_iand C (v := ((((((nI S) - ((((nI S).toUInt32 >>> ((1 : Int32).toUInt32 &&& Int32.toUInt32 31)).toInt32) &&& 1431655765)) &&& 858993459) + (((((nI S) - ((((nI S).toUInt32 >>> ((1 : Int32).toUInt32 &&& Int32.toUInt32 31)).toInt32) &&& 1431655765)).toUInt32 >>> ((2 : Int32).toUInt32 &&& Int32.toUInt32 31)).toInt32) &&& 858993459)) + ((((((nI S) - ((((nI S).toUInt32 >>> ((1 : Int32).toUInt32 &&& Int32.toUInt32 31)).toInt32) &&& 1431655765)) &&& 858993459) + (((((nI S) - ((((nI S).toUInt32 >>> ((1 : Int32).toUInt32 &&& Int32.toUInt32 31)).toInt32) &&& 1431655765)).toUInt32 >>> ((2 : Int32).toUInt32 &&& Int32.toUInt32 31)).toInt32) &&& 858993459)).toUInt32 >>> ((4 : Int32).toUInt32 &&& Int32.toUInt32 31)).toInt32)) &&& 252645135)) dJ6_bitCount_0f7a4_32 rfl ?_
  refine z_istore_n C dJ6_bitCount_0f7a4_33 rfl (by decide) [(0, .int ((((((nI S) - ((((nI S).toUInt32 >>> ((1 : Int32).toUInt32 &&& Int32.toUInt32 31)).toInt32) &&& 1431655765)) &&& 858993459) + (((((nI S) - ((((nI S).toUInt32 >>> ((1 : Int32).toUInt32 &&& Int32.toUInt32 31)).toInt32) &&& 1431655765)).toUInt32 >>> ((2 : Int32).toUInt32 &&& Int32.toUInt32 31)).toInt32) &&& 858993459)) + ((((((nI S) - ((((nI S).toUInt32 >>> ((1 : Int32).toUInt32 &&& Int32.toUInt32 31)).toInt32) &&& 1431655765)) &&& 858993459) + (((((nI S) - ((((nI S).toUInt32 >>> ((1 : Int32).toUInt32 &&& Int32.toUInt32 31)).toInt32) &&& 1431655765)).toUInt32 >>> ((2 : Int32).toUInt32 &&& Int32.toUInt32 31)).toInt32) &&& 858993459)).toUInt32 >>> ((4 : Int32).toUInt32 &&& Int32.toUInt32 31)).toInt32)) &&& 252645135))] [0] rfl ?_
  refine z_iload_n C dJ6_bitCount_0f7a4_34 rfl 0 rfl ?_
  refine z_iload_n C dJ6_bitCount_0f7a4_35 rfl 0 rfl ?_
  refine z_bipush C (v := 8) dJ6_bitCount_0f7a4_36 (by decide) ?_
  refine z_iushr C (v := ((((((((nI S) - ((((nI S).toUInt32 >>> ((1 : Int32).toUInt32 &&& Int32.toUInt32 31)).toInt32) &&& 1431655765)) &&& 858993459) + (((((nI S) - ((((nI S).toUInt32 >>> ((1 : Int32).toUInt32 &&& Int32.toUInt32 31)).toInt32) &&& 1431655765)).toUInt32 >>> ((2 : Int32).toUInt32 &&& Int32.toUInt32 31)).toInt32) &&& 858993459)) + ((((((nI S) - ((((nI S).toUInt32 >>> ((1 : Int32).toUInt32 &&& Int32.toUInt32 31)).toInt32) &&& 1431655765)) &&& 858993459) + (((((nI S) - ((((nI S).toUInt32 >>> ((1 : Int32).toUInt32 &&& Int32.toUInt32 31)).toInt32) &&& 1431655765)).toUInt32 >>> ((2 : Int32).toUInt32 &&& Int32.toUInt32 31)).toInt32) &&& 858993459)).toUInt32 >>> ((4 : Int32).toUInt32 &&& Int32.toUInt32 31)).toInt32)) &&& 252645135).toUInt32 >>> ((8 : Int32).toUInt32 &&& Int32.toUInt32 31)).toInt32)) dJ6_bitCount_0f7a4_38 rfl ?_
  refine z_iadd C (v := (((((((nI S) - ((((nI S).toUInt32 >>> ((1 : Int32).toUInt32 &&& Int32.toUInt32 31)).toInt32) &&& 1431655765)) &&& 858993459) + (((((nI S) - ((((nI S).toUInt32 >>> ((1 : Int32).toUInt32 &&& Int32.toUInt32 31)).toInt32) &&& 1431655765)).toUInt32 >>> ((2 : Int32).toUInt32 &&& Int32.toUInt32 31)).toInt32) &&& 858993459)) + ((((((nI S) - ((((nI S).toUInt32 >>> ((1 : Int32).toUInt32 &&& Int32.toUInt32 31)).toInt32) &&& 1431655765)) &&& 858993459) + (((((nI S) - ((((nI S).toUInt32 >>> ((1 : Int32).toUInt32 &&& Int32.toUInt32 31)).toInt32) &&& 1431655765)).toUInt32 >>> ((2 : Int32).toUInt32 &&& Int32.toUInt32 31)).toInt32) &&& 858993459)).toUInt32 >>> ((4 : Int32).toUInt32 &&& Int32.toUInt32 31)).toInt32)) &&& 252645135) + ((((((((nI S) - ((((nI S).toUInt32 >>> ((1 : Int32).toUInt32 &&& Int32.toUInt32 31)).toInt32) &&& 1431655765)) &&& 858993459) + (((((nI S) - ((((nI S).toUInt32 >>> ((1 : Int32).toUInt32 &&& Int32.toUInt32 31)).toInt32) &&& 1431655765)).toUInt32 >>> ((2 : Int32).toUInt32 &&& Int32.toUInt32 31)).toInt32) &&& 858993459)) + ((((((nI S) - ((((nI S).toUInt32 >>> ((1 : Int32).toUInt32 &&& Int32.toUInt32 31)).toInt32) &&& 1431655765)) &&& 858993459) + (((((nI S) - ((((nI S).toUInt32 >>> ((1 : Int32).toUInt32 &&& Int32.toUInt32 31)).toInt32) &&& 1431655765)).toUInt32 >>> ((2 : Int32).toUInt32 &&& Int32.toUInt32 31)).toInt32) &&& 858993459)).toUInt32 >>> ((4 : Int32).toUInt32 &&& Int32.toUInt32 31)).toInt32)) &&& 252645135).toUInt32 >>> ((8 : Int32).toUInt32 &&& Int32.toUInt32 31)).toInt32))) dJ6_bitCount_0f7a4_39 rfl ?_
  refine z_istore_n C dJ6_bitCount_0f7a4_40 rfl (by decide) [(0, .int (((((((nI S) - ((((nI S).toUInt32 >>> ((1 : Int32).toUInt32 &&& Int32.toUInt32 31)).toInt32) &&& 1431655765)) &&& 858993459) + (((((nI S) - ((((nI S).toUInt32 >>> ((1 : Int32).toUInt32 &&& Int32.toUInt32 31)).toInt32) &&& 1431655765)).toUInt32 >>> ((2 : Int32).toUInt32 &&& Int32.toUInt32 31)).toInt32) &&& 858993459)) + ((((((nI S) - ((((nI S).toUInt32 >>> ((1 : Int32).toUInt32 &&& Int32.toUInt32 31)).toInt32) &&& 1431655765)) &&& 858993459) + (((((nI S) - ((((nI S).toUInt32 >>> ((1 : Int32).toUInt32 &&& Int32.toUInt32 31)).toInt32) &&& 1431655765)).toUInt32 >>> ((2 : Int32).toUInt32 &&& Int32.toUInt32 31)).toInt32) &&& 858993459)).toUInt32 >>> ((4 : Int32).toUInt32 &&& Int32.toUInt32 31)).toInt32)) &&& 252645135) + ((((((((nI S) - ((((nI S).toUInt32 >>> ((1 : Int32).toUInt32 &&& Int32.toUInt32 31)).toInt32) &&& 1431655765)) &&& 858993459) + (((((nI S) - ((((nI S).toUInt32 >>> ((1 : Int32).toUInt32 &&& Int32.toUInt32 31)).toInt32) &&& 1431655765)).toUInt32 >>> ((2 : Int32).toUInt32 &&& Int32.toUInt32 31)).toInt32) &&& 858993459)) + ((((((nI S) - ((((nI S).toUInt32 >>> ((1 : Int32).toUInt32 &&& Int32.toUInt32 31)).toInt32) &&& 1431655765)) &&& 858993459) + (((((nI S) - ((((nI S).toUInt32 >>> ((1 : Int32).toUInt32 &&& Int32.toUInt32 31)).toInt32) &&& 1431655765)).toUInt32 >>> ((2 : Int32).toUInt32 &&& Int32.toUInt32 31)).toInt32) &&& 858993459)).toUInt32 >>> ((4 : Int32).toUInt32 &&& Int32.toUInt32 31)).toInt32)) &&& 252645135).toUInt32 >>> ((8 : Int32).toUInt32 &&& Int32.toUInt32 31)).toInt32)))] [0] rfl ?_
  refine z_iload_n C dJ6_bitCount_0f7a4_41 rfl 0 rfl ?_
  refine z_iload_n C dJ6_bitCount_0f7a4_42 rfl 0 rfl ?_
  refine z_bipush C (v := 16) dJ6_bitCount_0f7a4_43 (by decide) ?_
  refine z_iushr C (v := (((((((((nI S) - ((((nI S).toUInt32 >>> ((1 : Int32).toUInt32 &&& Int32.toUInt32 31)).toInt32) &&& 1431655765)) &&& 858993459) + (((((nI S) - ((((nI S).toUInt32 >>> ((1 : Int32).toUInt32 &&& Int32.toUInt32 31)).toInt32) &&& 1431655765)).toUInt32 >>> ((2 : Int32).toUInt32 &&& Int32.toUInt32 31)).toInt32) &&& 858993459)) + ((((((nI S) - ((((nI S).toUInt32 >>> ((1 : Int32).toUInt32 &&& Int32.toUInt32 31)).toInt32) &&& 1431655765)) &&& 858993459) + (((((nI S) - ((((nI S).toUInt32 >>> ((1 : Int32).toUInt32 &&& Int32.toUInt32 31)).toInt32) &&& 1431655765)).toUInt32 >>> ((2 : Int32).toUInt32 &&& Int32.toUInt32 31)).toInt32) &&& 858993459)).toUInt32 >>> ((4 : Int32).toUInt32 &&& Int32.toUInt32 31)).toInt32)) &&& 252645135) + ((((((((nI S) - ((((nI S).toUInt32 >>> ((1 : Int32).toUInt32 &&& Int32.toUInt32 31)).toInt32) &&& 1431655765)) &&& 858993459) + (((((nI S) - ((((nI S).toUInt32 >>> ((1 : Int32).toUInt32 &&& Int32.toUInt32 31)).toInt32) &&& 1431655765)).toUInt32 >>> ((2 : Int32).toUInt32 &&& Int32.toUInt32 31)).toInt32) &&& 858993459)) + ((((((nI S) - ((((nI S).toUInt32 >>> ((1 : Int32).toUInt32 &&& Int32.toUInt32 31)).toInt32) &&& 1431655765)) &&& 858993459) + (((((nI S) - ((((nI S).toUInt32 >>> ((1 : Int32).toUInt32 &&& Int32.toUInt32 31)).toInt32) &&& 1431655765)).toUInt32 >>> ((2 : Int32).toUInt32 &&& Int32.toUInt32 31)).toInt32) &&& 858993459)).toUInt32 >>> ((4 : Int32).toUInt32 &&& Int32.toUInt32 31)).toInt32)) &&& 252645135).toUInt32 >>> ((8 : Int32).toUInt32 &&& Int32.toUInt32 31)).toInt32)).toUInt32 >>> ((16 : Int32).toUInt32 &&& Int32.toUInt32 31)).toInt32)) dJ6_bitCount_0f7a4_45 rfl ?_
  refine z_iadd C (v := ((((((((nI S) - ((((nI S).toUInt32 >>> ((1 : Int32).toUInt32 &&& Int32.toUInt32 31)).toInt32) &&& 1431655765)) &&& 858993459) + (((((nI S) - ((((nI S).toUInt32 >>> ((1 : Int32).toUInt32 &&& Int32.toUInt32 31)).toInt32) &&& 1431655765)).toUInt32 >>> ((2 : Int32).toUInt32 &&& Int32.toUInt32 31)).toInt32) &&& 858993459)) + ((((((nI S) - ((((nI S).toUInt32 >>> ((1 : Int32).toUInt32 &&& Int32.toUInt32 31)).toInt32) &&& 1431655765)) &&& 858993459) + (((((nI S) - ((((nI S).toUInt32 >>> ((1 : Int32).toUInt32 &&& Int32.toUInt32 31)).toInt32) &&& 1431655765)).toUInt32 >>> ((2 : Int32).toUInt32 &&& Int32.toUInt32 31)).toInt32) &&& 858993459)).toUInt32 >>> ((4 : Int32).toUInt32 &&& Int32.toUInt32 31)).toInt32)) &&& 252645135) + ((((((((nI S) - ((((nI S).toUInt32 >>> ((1 : Int32).toUInt32 &&& Int32.toUInt32 31)).toInt32) &&& 1431655765)) &&& 858993459) + (((((nI S) - ((((nI S).toUInt32 >>> ((1 : Int32).toUInt32 &&& Int32.toUInt32 31)).toInt32) &&& 1431655765)).toUInt32 >>> ((2 : Int32).toUInt32 &&& Int32.toUInt32 31)).toInt32) &&& 858993459)) + ((((((nI S) - ((((nI S).toUInt32 >>> ((1 : Int32).toUInt32 &&& Int32.toUInt32 31)).toInt32) &&& 1431655765)) &&& 858993459) + (((((nI S) - ((((nI S).toUInt32 >>> ((1 : Int32).toUInt32 &&& Int32.toUInt32 31)).toInt32) &&& 1431655765)).toUInt32 >>> ((2 : Int32).toUInt32 &&& Int32.toUInt32 31)).toInt32) &&& 858993459)).toUInt32 >>> ((4 : Int32).toUInt32 &&& Int32.toUInt32 31)).toInt32)) &&& 252645135).toUInt32 >>> ((8 : Int32).toUInt32 &&& Int32.toUInt32 31)).toInt32)) + (((((((((nI S) - ((((nI S).toUInt32 >>> ((1 : Int32).toUInt32 &&& Int32.toUInt32 31)).toInt32) &&& 1431655765)) &&& 858993459) + (((((nI S) - ((((nI S).toUInt32 >>> ((1 : Int32).toUInt32 &&& Int32.toUInt32 31)).toInt32) &&& 1431655765)).toUInt32 >>> ((2 : Int32).toUInt32 &&& Int32.toUInt32 31)).toInt32) &&& 858993459)) + ((((((nI S) - ((((nI S).toUInt32 >>> ((1 : Int32).toUInt32 &&& Int32.toUInt32 31)).toInt32) &&& 1431655765)) &&& 858993459) + (((((nI S) - ((((nI S).toUInt32 >>> ((1 : Int32).toUInt32 &&& Int32.toUInt32 31)).toInt32) &&& 1431655765)).toUInt32 >>> ((2 : Int32).toUInt32 &&& Int32.toUInt32 31)).toInt32) &&& 858993459)).toUInt32 >>> ((4 : Int32).toUInt32 &&& Int32.toUInt32 31)).toInt32)) &&& 252645135) + ((((((((nI S) - ((((nI S).toUInt32 >>> ((1 : Int32).toUInt32 &&& Int32.toUInt32 31)).toInt32) &&& 1431655765)) &&& 858993459) + (((((nI S) - ((((nI S).toUInt32 >>> ((1 : Int32).toUInt32 &&& Int32.toUInt32 31)).toInt32) &&& 1431655765)).toUInt32 >>> ((2 : Int32).toUInt32 &&& Int32.toUInt32 31)).toInt32) &&& 858993459)) + ((((((nI S) - ((((nI S).toUInt32 >>> ((1 : Int32).toUInt32 &&& Int32.toUInt32 31)).toInt32) &&& 1431655765)) &&& 858993459) + (((((nI S) - ((((nI S).toUInt32 >>> ((1 : Int32).toUInt32 &&& Int32.toUInt32 31)).toInt32) &&& 1431655765)).toUInt32 >>> ((2 : Int32).toUInt32 &&& Int32.toUInt32 31)).toInt32) &&& 858993459)).toUInt32 >>> ((4 : Int32).toUInt32 &&& Int32.toUInt32 31)).toInt32)) &&& 252645135).toUInt32 >>> ((8 : Int32).toUInt32 &&& Int32.toUInt32 31)).toInt32)).toUInt32 >>> ((16 : Int32).toUInt32 &&& Int32.toUInt32 31)).toInt32))) dJ6_bitCount_0f7a4_46 rfl ?_
  refine z_istore_n C dJ6_bitCount_0f7a4_47 rfl (by decide) [(0, .int ((((((((nI S) - ((((nI S).toUInt32 >>> ((1 : Int32).toUInt32 &&& Int32.toUInt32 31)).toInt32) &&& 1431655765)) &&& 858993459) + (((((nI S) - ((((nI S).toUInt32 >>> ((1 : Int32).toUInt32 &&& Int32.toUInt32 31)).toInt32) &&& 1431655765)).toUInt32 >>> ((2 : Int32).toUInt32 &&& Int32.toUInt32 31)).toInt32) &&& 858993459)) + ((((((nI S) - ((((nI S).toUInt32 >>> ((1 : Int32).toUInt32 &&& Int32.toUInt32 31)).toInt32) &&& 1431655765)) &&& 858993459) + (((((nI S) - ((((nI S).toUInt32 >>> ((1 : Int32).toUInt32 &&& Int32.toUInt32 31)).toInt32) &&& 1431655765)).toUInt32 >>> ((2 : Int32).toUInt32 &&& Int32.toUInt32 31)).toInt32) &&& 858993459)).toUInt32 >>> ((4 : Int32).toUInt32 &&& Int32.toUInt32 31)).toInt32)) &&& 252645135) + ((((((((nI S) - ((((nI S).toUInt32 >>> ((1 : Int32).toUInt32 &&& Int32.toUInt32 31)).toInt32) &&& 1431655765)) &&& 858993459) + (((((nI S) - ((((nI S).toUInt32 >>> ((1 : Int32).toUInt32 &&& Int32.toUInt32 31)).toInt32) &&& 1431655765)).toUInt32 >>> ((2 : Int32).toUInt32 &&& Int32.toUInt32 31)).toInt32) &&& 858993459)) + ((((((nI S) - ((((nI S).toUInt32 >>> ((1 : Int32).toUInt32 &&& Int32.toUInt32 31)).toInt32) &&& 1431655765)) &&& 858993459) + (((((nI S) - ((((nI S).toUInt32 >>> ((1 : Int32).toUInt32 &&& Int32.toUInt32 31)).toInt32) &&& 1431655765)).toUInt32 >>> ((2 : Int32).toUInt32 &&& Int32.toUInt32 31)).toInt32) &&& 858993459)).toUInt32 >>> ((4 : Int32).toUInt32 &&& Int32.toUInt32 31)).toInt32)) &&& 252645135).toUInt32 >>> ((8 : Int32).toUInt32 &&& Int32.toUInt32 31)).toInt32)) + (((((((((nI S) - ((((nI S).toUInt32 >>> ((1 : Int32).toUInt32 &&& Int32.toUInt32 31)).toInt32) &&& 1431655765)) &&& 858993459) + (((((nI S) - ((((nI S).toUInt32 >>> ((1 : Int32).toUInt32 &&& Int32.toUInt32 31)).toInt32) &&& 1431655765)).toUInt32 >>> ((2 : Int32).toUInt32 &&& Int32.toUInt32 31)).toInt32) &&& 858993459)) + ((((((nI S) - ((((nI S).toUInt32 >>> ((1 : Int32).toUInt32 &&& Int32.toUInt32 31)).toInt32) &&& 1431655765)) &&& 858993459) + (((((nI S) - ((((nI S).toUInt32 >>> ((1 : Int32).toUInt32 &&& Int32.toUInt32 31)).toInt32) &&& 1431655765)).toUInt32 >>> ((2 : Int32).toUInt32 &&& Int32.toUInt32 31)).toInt32) &&& 858993459)).toUInt32 >>> ((4 : Int32).toUInt32 &&& Int32.toUInt32 31)).toInt32)) &&& 252645135) + ((((((((nI S) - ((((nI S).toUInt32 >>> ((1 : Int32).toUInt32 &&& Int32.toUInt32 31)).toInt32) &&& 1431655765)) &&& 858993459) + (((((nI S) - ((((nI S).toUInt32 >>> ((1 : Int32).toUInt32 &&& Int32.toUInt32 31)).toInt32) &&& 1431655765)).toUInt32 >>> ((2 : Int32).toUInt32 &&& Int32.toUInt32 31)).toInt32) &&& 858993459)) + ((((((nI S) - ((((nI S).toUInt32 >>> ((1 : Int32).toUInt32 &&& Int32.toUInt32 31)).toInt32) &&& 1431655765)) &&& 858993459) + (((((nI S) - ((((nI S).toUInt32 >>> ((1 : Int32).toUInt32 &&& Int32.toUInt32 31)).toInt32) &&& 1431655765)).toUInt32 >>> ((2 : Int32).toUInt32 &&& Int32.toUInt32 31)).toInt32) &&& 858993459)).toUInt32 >>> ((4 : Int32).toUInt32 &&& Int32.toUInt32 31)).toInt32)) &&& 252645135).toUInt32 >>> ((8 : Int32).toUInt32 &&& Int32.toUInt32 31)).toInt32)).toUInt32 >>> ((16 : Int32).toUInt32 &&& Int32.toUInt32 31)).toInt32)))] [0] rfl ?_
  refine z_iload_n C dJ6_bitCount_0f7a4_48 rfl 0 rfl ?_
  refine z_bipush C (v := 63) dJ6_bitCount_0f7a4_49 (by decide) ?_
  refine z_iand C (v := (((((((((nI S) - ((((nI S).toUInt32 >>> ((1 : Int32).toUInt32 &&& Int32.toUInt32 31)).toInt32) &&& 1431655765)) &&& 858993459) + (((((nI S) - ((((nI S).toUInt32 >>> ((1 : Int32).toUInt32 &&& Int32.toUInt32 31)).toInt32) &&& 1431655765)).toUInt32 >>> ((2 : Int32).toUInt32 &&& Int32.toUInt32 31)).toInt32) &&& 858993459)) + ((((((nI S) - ((((nI S).toUInt32 >>> ((1 : Int32).toUInt32 &&& Int32.toUInt32 31)).toInt32) &&& 1431655765)) &&& 858993459) + (((((nI S) - ((((nI S).toUInt32 >>> ((1 : Int32).toUInt32 &&& Int32.toUInt32 31)).toInt32) &&& 1431655765)).toUInt32 >>> ((2 : Int32).toUInt32 &&& Int32.toUInt32 31)).toInt32) &&& 858993459)).toUInt32 >>> ((4 : Int32).toUInt32 &&& Int32.toUInt32 31)).toInt32)) &&& 252645135) + ((((((((nI S) - ((((nI S).toUInt32 >>> ((1 : Int32).toUInt32 &&& Int32.toUInt32 31)).toInt32) &&& 1431655765)) &&& 858993459) + (((((nI S) - ((((nI S).toUInt32 >>> ((1 : Int32).toUInt32 &&& Int32.toUInt32 31)).toInt32) &&& 1431655765)).toUInt32 >>> ((2 : Int32).toUInt32 &&& Int32.toUInt32 31)).toInt32) &&& 858993459)) + ((((((nI S) - ((((nI S).toUInt32 >>> ((1 : Int32).toUInt32 &&& Int32.toUInt32 31)).toInt32) &&& 1431655765)) &&& 858993459) + (((((nI S) - ((((nI S).toUInt32 >>> ((1 : Int32).toUInt32 &&& Int32.toUInt32 31)).toInt32) &&& 1431655765)).toUInt32 >>> ((2 : Int32).toUInt32 &&& Int32.toUInt32 31)).toInt32) &&& 858993459)).toUInt32 >>> ((4 : Int32).toUInt32 &&& Int32.toUInt32 31)).toInt32)) &&& 252645135).toUInt32 >>> ((8 : Int32).toUInt32 &&& Int32.toUInt32 31)).toInt32)) + (((((((((nI S) - ((((nI S).toUInt32 >>> ((1 : Int32).toUInt32 &&& Int32.toUInt32 31)).toInt32) &&& 1431655765)) &&& 858993459) + (((((nI S) - ((((nI S).toUInt32 >>> ((1 : Int32).toUInt32 &&& Int32.toUInt32 31)).toInt32) &&& 1431655765)).toUInt32 >>> ((2 : Int32).toUInt32 &&& Int32.toUInt32 31)).toInt32) &&& 858993459)) + ((((((nI S) - ((((nI S).toUInt32 >>> ((1 : Int32).toUInt32 &&& Int32.toUInt32 31)).toInt32) &&& 1431655765)) &&& 858993459) + (((((nI S) - ((((nI S).toUInt32 >>> ((1 : Int32).toUInt32 &&& Int32.toUInt32 31)).toInt32) &&& 1431655765)).toUInt32 >>> ((2 : Int32).toUInt32 &&& Int32.toUInt32 31)).toInt32) &&& 858993459)).toUInt32 >>> ((4 : Int32).toUInt32 &&& Int32.toUInt32 31)).toInt32)) &&& 252645135) + ((((((((nI S) - ((((nI S).toUInt32 >>> ((1 : Int32).toUInt32 &&& Int32.toUInt32 31)).toInt32) &&& 1431655765)) &&& 858993459) + (((((nI S) - ((((nI S).toUInt32 >>> ((1 : Int32).toUInt32 &&& Int32.toUInt32 31)).toInt32) &&& 1431655765)).toUInt32 >>> ((2 : Int32).toUInt32 &&& Int32.toUInt32 31)).toInt32) &&& 858993459)) + ((((((nI S) - ((((nI S).toUInt32 >>> ((1 : Int32).toUInt32 &&& Int32.toUInt32 31)).toInt32) &&& 1431655765)) &&& 858993459) + (((((nI S) - ((((nI S).toUInt32 >>> ((1 : Int32).toUInt32 &&& Int32.toUInt32 31)).toInt32) &&& 1431655765)).toUInt32 >>> ((2 : Int32).toUInt32 &&& Int32.toUInt32 31)).toInt32) &&& 858993459)).toUInt32 >>> ((4 : Int32).toUInt32 &&& Int32.toUInt32 31)).toInt32)) &&& 252645135).toUInt32 >>> ((8 : Int32).toUInt32 &&& Int32.toUInt32 31)).toInt32)).toUInt32 >>> ((16 : Int32).toUInt32 &&& Int32.toUInt32 31)).toInt32)) &&& 63)) dJ6_bitCount_0f7a4_51 rfl ?_
  exact z_iret C () (by exact bc32 S hS) rfl (by decide) (by decide) dJ6_bitCount_0f7a4_52
set_option maxHeartbeats 4000000 in
set_option maxRecDepth 100000 in
theorem c_X3_copy (l : Launch) (sa : Nat → Nat) (D : va_G) (cI cZ cL : ClassId) (h0 h1 h2 : Nat) (acc net : Nat → Int32) (g0 g1 g2 : Nat) (acc2 net2 : Nat → Int32)   : zMv (T := Unit) sa D vwCl (zty cI cZ cL) l yX3_copy wsX3_copy ({ frames := 1, cells := 0, slots := 0, locals := 30 } : Room) [.ref h0, .ref g0] [(h0, .inr (3, [.ref h1, .ref h2])), (h1, .inl (cI, 5, .inl acc)), (h2, .inl (cI, 25, .inl net)), (g0, .inr (3, [.ref g1, .ref g2])), (g1, .inl (cI, 5, .inl acc2)), (g2, .inl (cI, 25, .inl net2))] (fun _ => True) (fun _ => [(h0, .inr (3, [.ref h1, .ref h2])), (h1, .inl (cI, 5, .inl (cpA acc2 acc))), (h2, .inl (cI, 25, .inl (cpN net2 net))), (g0, .inr (3, [.ref g1, .ref g2])), (g1, .inl (cI, 5, .inl acc2)), (g2, .inl (cI, 25, .inl net2))]) 0 0 := by
  refine zMv.of (ret := none) (cc := cX3_copy) (nL := 2) (own := RX3) (by decide +kernel) rfl [(0, .ref h0), (1, .ref g0)] rfl (Nat.le_of_ble_eq_true rfl) rfl ?_
  intro A p e s m args below meth c C hmn
  refine z_aload_n C dX3_copy_0 rfl 1 rfl ?_
  refine z_get C 3 rfl i_X3_copy_X3 rfl 0 (by decide) m_X3_copy_f9 rfl rfl dX3_copy_1 ?_
  refine z_iconst C (v := 0) dX3_copy_4 (by decide) ?_
  refine z_aload_n C dX3_copy_5 rfl 0 rfl ?_
  refine z_get C 0 rfl i_X3_copy_X3 rfl 0 (by decide) m_X3_copy_f9 rfl rfl dX3_copy_6 ?_
  refine z_iconst C (v := 0) dX3_copy_9 (by decide) ?_
  refine z_iconst C (v := 5) dX3_copy_10 (by decide) ?_
  refine z_copy C m_X3_copy_l22 m_X3_copy_acn m_X3_copy_acs m_X3_copy_aci 4 1 rfl rfl rfl (by decide) (by decide) (by decide) rfl rfl rfl (by decide) (by decide) ⟨Nat.le_of_ble_eq_true rfl, Nat.le_of_ble_eq_true rfl⟩ dX3_copy_11 [(h0, .inr (3, [.ref h1, .ref h2])), (h1, .inl (cI, 5, .inl (va_cpy acc2 acc 0 0 5))), (h2, .inl (cI, 25, .inl net)), (g0, .inr (3, [.ref g1, .ref g2])), (g1, .inl (cI, 5, .inl acc2)), (g2, .inl (cI, 25, .inl net2))] rfl ?_
  refine z_aload_n C dX3_copy_14 rfl 1 rfl ?_
  refine z_get C 3 rfl i_X3_copy_X3 rfl 1 (by decide) m_X3_copy_f15 rfl rfl dX3_copy_15 ?_
  refine z_iconst C (v := 0) dX3_copy_18 (by decide) ?_
  refine z_aload_n C dX3_copy_19 rfl 0 rfl ?_
  refine z_get C 0 rfl i_X3_copy_X3 rfl 1 (by decide) m_X3_copy_f15 rfl rfl dX3_copy_20 ?_
  refine z_iconst C (v := 0) dX3_copy_23 (by decide) ?_
  refine z_bipush C (v := 25) dX3_copy_24 (by decide) ?_
  refine z_copy C m_X3_copy_l22 m_X3_copy_acn m_X3_copy_acs m_X3_copy_aci 5 2 rfl rfl rfl (by decide) (by decide) (by decide) rfl rfl rfl (by decide) (by decide) ⟨Nat.le_of_ble_eq_true rfl, Nat.le_of_ble_eq_true rfl⟩ dX3_copy_26 [(h0, .inr (3, [.ref h1, .ref h2])), (h1, .inl (cI, 5, .inl (va_cpy acc2 acc 0 0 5))), (h2, .inl (cI, 25, .inl (va_cpy net2 net 0 0 25))), (g0, .inr (3, [.ref g1, .ref g2])), (g1, .inl (cI, 5, .inl acc2)), (g2, .inl (cI, 25, .inl net2))] rfl ?_
  exact z_vret C () (by exact trivial) rfl (by decide) (by decide) dX3_copy_29
set_option maxHeartbeats 4000000 in
set_option maxRecDepth 100000 in
theorem c_X0_allow (l : Launch) (sa : Nat → Nat) (D : va_G) (cI cZ cL : ClassId) (ad : Nat → Nat) (acc net tacc tnet flo bnd frm too amt pri wai byp ldr bor due plg clo pap cnd : Nat → Int32) (small price cut proc : Int32) (mk lm le : Nat)   : zMi (T := Unit) sa D vwCl (zty cI cZ cL) l yX0_allow wsX0_allow ({ frames := 0, cells := 0, slots := 0, locals := 0 } : Room) [.ref (ad 3), .ref (ad 2)] (wX ad cI cZ acc net tacc tnet flo bnd frm too amt pri wai byp ldr bor due plg clo pap cnd small price cut proc (nI mk) (nI lm) (nI le)) (fun r9 _ => r9 = if sndB tacc flo tnet bnd = true then 1 else 0) (fun _ => (wX ad cI cZ acc net tacc tnet flo bnd frm too amt pri wai byp ldr bor due plg clo pap cnd small price cut proc (nI mk) (nI lm) (nI le))) 0 0 := by
  refine zMi.of (ret := (some .boolean)) (cc := cX0_allow) (nL := 3) (own := RX0) (by decide +kernel) rfl [(0, .ref (ad 3)), (1, .ref (ad 2))] rfl (Nat.le_of_ble_eq_true rfl) rfl ?_
  intro A p e s m args below meth c C hmn
  refine z_iconst C (v := 0) dX0_allow_0 (by decide) ?_
  refine z_istore_n C dX0_allow_1 rfl (by decide) [(0, .ref (ad 3)), (1, .ref (ad 2)), (2, .int 0)] [1, 2, 0] rfl ?_
  have L2_k_1 : ∀ (n : Nat) (i : Nat), 5 - i < n → (i ≤ 5) → (∀ b, b < i → flo b ≤ tacc b) → zW 0 p l e ({ frames := 0, cells := 0, slots := 0, locals := 0 } : Room) s m args below meth c (MQ below (zQi (T := Unit) D vwCl (zty cI cZ cL) A (fun r9 _ => r9 = if sndB tacc flo tnet bnd = true then 1 else 0) (fun _ => (wX ad cI cZ acc net tacc tnet flo bnd frm too amt pri wai byp ldr bor due plg clo pap cnd small price cut proc (nI mk) (nI lm) (nI le)))) args s 0 0 A) D vwCl A 3 0 0 (wX ad cI cZ acc net tacc tnet flo bnd frm too amt pri wai byp ldr bor due plg clo pap cnd small price cut proc (nI mk) (nI lm) (nI le)) [(0, .ref (ad 3)), (1, .ref (ad 2)), (2, .int (nI i))] 2 [] := by
    intro n
    induction n with
    | zero => intros; omega
    | succ n ih_2 =>
      intro i hm_3 hi h1
      refine z_iload_n C dX0_allow_2 rfl 2 rfl ?_
      refine z_iconst C (v := 5) dX0_allow_3 (by decide) ?_
      refine z_icmp_ge C (tgt := 30) dX0_allow_4 (by decide) (fun c4_4 => ?_) (fun c4_4 => ?_)
      · skip
        have n_5 : 5 ≤ i := (nI_leI (a := 5) (b := i) (by omega) (by omega)).mp c4_4
        refine z_iconst C (v := 0) dX0_allow_30 (by decide) ?_
        refine z_istore_n C dX0_allow_31 rfl (by decide) [(0, .ref (ad 3)), (1, .ref (ad 2)), (2, .int 0)] [1, 2, 0] rfl ?_
        have L32_k_6 : ∀ (n : Nat) (j : Nat), 25 - j < n → (j ≤ 25) → (∀ q, q < j → tnet q ≤ bnd q) → zW 0 p l e ({ frames := 0, cells := 0, slots := 0, locals := 0 } : Room) s m args below meth c (MQ below (zQi (T := Unit) D vwCl (zty cI cZ cL) A (fun r9 _ => r9 = if sndB tacc flo tnet bnd = true then 1 else 0) (fun _ => (wX ad cI cZ acc net tacc tnet flo bnd frm too amt pri wai byp ldr bor due plg clo pap cnd small price cut proc (nI mk) (nI lm) (nI le)))) args s 0 0 A) D vwCl A 3 0 0 (wX ad cI cZ acc net tacc tnet flo bnd frm too amt pri wai byp ldr bor due plg clo pap cnd small price cut proc (nI mk) (nI lm) (nI le)) [(0, .ref (ad 3)), (1, .ref (ad 2)), (2, .int (nI j))] 32 [] := by
          intro n
          induction n with
          | zero => intros; omega
          | succ n ih_7 =>
            intro j hm_8 hj h2
            refine z_iload_n C dX0_allow_32 rfl 2 rfl ?_
            refine z_bipush C (v := 25) dX0_allow_33 (by decide) ?_
            refine z_icmp_ge C (tgt := 61) dX0_allow_35 (by decide) (fun c35_9 => ?_) (fun c35_9 => ?_)
            · skip
              have n_10 : 25 ≤ j := (nI_leI (a := 25) (b := j) (by omega) (by omega)).mp c35_9
              refine z_iconst C (v := 1) dX0_allow_61 (by decide) ?_
              exact z_zret C () (by exact (if_pos (sndB_iff.mpr ⟨fun b hb => h1 b (by omega), fun q hq => h2 q (by omega)⟩)).symm) rfl (by decide) (by decide) (by decide) dX0_allow_62
            · skip
              have n_11 : ¬ 25 ≤ j := fun q => c35_9 ((nI_leI (a := 25) (b := j) (by omega) (by omega)).mpr q)
              refine z_aload_n C dX0_allow_38 rfl 1 rfl ?_
              refine z_get C 2 rfl i_X0_allow_X3 rfl 1 (by decide) m_X0_allow_f24 rfl rfl dX0_allow_39 ?_
              refine z_iload_n C dX0_allow_42 rfl 2 rfl ?_
              refine z_iald C 9 0 rfl rfl j (nI_clamp (by omega)) (vp_in_nI (by omega) (by omega)) (tnet j) rfl dX0_allow_43 ?_
              refine z_aload_n C dX0_allow_44 rfl 0 rfl ?_
              refine z_get C 3 rfl i_X0_allow_X0 rfl 1 (by decide) m_X0_allow_f15 rfl rfl dX0_allow_45 ?_
              refine z_iload_n C dX0_allow_48 rfl 2 rfl ?_
              refine z_iald C 11 0 rfl rfl j (nI_clamp (by omega)) (vp_in_nI (by omega) (by omega)) (bnd j) rfl dX0_allow_49 ?_
              refine z_icmp_le C (tgt := 55) dX0_allow_50 (by decide) (fun c50_12 => ?_) (fun c50_12 => ?_)
              · skip
                refine z_iinc C (v := (nI (j + 1))) dX0_allow_55 2 rfl (nI_add j 1) (by decide) [(0, .ref (ad 3)), (1, .ref (ad 2)), (2, .int (nI (j + 1)))] [1, 2, 0] rfl ?_
                refine z_goto C (tgt := 32) dX0_allow_58 (by decide) ?_
                exact ih_7 (j + 1) (by omega) (by first | assumption | omega) (by exact lt_s h2 (by assumption))
              · skip
                refine z_iconst C (v := 0) dX0_allow_53 (by decide) ?_
                exact z_zret C () (by first | exact (if_neg (fun q => c50_12 ((sndB_iff.mp q).1 _ (by omega)))).symm | exact (if_neg (fun q => c50_12 ((sndB_iff.mp q).2 _ (by omega)))).symm) rfl (by decide) (by decide) (by decide) dX0_allow_54
        refine z_lveq [(0, .ref (ad 3)), (1, .ref (ad 2)), (2, .int (nI 0))] (by rfl) ?_
        exact L32_k_6 (25 - 0 + 1) 0 (Nat.lt_succ_self _) (by first | assumption | omega) (by intro b hb; omega)
      · skip
        have n_13 : ¬ 5 ≤ i := fun q => c4_4 ((nI_leI (a := 5) (b := i) (by omega) (by omega)).mpr q)
        refine z_aload_n C dX0_allow_7 rfl 1 rfl ?_
        refine z_get C 2 rfl i_X0_allow_X3 rfl 0 (by decide) m_X0_allow_f19 rfl rfl dX0_allow_8 ?_
        refine z_iload_n C dX0_allow_11 rfl 2 rfl ?_
        refine z_iald C 8 0 rfl rfl i (nI_clamp (by omega)) (vp_in_nI (by omega) (by omega)) (tacc i) rfl dX0_allow_12 ?_
        refine z_aload_n C dX0_allow_13 rfl 0 rfl ?_
        refine z_get C 3 rfl i_X0_allow_X0 rfl 0 (by decide) m_X0_allow_f9 rfl rfl dX0_allow_14 ?_
        refine z_iload_n C dX0_allow_17 rfl 2 rfl ?_
        refine z_iald C 10 0 rfl rfl i (nI_clamp (by omega)) (vp_in_nI (by omega) (by omega)) (flo i) rfl dX0_allow_18 ?_
        refine z_icmp_ge C (tgt := 24) dX0_allow_19 (by decide) (fun c19_14 => ?_) (fun c19_14 => ?_)
        · skip
          refine z_iinc C (v := (nI (i + 1))) dX0_allow_24 2 rfl (nI_add i 1) (by decide) [(0, .ref (ad 3)), (1, .ref (ad 2)), (2, .int (nI (i + 1)))] [1, 2, 0] rfl ?_
          refine z_goto C (tgt := 2) dX0_allow_27 (by decide) ?_
          exact ih_2 (i + 1) (by omega) (by first | assumption | omega) (by exact lt_s h1 (by assumption))
        · skip
          refine z_iconst C (v := 0) dX0_allow_22 (by decide) ?_
          exact z_zret C () (by first | exact (if_neg (fun q => c19_14 ((sndB_iff.mp q).1 _ (by omega)))).symm | exact (if_neg (fun q => c19_14 ((sndB_iff.mp q).2 _ (by omega)))).symm) rfl (by decide) (by decide) (by decide) dX0_allow_23
  refine z_lveq [(0, .ref (ad 3)), (1, .ref (ad 2)), (2, .int (nI 0))] (by rfl) ?_
  exact L2_k_1 (5 - 0 + 1) 0 (Nat.lt_succ_self _) (by first | assumption | omega) (by intro b hb; omega)
set_option maxHeartbeats 4000000 in
set_option maxRecDepth 100000 in
theorem c_X4_canGoTogether (l : Launch) (sa : Nat → Nat) (D : va_G) (cI cZ cL : ClassId) (ad : Nat → Nat) (acc net tacc tnet flo bnd frm too amt pri wai byp ldr bor due plg clo pap cnd : Nat → Int32) (small price cut proc : Int32) (mk lm le : Nat) (S : Nat) (c9 : Nat) (cn : Nat → Option Nat) (hS : S < 1024) (hc9 : c9 ≤ 10) (hcnd : ∀ k, k < c9 → cnd k = oI (cn k)) (hcn : ∀ k p, cn k = some p → p < mk) (hmk : mk ≤ 60) (hfrm : wf5 mk frm) (htoo : wf5 mk too) : zMi (T := (Nat → Int32) × (Nat → Int32)) sa D vwCl (zty cI cZ cL) l yX4_canGoTogether wsX4_canGoTogether ({ frames := 3, cells := 0, slots := 0, locals := 66 } : Room) [.ref (ad 0), .int (nI S), .int (nI c9)] (wX ad cI cZ acc net tacc tnet flo bnd frm too amt pri wai byp ldr bor due plg clo pap cnd small price cut proc (nI mk) (nI lm) (nI le)) (fun r9 u => r9 = if okS frm too amt flo bnd cn c9 acc net S = true then 1 else 0) (fun u => (wX ad cI cZ acc net u.1 u.2 flo bnd frm too amt pri wai byp ldr bor due plg clo pap cnd small price cut proc (nI mk) (nI lm) (nI le))) 0 0 := by
  refine zMi.of (ret := (some .boolean)) (cc := cX4_canGoTogether) (nL := 4) (own := RX4) (by decide +kernel) rfl [(0, .ref (ad 0)), (1, .int (nI S)), (2, .int (nI c9))] rfl (Nat.le_of_ble_eq_true rfl) rfl ?_
  intro A p e s m args below meth c C hmn
  refine z_aload_n C dX4_canGoTogether_0 rfl 0 rfl ?_
  refine z_get C 0 rfl i_X4_canGoTogether_X4 rfl 1 (by decide) m_X4_canGoTogether_f16 rfl rfl dX4_canGoTogether_1 ?_
  refine z_aload_n C dX4_canGoTogether_4 rfl 0 rfl ?_
  refine z_get C 0 rfl i_X4_canGoTogether_X4 rfl 0 (by decide) m_X4_canGoTogether_f10 rfl rfl dX4_canGoTogether_5 ?_
  refine z_callVv C (T := Unit) (As := [.ref (ad 1)]) (rest := []) (ws' := fun _ => (wX ad cI cZ acc net (cpA acc tacc) (cpN net tnet) flo bnd frm too amt pri wai byp ldr bor due plg clo pap cnd small price cut proc (nI mk) (nI lm) (nI le))) (c_X3_copy l sa D cI cZ cL (ad 2) (ad 8) (ad 9) tacc tnet (ad 1) (ad 6) (ad 7) acc net  ) (cwV 1 C.2.2.2.2.1 gX4_canGoTogether_X3_copy rfl rfl rfl (by decide +kernel) ⟨Nat.le_of_ble_eq_true rfl, Nat.le_of_ble_eq_true rfl⟩) 2 rfl rfl rfl (fun _ => (zSub.of (wr := [((ad 0), .inr (4, [.ref (ad 1), .ref (ad 2), .ref (ad 3), .ref (ad 4), .ref (ad 5), .ref (ad 22), .ref (ad 23), .ref (ad 24), .int small, .int price, .int cut, .int proc])), ((ad 3), .inr (0, [.ref (ad 10), .ref (ad 11)])), ((ad 4), .inr (2, [.ref (ad 12), .ref (ad 13), .ref (ad 14), .ref (ad 15), .ref (ad 16), .ref (ad 17), .int (nI mk)])), ((ad 5), .inr (1, [.ref (ad 18), .ref (ad 19), .ref (ad 20), .ref (ad 21), .int (nI lm), .int (nI le)])), ((ad 10), .inl (cI, 5, .inl flo)), ((ad 11), .inl (cI, 25, .inl bnd)), ((ad 12), .inl (cI, 60, .inl frm)), ((ad 13), .inl (cI, 60, .inl too)), ((ad 14), .inl (cI, 60, .inl amt)), ((ad 15), .inl (cI, 60, .inl pri)), ((ad 16), .inl (cZ, 60, .inl wai)), ((ad 17), .inl (cI, 60, .inl byp)), ((ad 18), .inl (cI, 40, .inl ldr)), ((ad 19), .inl (cI, 40, .inl bor)), ((ad 20), .inl (cI, 40, .inl due)), ((ad 21), .inl (cI, 40, .inl plg)), ((ad 22), .inl (cZ, 5, .inl clo)), ((ad 23), .inl (cI, 5, .inl pap)), ((ad 24), .inl (cI, 10, .inl cnd))]) [2, 8, 9, 1, 6, 7] [0, 3, 4, 5, 10, 11, 12, 13, 14, 15, 16, 17, 18, 19, 20, 21, 22, 23, 24] [0, 22, 19, 1, 2, 3, 23, 24, 20, 21, 4, 5, 6, 7, 8, 9, 10, 11, 12, 13, 14, 15, 16, 17, 18] rfl rfl rfl rfl (by decide) rfl rfl)) (zIn.of [2, 8, 9, 1, 6, 7] rfl rfl) rfl (Nat.le_of_ble_eq_true rfl) ⟨Nat.le_of_ble_eq_true rfl, Nat.le_of_ble_eq_true rfl⟩ dX4_canGoTogether_8 (fun _ _ => ?_)
  refine z_iconst C (v := 0) dX4_canGoTogether_11 (by decide) ?_
  refine z_istore_n C dX4_canGoTogether_12 rfl (by decide) [(0, .ref (ad 0)), (1, .int (nI S)), (2, .int (nI c9)), (3, .int 0)] [1, 2, 3, 0] rfl ?_
  have L13_k_1 : ∀ (n : Nat) (i : Nat) (a9 n9 : Nat → Int32), c9 - i < n → (i ≤ c9) → (goS frm too amt cn S (cpA acc tacc) (cpN net tnet) i = some (a9, n9)) → zW 0 p l e ({ frames := 3, cells := 0, slots := 0, locals := 66 } : Room) s m args below meth c (MQ below (zQi (T := (Nat → Int32) × (Nat → Int32)) D vwCl (zty cI cZ cL) A (fun r9 u => r9 = if okS frm too amt flo bnd cn c9 acc net S = true then 1 else 0) (fun u => (wX ad cI cZ acc net u.1 u.2 flo bnd frm too amt pri wai byp ldr bor due plg clo pap cnd small price cut proc (nI mk) (nI lm) (nI le)))) args s 0 0 A) D vwCl A 4 0 0 (wX ad cI cZ acc net a9 n9 flo bnd frm too amt pri wai byp ldr bor due plg clo pap cnd small price cut proc (nI mk) (nI lm) (nI le)) [(0, .ref (ad 0)), (1, .int (nI S)), (2, .int (nI c9)), (3, .int (nI i))] 13 [] := by
    intro n
    induction n with
    | zero => intros; omega
    | succ n ih_2 =>
      intro i a9 n9 hm_3 hi hgo
      refine z_iload_n C dX4_canGoTogether_13 rfl 3 rfl ?_
      refine z_iload_n C dX4_canGoTogether_14 rfl 2 rfl ?_
      refine z_icmp_ge C (tgt := 61) dX4_canGoTogether_15 (by decide) (fun c15_4 => ?_) (fun c15_4 => ?_)
      · skip
        have n_5 : c9 ≤ i := (nI_leI (a := c9) (b := i) (by omega) (by omega)).mp c15_4
        refine z_aload_n C dX4_canGoTogether_61 rfl 0 rfl ?_
        refine z_get C 0 rfl i_X4_canGoTogether_X4 rfl 2 (by decide) m_X4_canGoTogether_f22 rfl rfl dX4_canGoTogether_62 ?_
        refine z_aload_n C dX4_canGoTogether_65 rfl 0 rfl ?_
        refine z_get C 0 rfl i_X4_canGoTogether_X4 rfl 1 (by decide) m_X4_canGoTogether_f16 rfl rfl dX4_canGoTogether_66 ?_
        refine z_case (sndB a9 flo n9 bnd = true) (fun hp_6 => ?_) (fun hp_6 => ?_)
        · skip
          refine z_callVi C (T := Unit) (As := [.ref (ad 2)]) (rest := []) (ws' := fun _ => (wX ad cI cZ acc net a9 n9 flo bnd frm too amt pri wai byp ldr bor due plg clo pap cnd small price cut proc (nI mk) (nI lm) (nI le))) (c_X0_allow l sa D cI cZ cL ad acc net a9 n9 flo bnd frm too amt pri wai byp ldr bor due plg clo pap cnd small price cut proc mk lm le  ) (cwV 1 C.2.2.2.2.1 gX4_canGoTogether_X0_allow rfl rfl rfl (by decide +kernel) ⟨Nat.le_of_ble_eq_true rfl, Nat.le_of_ble_eq_true rfl⟩) 3 rfl rfl rfl (fun _ => zSub.full) zIn.full rfl (Nat.le_of_ble_eq_true rfl) ⟨Nat.le_of_ble_eq_true rfl, Nat.le_of_ble_eq_true rfl⟩ dX4_canGoTogether_69 (fun r_7 _ h_8 => ?_)
          obtain rfl : r_7 = 1 := h_8.trans (if_pos hp_6)
          exact z_zret C (a9, n9) (by rw [okS_some (n := mk) (tacc := tacc) (tnet := tnet) (r := (a9, n9)) hfrm htoo hcn (by rw [show c9 = i by omega]; exact hgo)]; simp [hp_6]) rfl (by decide) (by decide) (by decide) dX4_canGoTogether_72
        · skip
          refine z_callVi C (T := Unit) (As := [.ref (ad 2)]) (rest := []) (ws' := fun _ => (wX ad cI cZ acc net a9 n9 flo bnd frm too amt pri wai byp ldr bor due plg clo pap cnd small price cut proc (nI mk) (nI lm) (nI le))) (c_X0_allow l sa D cI cZ cL ad acc net a9 n9 flo bnd frm too amt pri wai byp ldr bor due plg clo pap cnd small price cut proc mk lm le  ) (cwV 1 C.2.2.2.2.1 gX4_canGoTogether_X0_allow rfl rfl rfl (by decide +kernel) ⟨Nat.le_of_ble_eq_true rfl, Nat.le_of_ble_eq_true rfl⟩) 3 rfl rfl rfl (fun _ => zSub.full) zIn.full rfl (Nat.le_of_ble_eq_true rfl) ⟨Nat.le_of_ble_eq_true rfl, Nat.le_of_ble_eq_true rfl⟩ dX4_canGoTogether_69 (fun r_9 _ h_10 => ?_)
          obtain rfl : r_9 = 0 := h_10.trans (if_neg hp_6)
          exact z_zret C (a9, n9) (by rw [okS_some (n := mk) (tacc := tacc) (tnet := tnet) (r := (a9, n9)) hfrm htoo hcn (by rw [show c9 = i by omega]; exact hgo)]; simp [hp_6]) rfl (by decide) (by decide) (by decide) dX4_canGoTogether_72
      · skip
        have n_11 : ¬ c9 ≤ i := fun q => c15_4 ((nI_leI (a := c9) (b := i) (by omega) (by omega)).mpr q)
        refine z_iload_n C dX4_canGoTogether_18 rfl 1 rfl ?_
        refine z_iload_n C dX4_canGoTogether_19 rfl 3 rfl ?_
        refine z_case (S.testBit i = true) (fun hp_12 => ?_) (fun hp_12 => ?_)
        · skip
          refine z_callSi C (T := Unit) (As := [.int (nI S), .int (nI i)]) (rest := []) (ws' := fun _ => (wX ad cI cZ acc net a9 n9 flo bnd frm too amt pri wai byp ldr bor due plg clo pap cnd small price cut proc (nI mk) (nI lm) (nI le))) (c_X4_isIn l sa D cI cZ cL  S i (by first | assumption | omega) (by first | assumption | omega)) (va_cwS 2 C.2.2.2.2.1 gX4_canGoTogether_X4_isIn rfl rfl rfl (by decide +kernel) ⟨Nat.le_of_ble_eq_true rfl, Nat.le_of_ble_eq_true rfl⟩) (fun _ => zSub.none) zIn.none rfl (Nat.le_of_ble_eq_true rfl) ⟨Nat.le_of_ble_eq_true rfl, Nat.le_of_ble_eq_true rfl⟩ dX4_canGoTogether_20 (fun r_13 _ h_14 => ?_)
          obtain rfl : r_13 = 1 := h_14.trans (if_pos hp_12)
          refine z_if_eq C (tgt := 55) dX4_canGoTogether_23 (by decide) (fun h => absurd h (by decide)) (fun _ => ?_)
          refine z_aload_n C dX4_canGoTogether_26 rfl 0 rfl ?_
          refine z_get C 0 rfl i_X4_canGoTogether_X4 rfl 7 (by decide) m_X4_canGoTogether_f48 rfl rfl dX4_canGoTogether_27 ?_
          refine z_iload_n C dX4_canGoTogether_30 rfl 3 rfl ?_
          rcases hq_15 : cn i with _ | p_16
          · skip
            refine z_iald C 24 0 rfl rfl i (nI_clamp (by omega)) (vp_in_nI (by omega) (by omega)) (-1) ((hcnd i (by omega)).trans (by rw [hq_15]; rfl)) dX4_canGoTogether_31 ?_
            refine z_iconst C (v := (-1)) dX4_canGoTogether_32 (by decide) ?_
            refine z_icmp_ne C (tgt := 38) dX4_canGoTogether_33 (by decide) (fun h => absurd h (by decide)) (fun _ => ?_)
            refine z_iconst C (v := 0) dX4_canGoTogether_36 (by decide) ?_
            exact z_zret C (a9, n9) (by rw [okS_none (n := mk) (tacc := tacc) (tnet := tnet) (k := i + 1) hfrm htoo hcn (by omega) (goS_bit hp_12 hq_15)]; rfl) rfl (by decide) (by decide) (by decide) dX4_canGoTogether_37
          · skip
            have := hcn _ _ hq_15
            refine z_iald C 24 0 rfl rfl i (nI_clamp (by omega)) (vp_in_nI (by omega) (by omega)) (nI p_16) ((hcnd i (by omega)).trans (by rw [hq_15]; rfl)) dX4_canGoTogether_31 ?_
            refine z_iconst C (v := (-1)) dX4_canGoTogether_32 (by decide) ?_
            refine z_icmp_ne C (tgt := 38) dX4_canGoTogether_33 (by decide) (fun _ => ?_) (fun h => absurd h (nI_m1 (by omega)))
            refine z_aload_n C dX4_canGoTogether_38 rfl 0 rfl ?_
            refine z_get C 0 rfl i_X4_canGoTogether_X4 rfl 3 (by decide) m_X4_canGoTogether_f29 rfl rfl dX4_canGoTogether_39 ?_
            refine z_aload_n C dX4_canGoTogether_42 rfl 0 rfl ?_
            refine z_get C 0 rfl i_X4_canGoTogether_X4 rfl 7 (by decide) m_X4_canGoTogether_f48 rfl rfl dX4_canGoTogether_43 ?_
            refine z_iload_n C dX4_canGoTogether_46 rfl 3 rfl ?_
            refine z_iald C 24 0 rfl rfl i (nI_clamp (by omega)) (vp_in_nI (by omega) (by omega)) (nI p_16) ((hcnd i (by omega)).trans (by rw [hq_15]; rfl)) dX4_canGoTogether_47 ?_
            refine z_aload_n C dX4_canGoTogether_48 rfl 0 rfl ?_
            refine z_get C 0 rfl i_X4_canGoTogether_X4 rfl 1 (by decide) m_X4_canGoTogether_f16 rfl rfl dX4_canGoTogether_49 ?_
            refine z_callVv C (T := Unit) (As := [.int (nI p_16), .ref (ad 2)]) (rest := []) (ws' := fun _ => (wX ad cI cZ acc net (mvA (ix (frm p_16)) (ix (too p_16)) (amt p_16) a9) (mvN (ix (frm p_16)) (ix (too p_16)) (amt p_16) n9) flo bnd frm too amt pri wai byp ldr bor due plg clo pap cnd small price cut proc (nI mk) (nI lm) (nI le))) (c_X2_apply l sa D cI cZ cL (ad 4) (ad 12) (ad 13) (ad 14) (ad 15) (ad 16) (ad 17) frm too amt (nI mk) (ad 2) (ad 8) (ad 9) a9 n9 p_16 mk (by first | assumption | omega) (by first | assumption | omega) (by first | assumption | omega) (by first | assumption | omega)) (cwV 2 C.2.2.2.2.1 gX4_canGoTogether_X2_apply rfl rfl rfl (by decide +kernel) ⟨Nat.le_of_ble_eq_true rfl, Nat.le_of_ble_eq_true rfl⟩) 4 rfl rfl rfl (fun _ => (zSub.of (wr := [((ad 0), .inr (4, [.ref (ad 1), .ref (ad 2), .ref (ad 3), .ref (ad 4), .ref (ad 5), .ref (ad 22), .ref (ad 23), .ref (ad 24), .int small, .int price, .int cut, .int proc])), ((ad 1), .inr (3, [.ref (ad 6), .ref (ad 7)])), ((ad 3), .inr (0, [.ref (ad 10), .ref (ad 11)])), ((ad 5), .inr (1, [.ref (ad 18), .ref (ad 19), .ref (ad 20), .ref (ad 21), .int (nI lm), .int (nI le)])), ((ad 6), .inl (cI, 5, .inl acc)), ((ad 7), .inl (cI, 25, .inl net)), ((ad 10), .inl (cI, 5, .inl flo)), ((ad 11), .inl (cI, 25, .inl bnd)), ((ad 15), .inl (cI, 60, .inl pri)), ((ad 16), .inl (cZ, 60, .inl wai)), ((ad 17), .inl (cI, 60, .inl byp)), ((ad 18), .inl (cI, 40, .inl ldr)), ((ad 19), .inl (cI, 40, .inl bor)), ((ad 20), .inl (cI, 40, .inl due)), ((ad 21), .inl (cI, 40, .inl plg)), ((ad 22), .inl (cZ, 5, .inl clo)), ((ad 23), .inl (cI, 5, .inl pap)), ((ad 24), .inl (cI, 10, .inl cnd))]) [4, 12, 13, 14, 2, 8, 9] [0, 1, 3, 5, 6, 7, 10, 11, 15, 16, 17, 18, 19, 20, 21, 22, 23, 24] [0, 1, 22, 2, 18, 3, 4, 5, 23, 24, 6, 7, 19, 20, 21, 8, 9, 10, 11, 12, 13, 14, 15, 16, 17] rfl rfl rfl rfl (by decide) rfl rfl)) (zIn.of [4, 12, 13, 14, 2, 8, 9] rfl rfl) rfl (Nat.le_of_ble_eq_true rfl) ⟨Nat.le_of_ble_eq_true rfl, Nat.le_of_ble_eq_true rfl⟩ dX4_canGoTogether_52 (fun _ _ => ?_)
            refine z_iinc C (v := (nI (i + 1))) dX4_canGoTogether_55 3 rfl (nI_add i 1) (by decide) [(0, .ref (ad 0)), (1, .int (nI S)), (2, .int (nI c9)), (3, .int (nI (i + 1)))] [1, 2, 3, 0] rfl ?_
            refine z_goto C (tgt := 13) dX4_canGoTogether_58 (by decide) ?_
            exact ih_2 (i + 1) (mvA (ix (frm p_16)) (ix (too p_16)) (amt p_16) a9) (mvN (ix (frm p_16)) (ix (too p_16)) (amt p_16) n9) (by omega) (by first | assumption | omega) (by simp only [goS, hgo, c15_4, n_11, hp_12, hq_15]; rfl)
        · skip
          refine z_callSi C (T := Unit) (As := [.int (nI S), .int (nI i)]) (rest := []) (ws' := fun _ => (wX ad cI cZ acc net a9 n9 flo bnd frm too amt pri wai byp ldr bor due plg clo pap cnd small price cut proc (nI mk) (nI lm) (nI le))) (c_X4_isIn l sa D cI cZ cL  S i (by first | assumption | omega) (by first | assumption | omega)) (va_cwS 2 C.2.2.2.2.1 gX4_canGoTogether_X4_isIn rfl rfl rfl (by decide +kernel) ⟨Nat.le_of_ble_eq_true rfl, Nat.le_of_ble_eq_true rfl⟩) (fun _ => zSub.none) zIn.none rfl (Nat.le_of_ble_eq_true rfl) ⟨Nat.le_of_ble_eq_true rfl, Nat.le_of_ble_eq_true rfl⟩ dX4_canGoTogether_20 (fun r_17 _ h_18 => ?_)
          obtain rfl : r_17 = 0 := h_18.trans (if_neg hp_12)
          refine z_if_eq C (tgt := 55) dX4_canGoTogether_23 (by decide) (fun _ => ?_) (fun h => absurd h (by decide))
          refine z_iinc C (v := (nI (i + 1))) dX4_canGoTogether_55 3 rfl (nI_add i 1) (by decide) [(0, .ref (ad 0)), (1, .int (nI S)), (2, .int (nI c9)), (3, .int (nI (i + 1)))] [1, 2, 3, 0] rfl ?_
          refine z_goto C (tgt := 13) dX4_canGoTogether_58 (by decide) ?_
          exact ih_2 (i + 1) a9 n9 (by omega) (by first | assumption | omega) (by simp only [goS, hgo, c15_4, n_11, hp_12]; rfl)
  refine z_lveq [(0, .ref (ad 0)), (1, .int (nI S)), (2, .int (nI c9)), (3, .int (nI 0))] (by rfl) ?_
  exact L13_k_1 (c9 - 0 + 1) 0 (cpA acc tacc) (cpN net tnet) (Nat.lt_succ_self _) (by first | assumption | omega) (by rfl)
set_option maxHeartbeats 4000000 in
set_option maxRecDepth 100000 in
theorem c_X4_listWaiting (l : Launch) (sa : Nat → Nat) (D : va_G) (cI cZ cL : ClassId) (ad : Nat → Nat) (acc net tacc tnet flo bnd frm too amt pri wai byp ldr bor due plg clo pap cnd : Nat → Int32) (small price cut proc : Int32) (mk lm le : Nat)  (hmk : mk ≤ 60) (hwl : (wlL wai mk).length ≤ 10) : zMi (T := Nat → Int32) sa D vwCl (zty cI cZ cL) l yX4_listWaiting wsX4_listWaiting ({ frames := 0, cells := 0, slots := 0, locals := 0 } : Room) [.ref (ad 0)] (wX ad cI cZ acc net tacc tnet flo bnd frm too amt pri wai byp ldr bor due plg clo pap cnd small price cut proc (nI mk) (nI lm) (nI le)) (fun r9 u => r9 = (nI ((wlL wai mk).length)) ∧ ∀ k, k < (wlL wai mk).length → u k = oI (wlL wai mk)[k]?) (fun u => (wX ad cI cZ acc net tacc tnet flo bnd frm too amt pri wai byp ldr bor due plg clo pap u small price cut proc (nI mk) (nI lm) (nI le))) 0 0 := by
  refine zMi.of (ret := (some .int)) (cc := cX4_listWaiting) (nL := 3) (own := RX4) (by decide +kernel) rfl [(0, .ref (ad 0))] rfl (Nat.le_of_ble_eq_true rfl) rfl ?_
  intro A p e s m args below meth c C hmn
  refine z_iconst C (v := 0) dX4_listWaiting_0 (by decide) ?_
  refine z_istore_n C dX4_listWaiting_1 rfl (by decide) [(0, .ref (ad 0)), (1, .int 0)] [1, 0] rfl ?_
  refine z_iconst C (v := 0) dX4_listWaiting_2 (by decide) ?_
  refine z_istore_n C dX4_listWaiting_3 rfl (by decide) [(0, .ref (ad 0)), (1, .int 0), (2, .int 0)] [1, 2, 0] rfl ?_
  have L4_k_1 : ∀ (n : Nat) (c9 i : Nat) (cn9 : Nat → Int32), mk - i < n → (i ≤ mk) → (c9 ≤ 10) → (c9 = (wlL wai i).length) → (∀ k, k < (wlL wai i).length → cn9 k = oI (wlL wai i)[k]?) → zW 0 p l e ({ frames := 0, cells := 0, slots := 0, locals := 0 } : Room) s m args below meth c (MQ below (zQi (T := Nat → Int32) D vwCl (zty cI cZ cL) A (fun r9 u => r9 = (nI ((wlL wai mk).length)) ∧ ∀ k, k < (wlL wai mk).length → u k = oI (wlL wai mk)[k]?) (fun u => (wX ad cI cZ acc net tacc tnet flo bnd frm too amt pri wai byp ldr bor due plg clo pap u small price cut proc (nI mk) (nI lm) (nI le)))) args s 0 0 A) D vwCl A 3 0 0 (wX ad cI cZ acc net tacc tnet flo bnd frm too amt pri wai byp ldr bor due plg clo pap cn9 small price cut proc (nI mk) (nI lm) (nI le)) [(0, .ref (ad 0)), (1, .int (nI c9)), (2, .int (nI i))] 4 [] := by
    intro n
    induction n with
    | zero => intros; omega
    | succ n ih_2 =>
      intro c9 i cn9 hm_3 hi hc10 hc9 hcn
      refine z_iload_n C dX4_listWaiting_4 rfl 2 rfl ?_
      refine z_aload_n C dX4_listWaiting_5 rfl 0 rfl ?_
      refine z_get C 0 rfl i_X4_listWaiting_X4 rfl 3 (by decide) m_X4_listWaiting_f29 rfl rfl dX4_listWaiting_6 ?_
      refine z_get C 4 rfl i_X4_listWaiting_X2 rfl 6 (by decide) m_X4_listWaiting_f113 rfl rfl dX4_listWaiting_9 ?_
      refine z_icmp_ge C (tgt := 49) dX4_listWaiting_12 (by decide) (fun c12_4 => ?_) (fun c12_4 => ?_)
      · skip
        have n_5 : mk ≤ i := (nI_leI (a := mk) (b := i) (by omega) (by omega)).mp c12_4
        refine z_iload_n C dX4_listWaiting_49 rfl 1 rfl ?_
        exact z_iret C cn9 (by have e9 : wlL wai mk = wlL wai i := wlL_full (by omega) (by first | omega | (rw [show i = mk by omega]; exact Nat.le_refl _)); exact ⟨by rw [e9, hc9], by rw [e9]; exact hcn⟩) rfl (by decide) (by decide) dX4_listWaiting_50
      · skip
        have n_6 : ¬ mk ≤ i := fun q => c12_4 ((nI_leI (a := mk) (b := i) (by omega) (by omega)).mpr q)
        refine z_iload_n C dX4_listWaiting_15 rfl 1 rfl ?_
        refine z_bipush C (v := 10) dX4_listWaiting_16 (by decide) ?_
        refine z_icmp_ge C (tgt := 49) dX4_listWaiting_18 (by decide) (fun c18_7 => ?_) (fun c18_7 => ?_)
        · skip
          have n_8 : 10 ≤ c9 := (nI_leI (a := 10) (b := c9) (by omega) (by omega)).mp c18_7
          refine z_iload_n C dX4_listWaiting_49 rfl 1 rfl ?_
          exact z_iret C cn9 (by have e9 : wlL wai mk = wlL wai i := wlL_full (by omega) (by first | omega | (rw [show i = mk by omega]; exact Nat.le_refl _)); exact ⟨by rw [e9, hc9], by rw [e9]; exact hcn⟩) rfl (by decide) (by decide) dX4_listWaiting_50
        · skip
          have n_9 : ¬ 10 ≤ c9 := fun q => c18_7 ((nI_leI (a := 10) (b := c9) (by omega) (by omega)).mpr q)
          refine z_aload_n C dX4_listWaiting_21 rfl 0 rfl ?_
          refine z_get C 0 rfl i_X4_listWaiting_X4 rfl 3 (by decide) m_X4_listWaiting_f29 rfl rfl dX4_listWaiting_22 ?_
          refine z_get C 4 rfl i_X4_listWaiting_X2 rfl 4 (by decide) m_X4_listWaiting_f125 rfl rfl dX4_listWaiting_25 ?_
          refine z_iload_n C dX4_listWaiting_28 rfl 2 rfl ?_
          refine z_zald C 16 1 rfl rfl i (nI_clamp (by omega)) (vp_in_nI (by omega) (by omega)) (wai i) rfl dX4_listWaiting_29 ?_
          refine z_if_eq C (tgt := 43) dX4_listWaiting_30 (by decide) (fun c30_10 => ?_) (fun c30_10 => ?_)
          · skip
            refine z_iinc C (v := (nI (i + 1))) dX4_listWaiting_43 2 rfl (nI_add i 1) (by decide) [(0, .ref (ad 0)), (1, .int (nI c9)), (2, .int (nI (i + 1)))] [1, 2, 0] rfl ?_
            refine z_goto C (tgt := 4) dX4_listWaiting_46 (by decide) ?_
            exact ih_2 c9 (i + 1) cn9 (by omega) (by first | assumption | omega) (by first | assumption | omega) (by first | (rw [wlL_y (by assumption), List.length_append, List.length_singleton]; omega) | (rw [wlL_n (by assumption)]; omega)) (by first | (rw [wlL_y (by assumption), hc9]; exact cn_step hcn) | (rw [wlL_n (by assumption)]; exact hcn))
          · skip
            refine z_aload_n C dX4_listWaiting_33 rfl 0 rfl ?_
            refine z_get C 0 rfl i_X4_listWaiting_X4 rfl 7 (by decide) m_X4_listWaiting_f48 rfl rfl dX4_listWaiting_34 ?_
            refine z_iload_n C dX4_listWaiting_37 rfl 1 rfl ?_
            refine z_iload_n C dX4_listWaiting_38 rfl 2 rfl ?_
            refine z_iast C 24 0 rfl rfl c9 (nI_clamp (by omega)) (vp_in_nI (by omega) (by omega)) (nI i) rfl dX4_listWaiting_39 (wX ad cI cZ acc net tacc tnet flo bnd frm too amt pri wai byp ldr bor due plg clo pap (upd cn9 c9 (nI i)) small price cut proc (nI mk) (nI lm) (nI le)) rfl ?_
            refine z_iinc C (v := (nI (c9 + 1))) dX4_listWaiting_40 1 rfl (nI_add c9 1) (by decide) [(0, .ref (ad 0)), (1, .int (nI (c9 + 1))), (2, .int (nI i))] [1, 0, 2] rfl ?_
            refine z_iinc C (v := (nI (i + 1))) dX4_listWaiting_43 2 rfl (nI_add i 1) (by decide) [(0, .ref (ad 0)), (1, .int (nI (c9 + 1))), (2, .int (nI (i + 1)))] [1, 2, 0] rfl ?_
            refine z_goto C (tgt := 4) dX4_listWaiting_46 (by decide) ?_
            exact ih_2 (c9 + 1) (i + 1) (upd cn9 c9 (nI i)) (by omega) (by first | assumption | omega) (by first | assumption | omega) (by first | (rw [wlL_y (by assumption), List.length_append, List.length_singleton]; omega) | (rw [wlL_n (by assumption)]; omega)) (by first | (rw [wlL_y (by assumption), hc9]; exact cn_step hcn) | (rw [wlL_n (by assumption)]; exact hcn))
  refine z_lveq [(0, .ref (ad 0)), (1, .int (nI 0)), (2, .int (nI 0))] (by rfl) ?_
  exact L4_k_1 (mk - 0 + 1) 0 0 cnd (Nat.lt_succ_self _) (by first | assumption | omega) (by first | assumption | omega) (by rfl) (by intro k hk; exact absurd hk (Nat.not_lt_zero k))
