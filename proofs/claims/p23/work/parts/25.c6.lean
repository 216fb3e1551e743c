theorem m_X4_account_f10 : Cond.fieldLink RX4 10 "Queuefloat" "sums" "LQueuefloat$Sums;" ∈ wsX4_account := by decide +kernel
theorem i_X4_account_X4 : ∀ w ∈ wsX40, w ∈ wsX4_account := by decide +kernel
theorem m_X4_account_f73 : Cond.fieldLink RX4 73 "Queuefloat$Sums" "accountOf" "[I" ∈ wsX4_account := by decide +kernel
theorem i_X4_account_X3 : ∀ w ∈ wsX30, w ∈ wsX4_account := by decide +kernel
theorem m_X4_papers_f44 : Cond.fieldLink RX4 44 "Queuefloat" "papersOf" "[I" ∈ wsX4_papers := by decide +kernel
theorem i_X4_papers_X4 : ∀ w ∈ wsX40, w ∈ wsX4_papers := by decide +kernel
theorem m_X4_isOpen_f40 : Cond.fieldLink RX4 40 "Queuefloat" "closed" "[Z" ∈ wsX4_isOpen := by decide +kernel
theorem i_X4_isOpen_X4 : ∀ w ∈ wsX40, w ∈ wsX4_isOpen := by decide +kernel
theorem m_X4_paid_f10 : Cond.fieldLink RX4 10 "Queuefloat" "sums" "LQueuefloat$Sums;" ∈ wsX4_paid := by decide +kernel
theorem i_X4_paid_X4 : ∀ w ∈ wsX40, w ∈ wsX4_paid := by decide +kernel
theorem m_X4_paid_f101 : Cond.fieldLink RX4 101 "Queuefloat$Sums" "netPaid" "[I" ∈ wsX4_paid := by decide +kernel
theorem i_X4_paid_X3 : ∀ w ∈ wsX30, w ∈ wsX4_paid := by decide +kernel
theorem m_X4_queued_f29 : Cond.fieldLink RX4 29 "Queuefloat" "payments" "LQueuefloat$Payments;" ∈ wsX4_queued := by decide +kernel
theorem i_X4_queued_X4 : ∀ w ∈ wsX40, w ∈ wsX4_queued := by decide +kernel
theorem x_X4_queued_8_1 : ∀ w ∈ (vx_atS RX4 144 "java/lang/IndexOutOfBoundsException" ["java/lang/RuntimeException", "java/lang/Exception"]).filter goodWord, w ∈ wsX4_queued := by decide +kernel
theorem x_X4_queued_8_2 : ∀ w ∈ (vx_atS RX4 144 "java/lang/IndexOutOfBoundsException" ["java/lang/RuntimeException", "java/lang/Exception"]).filter (fun w => !goodWord w), w = .castable "java/lang/IndexOutOfBoundsException" "java/lang/IndexOutOfBoundsException" ∨ w ∈ zDs.map Cond.declares := by decide +kernel
theorem x_X4_queued_8_3 : ∀ w ∈ Cond.classLink RX4 140 "java/lang/IndexOutOfBoundsException" :: Cond.initialized "java/lang/IndexOutOfBoundsException" :: vx_atS RX4 144 "java/lang/IndexOutOfBoundsException" ["java/lang/RuntimeException", "java/lang/Exception"], vx_ot w = true := by decide +kernel
theorem m_X4_queued_c140 : Cond.classLink RX4 140 "java/lang/IndexOutOfBoundsException" ∈ wsX4_queued := by decide +kernel
theorem m_X4_queued_n140 : Cond.initialized "java/lang/IndexOutOfBoundsException" ∈ wsX4_queued := by decide +kernel
theorem m_X4_canAny_f29 : Cond.fieldLink RX4 29 "Queuefloat" "payments" "LQueuefloat$Payments;" ∈ wsX4_canAny := by decide +kernel
theorem i_X4_canAny_X4 : ∀ w ∈ wsX40, w ∈ wsX4_canAny := by decide +kernel
theorem x_X4_canAny_12_1 : ∀ w ∈ (vx_atS RX4 81 "java/lang/IllegalStateException" ["java/lang/RuntimeException", "java/lang/Exception"]).filter goodWord, w ∈ wsX4_canAny := by decide +kernel
theorem x_X4_canAny_12_2 : ∀ w ∈ (vx_atS RX4 81 "java/lang/IllegalStateException" ["java/lang/RuntimeException", "java/lang/Exception"]).filter (fun w => !goodWord w), w = .castable "java/lang/IllegalStateException" "java/lang/IllegalStateException" ∨ w ∈ zDs.map Cond.declares := by decide +kernel
theorem x_X4_canAny_12_3 : ∀ w ∈ Cond.classLink RX4 77 "java/lang/IllegalStateException" :: Cond.initialized "java/lang/IllegalStateException" :: vx_atS RX4 81 "java/lang/IllegalStateException" ["java/lang/RuntimeException", "java/lang/Exception"], vx_ot w = true := by decide +kernel
set_option maxHeartbeats 4000000 in
set_option maxRecDepth 100000 in
theorem c_X4_fund_b1 (l : Launch) (hfl : l.stackTraces = false) (sa : Nat → Nat) (D : va_G) (cI cZ cL : ClassId) (ad : Nat → Nat) (acc net tacc tnet flo bnd frm too amt pri wai byp ldr bor due plg clo pap cnd : Nat → Int32) (small price cut proc : Int32) (mk lm le : Nat) (b : Int32) (c9 : Int32) (hb : b < 0 ∨ 5 ≤ b) : zX sa D vwCl (zty cI cZ cL) l yX4_fund wsX4_fund ({ frames := 7, cells := 1, slots := 6, locals := 102 } : Room) [.ref (ad 0), .int b, .int c9] (wX ad cI cZ acc net tacc tnet flo bnd frm too amt pri wai byp ldr bor due plg clo pap cnd small price cut proc (nI mk) (nI lm) (nI le)) "java/lang/IndexOutOfBoundsException" 1 6 := by
  refine zX.of (ret := (some .int)) (cc := cX4_fund) (nL := 3) (own := RX4) (by decide +kernel) rfl [(0, .ref (ad 0)), (1, .int b), (2, .int c9)] rfl (Nat.le_of_ble_eq_true rfl) rfl ?_
  intro A p e s m args below meth c C hmn ht
  refine z_iload_n C dX4_fund_0 rfl 1 rfl ?_
  refine z_callSx C (As := [.int b]) (rest := []) (bad_requireBank l hfl sa D cI cZ cL  b (by first | assumption | omega)) (va_cwS 1 C.2.2.2.2.1 gX4_fund_X4_requireBank rfl rfl rfl (by decide +kernel) ⟨Nat.le_of_ble_eq_true rfl, Nat.le_of_ble_eq_true rfl⟩) zSub.none rfl (Nat.le_of_ble_eq_true rfl) ⟨Nat.le_of_ble_eq_true rfl, Nat.le_of_ble_eq_true rfl⟩ dX4_fund_1 ?_
  exact z_out C ht (by decide) (by decide)
set_option maxHeartbeats 4000000 in
set_option maxRecDepth 100000 in
theorem c_X4_account_ok (l : Launch) (sa : Nat → Nat) (D : va_G) (cI cZ cL : ClassId) (ad : Nat → Nat) (acc net tacc tnet flo bnd frm too amt pri wai byp ldr bor due plg clo pap cnd : Nat → Int32) (small price cut proc : Int32) (mk lm le : Nat) (b : Nat) (hb : b < 5) : zMi (T := Unit) sa D vwCl (zty cI cZ cL) l yX4_account wsX4_account ({ frames := 7, cells := 0, slots := 0, locals := 102 } : Room) [.ref (ad 0), .int (nI b)] (wX ad cI cZ acc net tacc tnet flo bnd frm too amt pri wai byp ldr bor due plg clo pap cnd small price cut proc (nI mk) (nI lm) (nI le)) (fun r9 _ => r9 = (acc b)) (fun _ => (wX ad cI cZ acc net tacc tnet flo bnd frm too amt pri wai byp ldr bor due plg clo pap cnd small price cut proc (nI mk) (nI lm) (nI le))) 0 0 := by
  refine zMi.of (ret := (some .int)) (cc := cX4_account) (nL := 2) (own := RX4) (by decide +kernel) rfl [(0, .ref (ad 0)), (1, .int (nI b))] rfl (Nat.le_of_ble_eq_true rfl) rfl ?_
  intro A p e s m args below meth c C hmn
  refine z_iload_n C dX4_account_0 rfl 1 rfl ?_
  refine z_callSv C (T := Unit) (As := [.int (nI b)]) (rest := []) (ws' := fun _ => (wX ad cI cZ acc net tacc tnet flo bnd frm too amt pri wai byp ldr bor due plg clo pap cnd small price cut proc (nI mk) (nI lm) (nI le))) (ok_requireBank l sa D cI cZ cL  b (by first | assumption | omega)) (va_cwS 1 C.2.2.2.2.1 gX4_account_X4_requireBank rfl rfl rfl (by decide +kernel) ⟨Nat.le_of_ble_eq_true rfl, Nat.le_of_ble_eq_true rfl⟩) (fun _ => zSub.none) zIn.none rfl (Nat.le_of_ble_eq_true rfl) ⟨Nat.le_of_ble_eq_true rfl, Nat.le_of_ble_eq_true rfl⟩ dX4_account_1 (fun _ _ => ?_)
  refine z_aload_n C dX4_account_4 rfl 0 rfl ?_
  refine z_get C 0 rfl i_X4_account_X4 rfl 0 (by decide) m_X4_account_f10 rfl rfl dX4_account_5 ?_
  refine z_get C 1 rfl i_X4_account_X3 rfl 0 (by decide) m_X4_account_f73 rfl rfl dX4_account_8 ?_
  refine z_iload_n C dX4_account_11 rfl 1 rfl ?_
  refine z_iald C 6 0 rfl rfl b (nI_clamp (by omega)) (vp_in_nI (by omega) (by omega)) (acc b) rfl dX4_account_12 ?_
  exact z_iret C () rfl rfl (by decide) (by decide) dX4_account_13
set_option maxHeartbeats 4000000 in
set_option maxRecDepth 100000 in
theorem c_X4_account_b1 (l : Launch) (hfl : l.stackTraces = false) (sa : Nat → Nat) (D : va_G) (cI cZ cL : ClassId) (ad : Nat → Nat) (acc net tacc tnet flo bnd frm too amt pri wai byp ldr bor due plg clo pap cnd : Nat → Int32) (small price cut proc : Int32) (mk lm le : Nat) (b : Int32) (hb : b < 0 ∨ 5 ≤ b) : zX sa D vwCl (zty cI cZ cL) l yX4_account wsX4_account ({ frames := 7, cells := 1, slots := 6, locals := 102 } : Room) [.ref (ad 0), .int b] (wX ad cI cZ acc net tacc tnet flo bnd frm too amt pri wai byp ldr bor due plg clo pap cnd small price cut proc (nI mk) (nI lm) (nI le)) "java/lang/IndexOutOfBoundsException" 1 6 := by
  refine zX.of (ret := (some .int)) (cc := cX4_account) (nL := 2) (own := RX4) (by decide +kernel) rfl [(0, .ref (ad 0)), (1, .int b)] rfl (Nat.le_of_ble_eq_true rfl) rfl ?_
  intro A p e s m args below meth c C hmn ht
  refine z_iload_n C dX4_account_0 rfl 1 rfl ?_
  refine z_callSx C (As := [.int b]) (rest := []) (bad_requireBank l hfl sa D cI cZ cL  b (by first | assumption | omega)) (va_cwS 1 C.2.2.2.2.1 gX4_account_X4_requireBank rfl rfl rfl (by decide +kernel) ⟨Nat.le_of_ble_eq_true rfl, Nat.le_of_ble_eq_true rfl⟩) zSub.none rfl (Nat.le_of_ble_eq_true rfl) ⟨Nat.le_of_ble_eq_true rfl, Nat.le_of_ble_eq_true rfl⟩ dX4_account_1 ?_
  exact z_out C ht (by decide) (by decide)
set_option maxHeartbeats 4000000 in
set_option maxRecDepth 100000 in
theorem c_X4_papers_ok (l : Launch) (sa : Nat → Nat) (D : va_G) (cI cZ cL : ClassId) (ad : Nat → Nat) (acc net tacc tnet flo bnd frm too amt pri wai byp ldr bor due plg clo pap cnd : Nat → Int32) (small price cut proc : Int32) (mk lm le : Nat) (b : Nat) (hb : b < 5) : zMi (T := Unit) sa D vwCl (zty cI cZ cL) l yX4_papers wsX4_papers ({ frames := 7, cells := 0, slots := 0, locals := 102 } : Room) [.ref (ad 0), .int (nI b)] (wX ad cI cZ acc net tacc tnet flo bnd frm too amt pri wai byp ldr bor due plg clo pap cnd small price cut proc (nI mk) (nI lm) (nI le)) (fun r9 _ => r9 = (pap b)) (fun _ => (wX ad cI cZ acc net tacc tnet flo bnd frm too amt pri wai byp ldr bor due plg clo pap cnd small price cut proc (nI mk) (nI lm) (nI le))) 0 0 := by
  refine zMi.of (ret := (some .int)) (cc := cX4_papers) (nL := 2) (own := RX4) (by decide +kernel) rfl [(0, .ref (ad 0)), (1, .int (nI b))] rfl (Nat.le_of_ble_eq_true rfl) rfl ?_
  intro A p e s m args below meth c C hmn
  refine z_iload_n C dX4_papers_0 rfl 1 rfl ?_
  refine z_callSv C (T := Unit) (As := [.int (nI b)]) (rest := []) (ws' := fun _ => (wX ad cI cZ acc net tacc tnet flo bnd frm too amt pri wai byp ldr bor due plg clo pap cnd small price cut proc (nI mk) (nI lm) (nI le))) (ok_requireBank l sa D cI cZ cL  b (by first | assumption | omega)) (va_cwS 1 C.2.2.2.2.1 gX4_papers_X4_requireBank rfl rfl rfl (by decide +kernel) ⟨Nat.le_of_ble_eq_true rfl, Nat.le_of_ble_eq_true rfl⟩) (fun _ => zSub.none) zIn.none rfl (Nat.le_of_ble_eq_true rfl) ⟨Nat.le_of_ble_eq_true rfl, Nat.le_of_ble_eq_true rfl⟩ dX4_papers_1 (fun _ _ => ?_)
  refine z_aload_n C dX4_papers_4 rfl 0 rfl ?_
  refine z_get C 0 rfl i_X4_papers_X4 rfl 6 (by decide) m_X4_papers_f44 rfl rfl dX4_papers_5 ?_
  refine z_iload_n C dX4_papers_8 rfl 1 rfl ?_
  refine z_iald C 23 0 rfl rfl b (nI_clamp (by omega)) (vp_in_nI (by omega) (by omega)) (pap b) rfl dX4_papers_9 ?_
  exact z_iret C () rfl rfl (by decide) (by decide) dX4_papers_10
set_option maxHeartbeats 4000000 in
set_option maxRecDepth 100000 in
theorem c_X4_papers_b1 (l : Launch) (hfl : l.stackTraces = false) (sa : Nat → Nat) (D : va_G) (cI cZ cL : ClassId) (ad : Nat → Nat) (acc net tacc tnet flo bnd frm too amt pri wai byp ldr bor due plg clo pap cnd : Nat → Int32) (small price cut proc : Int32) (mk lm le : Nat) (b : Int32) (hb : b < 0 ∨ 5 ≤ b) : zX sa D vwCl (zty cI cZ cL) l yX4_papers wsX4_papers ({ frames := 7, cells := 1, slots := 6, locals := 102 } : Room) [.ref (ad 0), .int b] (wX ad cI cZ acc net tacc tnet flo bnd frm too amt pri wai byp ldr bor due plg clo pap cnd small price cut proc (nI mk) (nI lm) (nI le)) "java/lang/IndexOutOfBoundsException" 1 6 := by
  refine zX.of (ret := (some .int)) (cc := cX4_papers) (nL := 2) (own := RX4) (by decide +kernel) rfl [(0, .ref (ad 0)), (1, .int b)] rfl (Nat.le_of_ble_eq_true rfl) rfl ?_
  intro A p e s m args below meth c C hmn ht
  refine z_iload_n C dX4_papers_0 rfl 1 rfl ?_
  refine z_callSx C (As := [.int b]) (rest := []) (bad_requireBank l hfl sa D cI cZ cL  b (by first | assumption | omega)) (va_cwS 1 C.2.2.2.2.1 gX4_papers_X4_requireBank rfl rfl rfl (by decide +kernel) ⟨Nat.le_of_ble_eq_true rfl, Nat.le_of_ble_eq_true rfl⟩) zSub.none rfl (Nat.le_of_ble_eq_true rfl) ⟨Nat.le_of_ble_eq_true rfl, Nat.le_of_ble_eq_true rfl⟩ dX4_papers_1 ?_
  exact z_out C ht (by decide) (by decide)
set_option maxHeartbeats 4000000 in
set_option maxRecDepth 100000 in
theorem c_X4_isOpen_ok (l : Launch) (sa : Nat → Nat) (D : va_G) (cI cZ cL : ClassId) (ad : Nat → Nat) (acc net tacc tnet flo bnd frm too amt pri wai byp ldr bor due plg clo pap cnd : Nat → Int32) (small price cut proc : Int32) (mk lm le : Nat) (b : Nat) (hb : b < 5) : zMi (T := Unit) sa D vwCl (zty cI cZ cL) l yX4_isOpen wsX4_isOpen ({ frames := 7, cells := 0, slots := 0, locals := 102 } : Room) [.ref (ad 0), .int (nI b)] (wX ad cI cZ acc net tacc tnet flo bnd frm too amt pri wai byp ldr bor due plg clo pap cnd small price cut proc (nI mk) (nI lm) (nI le)) (fun r9 _ => r9 = if clo b = 0 then 1 else 0) (fun _ => (wX ad cI cZ acc net tacc tnet flo bnd frm too amt pri wai byp ldr bor due plg clo pap cnd small price cut proc (nI mk) (nI lm) (nI le))) 0 0 := by
  refine zMi.of (ret := (some .boolean)) (cc := cX4_isOpen) (nL := 2) (own := RX4) (by decide +kernel) rfl [(0, .ref (ad 0)), (1, .int (nI b))] rfl (Nat.le_of_ble_eq_true rfl) rfl ?_
  intro A p e s m args below meth c C hmn
  refine z_iload_n C dX4_isOpen_0 rfl 1 rfl ?_
  refine z_callSv C (T := Unit) (As := [.int (nI b)]) (rest := []) (ws' := fun _ => (wX ad cI cZ acc net tacc tnet flo bnd frm too amt pri wai byp ldr bor due plg clo pap cnd small price cut proc (nI mk) (nI lm) (nI le))) (ok_requireBank l sa D cI cZ cL  b (by first | assumption | omega)) (va_cwS 1 C.2.2.2.2.1 gX4_isOpen_X4_requireBank rfl rfl rfl (by decide +kernel) ⟨Nat.le_of_ble_eq_true rfl, Nat.le_of_ble_eq_true rfl⟩) (fun _ => zSub.none) zIn.none rfl (Nat.le_of_ble_eq_true rfl) ⟨Nat.le_of_ble_eq_true rfl, Nat.le_of_ble_eq_true rfl⟩ dX4_isOpen_1 (fun _ _ => ?_)
  refine z_aload_n C dX4_isOpen_4 rfl 0 rfl ?_
  refine z_get C 0 rfl i_X4_isOpen_X4 rfl 5 (by decide) m_X4_isOpen_f40 rfl rfl dX4_isOpen_5 ?_
  refine z_iload_n C dX4_isOpen_8 rfl 1 rfl ?_
  refine z_zald C 22 1 rfl rfl b (nI_clamp (by omega)) (vp_in_nI (by omega) (by omega)) (clo b) rfl dX4_isOpen_9 ?_
  refine z_if_ne C (tgt := 17) dX4_isOpen_10 (by decide) (fun c10_1 => ?_) (fun c10_1 => ?_)
  · skip
    refine z_iconst C (v := 0) dX4_isOpen_17 (by decide) ?_
    exact z_zret C () (by simp [c10_1]) rfl (by decide) (by decide) (by decide) dX4_isOpen_18
  · skip
    refine z_iconst C (v := 1) dX4_isOpen_13 (by decide) ?_
    refine z_goto C (tgt := 18) dX4_isOpen_14 (by decide) ?_
    exact z_zret C () (by simp [c10_1]) rfl (by decide) (by decide) (by decide) dX4_isOpen_18
set_option maxHeartbeats 4000000 in
set_option maxRecDepth 100000 in
theorem c_X4_isOpen_b1 (l : Launch) (hfl : l.stackTraces = false) (sa : Nat → Nat) (D : va_G) (cI cZ cL : ClassId) (ad : Nat → Nat) (acc net tacc tnet flo bnd frm too amt pri wai byp ldr bor due plg clo pap cnd : Nat → Int32) (small price cut proc : Int32) (mk lm le : Nat) (b : Int32) (hb : b < 0 ∨ 5 ≤ b) : zX sa D vwCl (zty cI cZ cL) l yX4_isOpen wsX4_isOpen ({ frames := 7, cells := 1, slots := 6, locals := 102 } : Room) [.ref (ad 0), .int b] (wX ad cI cZ acc net tacc tnet flo bnd frm too amt pri wai byp ldr bor due plg clo pap cnd small price cut proc (nI mk) (nI lm) (nI le)) "java/lang/IndexOutOfBoundsException" 1 6 := by
  refine zX.of (ret := (some .boolean)) (cc := cX4_isOpen) (nL := 2) (own := RX4) (by decide +kernel) rfl [(0, .ref (ad 0)), (1, .int b)] rfl (Nat.le_of_ble_eq_true rfl) rfl ?_
  intro A p e s m args below meth c C hmn ht
  refine z_iload_n C dX4_isOpen_0 rfl 1 rfl ?_
  refine z_callSx C (As := [.int b]) (rest := []) (bad_requireBank l hfl sa D cI cZ cL  b (by first | assumption | omega)) (va_cwS 1 C.2.2.2.2.1 gX4_isOpen_X4_requireBank rfl rfl rfl (by decide +kernel) ⟨Nat.le_of_ble_eq_true rfl, Nat.le_of_ble_eq_true rfl⟩) zSub.none rfl (Nat.le_of_ble_eq_true rfl) ⟨Nat.le_of_ble_eq_true rfl, Nat.le_of_ble_eq_true rfl⟩ dX4_isOpen_1 ?_
  exact z_out C ht (by decide) (by decide)
set_option maxHeartbeats 4000000 in
set_option maxRecDepth 100000 in
theorem c_X4_paid_ok (l : Launch) (sa : Nat → Nat) (D : va_G) (cI cZ cL : ClassId) (ad : Nat → Nat) (acc net tacc tnet flo bnd frm too amt pri wai byp ldr bor due plg clo pap cnd : Nat → Int32) (small price cut proc : Int32) (mk lm le : Nat) (b : Nat) (o : Nat) (hb : b < 5) (ho : o < 5) : zMi (T := Unit) sa D vwCl (zty cI cZ cL) l yX4_paid wsX4_paid ({ frames := 7, cells := 0, slots := 0, locals := 102 } : Room) [.ref (ad 0), .int (nI b), .int (nI o)] (wX ad cI cZ acc net tacc tnet flo bnd frm too amt pri wai byp ldr bor due plg clo pap cnd small price cut proc (nI mk) (nI lm) (nI le)) (fun r9 _ => r9 = (net (b * 5 + o))) (fun _ => (wX ad cI cZ acc net tacc tnet flo bnd frm too amt pri wai byp ldr bor due plg clo pap cnd small price cut proc (nI mk) (nI lm) (nI le))) 0 0 := by
  refine zMi.of (ret := (some .int)) (cc := cX4_paid) (nL := 3) (own := RX4) (by decide +kernel) rfl [(0, .ref (ad 0)), (1, .int (nI b)), (2, .int (nI o))] rfl (Nat.le_of_ble_eq_true rfl) rfl ?_
  intro A p e s m args below meth c C hmn
  refine z_iload_n C dX4_paid_0 rfl 1 rfl ?_
  refine z_callSv C (T := Unit) (As := [.int (nI b)]) (rest := []) (ws' := fun _ => (wX ad cI cZ acc net tacc tnet flo bnd frm too amt pri wai byp ldr bor due plg clo pap cnd small price cut proc (nI mk) (nI lm) (nI le))) (ok_requireBank l sa D cI cZ cL  b (by first | assumption | omega)) (va_cwS 1 C.2.2.2.2.1 gX4_paid_X4_requireBank rfl rfl rfl (by decide +kernel) ⟨Nat.le_of_ble_eq_true rfl, Nat.le_of_ble_eq_true rfl⟩) (fun _ => zSub.none) zIn.none rfl (Nat.le_of_ble_eq_true rfl) ⟨Nat.le_of_ble_eq_true rfl, Nat.le_of_ble_eq_true rfl⟩ dX4_paid_1 (fun _ _ => ?_)
  refine z_iload_n C dX4_paid_4 rfl 2 rfl ?_
  refine z_callSv C (T := Unit) (As := [.int (nI o)]) (rest := []) (ws' := fun _ => (wX ad cI cZ acc net tacc tnet flo bnd frm too amt pri wai byp ldr bor due plg clo pap cnd small price cut proc (nI mk) (nI lm) (nI le))) (ok_requireBank l sa D cI cZ cL  o (by first | assumption | omega)) (va_cwS 1 C.2.2.2.2.1 gX4_paid_X4_requireBank rfl rfl rfl (by decide +kernel) ⟨Nat.le_of_ble_eq_true rfl, Nat.le_of_ble_eq_true rfl⟩) (fun _ => zSub.none) zIn.none rfl (Nat.le_of_ble_eq_true rfl) ⟨Nat.le_of_ble_eq_true rfl, Nat.le_of_ble_eq_true rfl⟩ dX4_paid_5 (fun _ _ => ?_)
  refine z_aload_n C dX4_paid_8 rfl 0 rfl ?_
  refine z_get C 0 rfl i_X4_paid_X4 rfl 0 (by decide) m_X4_paid_f10 rfl rfl dX4_paid_9 ?_
  refine z_get C 1 rfl i_X4_paid_X3 rfl 1 (by decide) m_X4_paid_f101 rfl rfl dX4_paid_12 ?_
  refine z_iload_n C dX4_paid_15 rfl 1 rfl ?_
  refine z_iload_n C dX4_paid_16 rfl 2 rfl ?_
  refine z_callSi C (T := Unit) (As := [.int (nI b), .int (nI o)]) (rest := [.ref (ad 7)]) (ws' := fun _ => (wX ad cI cZ acc net tacc tnet flo bnd frm too amt pri wai byp ldr bor due plg clo pap cnd small price cut proc (nI mk) (nI lm) (nI le))) (c_X4_pairOf l sa D cI cZ cL  b o ) (va_cwS 2 C.2.2.2.2.1 gX4_paid_X4_pairOf rfl rfl rfl (by decide +kernel) ⟨Nat.le_of_ble_eq_true rfl, Nat.le_of_ble_eq_true rfl⟩) (fun _ => zSub.none) zIn.none rfl (Nat.le_of_ble_eq_true rfl) ⟨Nat.le_of_ble_eq_true rfl, Nat.le_of_ble_eq_true rfl⟩ dX4_paid_17 (fun r_1 _ h_2 => ?_)
  obtain rfl : r_1 = (nI (b * 5 + o)) := h_2
  refine z_iald C 7 0 rfl rfl (b * 5 + o) (nI_clamp (by omega)) (vp_in_nI (by omega) (by omega)) (net (b * 5 + o)) rfl dX4_paid_20 ?_
  exact z_iret C () rfl rfl (by decide) (by decide) dX4_paid_21
set_option maxHeartbeats 4000000 in
set_option maxRecDepth 100000 in
theorem c_X4_paid_b1 (l : Launch) (hfl : l.stackTraces = false) (sa : Nat → Nat) (D : va_G) (cI cZ cL : ClassId) (ad : Nat → Nat) (acc net tacc tnet flo bnd frm too amt pri wai byp ldr bor due plg clo pap cnd : Nat → Int32) (small price cut proc : Int32) (mk lm le : Nat) (b : Int32) (o : Int32) (hb : b < 0 ∨ 5 ≤ b) : zX sa D vwCl (zty cI cZ cL) l yX4_paid wsX4_paid ({ frames := 7, cells := 1, slots := 6, locals := 102 } : Room) [.ref (ad 0), .int b, .int o] (wX ad cI cZ acc net tacc tnet flo bnd frm too amt pri wai byp ldr bor due plg clo pap cnd small price cut proc (nI mk) (nI lm) (nI le)) "java/lang/IndexOutOfBoundsException" 1 6 := by
  refine zX.of (ret := (some .int)) (cc := cX4_paid) (nL := 3) (own := RX4) (by decide +kernel) rfl [(0, .ref (ad 0)), (1, .int b), (2, .int o)] rfl (Nat.le_of_ble_eq_true rfl) rfl ?_
  intro A p e s m args below meth c C hmn ht
  refine z_iload_n C dX4_paid_0 rfl 1 rfl ?_
  refine z_callSx C (As := [.int b]) (rest := []) (bad_requireBank l hfl sa D cI cZ cL  b (by first | assumption | omega)) (va_cwS 1 C.2.2.2.2.1 gX4_paid_X4_requireBank rfl rfl rfl (by decide +kernel) ⟨Nat.le_of_ble_eq_true rfl, Nat.le_of_ble_eq_true rfl⟩) zSub.none rfl (Nat.le_of_ble_eq_true rfl) ⟨Nat.le_of_ble_eq_true rfl, Nat.le_of_ble_eq_true rfl⟩ dX4_paid_1 ?_
  exact z_out C ht (by decide) (by decide)
set_option maxHeartbeats 4000000 in
set_option maxRecDepth 100000 in
theorem c_X4_paid_b1b (l : Launch) (hfl : l.stackTraces = false) (sa : Nat → Nat) (D : va_G) (cI cZ cL : ClassId) (ad : Nat → Nat) (acc net tacc tnet flo bnd frm too amt pri wai byp ldr bor due plg clo pap cnd : Nat → Int32) (small price cut proc : Int32) (mk lm le : Nat) (b : Nat) (o : Int32) (hb : b < 5) (ho : o < 0 ∨ 5 ≤ o) : zX sa D vwCl (zty cI cZ cL) l yX4_paid wsX4_paid ({ frames := 7, cells := 1, slots := 6, locals := 102 } : Room) [.ref (ad 0), .int (nI b), .int o] (wX ad cI cZ acc net tacc tnet flo bnd frm too amt pri wai byp ldr bor due plg clo pap cnd small price cut proc (nI mk) (nI lm) (nI le)) "java/lang/IndexOutOfBoundsException" 1 6 := by
  refine zX.of (ret := (some .int)) (cc := cX4_paid) (nL := 3) (own := RX4) (by decide +kernel) rfl [(0, .ref (ad 0)), (1, .int (nI b)), (2, .int o)] rfl (Nat.le_of_ble_eq_true rfl) rfl ?_
  intro A p e s m args below meth c C hmn ht
  refine z_iload_n C dX4_paid_0 rfl 1 rfl ?_
  refine z_callSv C (T := Unit) (As := [.int (nI b)]) (rest := []) (ws' := fun _ => (wX ad cI cZ acc net tacc tnet flo bnd frm too amt pri wai byp ldr bor due plg clo pap cnd small price cut proc (nI mk) (nI lm) (nI le))) (ok_requireBank l sa D cI cZ cL  b (by first | assumption | omega)) (va_cwS 1 C.2.2.2.2.1 gX4_paid_X4_requireBank rfl rfl rfl (by decide +kernel) ⟨Nat.le_of_ble_eq_true rfl, Nat.le_of_ble_eq_true rfl⟩) (fun _ => zSub.none) zIn.none rfl (Nat.le_of_ble_eq_true rfl) ⟨Nat.le_of_ble_eq_true rfl, Nat.le_of_ble_eq_true rfl⟩ dX4_paid_1 (fun _ _ => ?_)
  refine z_iload_n C dX4_paid_4 rfl 2 rfl ?_
  refine z_callSx C (As := [.int o]) (rest := []) (bad_requireBank l hfl sa D cI cZ cL  o (by first | assumption | omega)) (va_cwS 1 C.2.2.2.2.1 gX4_paid_X4_requireBank rfl rfl rfl (by decide +kernel) ⟨Nat.le_of_ble_eq_true rfl, Nat.le_of_ble_eq_true rfl⟩) zSub.none rfl (Nat.le_of_ble_eq_true rfl) ⟨Nat.le_of_ble_eq_true rfl, Nat.le_of_ble_eq_true rfl⟩ dX4_paid_5 ?_
  exact z_out C ht (by decide) (by decide)
set_option maxHeartbeats 4000000 in
set_option maxRecDepth 100000 in
theorem c_X4_drop_b1 (l : Launch) (hfl : l.stackTraces = false) (sa : Nat → Nat) (D : va_G) (cI cZ cL : ClassId) (ad : Nat → Nat) (acc net tacc tnet flo bnd frm too amt pri wai byp ldr bor due plg clo pap cnd : Nat → Int32) (small price cut proc : Int32) (mk lm le : Nat) (p9 : Int32) (hp : p9 < 0 ∨ nI mk ≤ p9) : zX sa D vwCl (zty cI cZ cL) l yX4_drop wsX4_drop ({ frames := 7, cells := 1, slots := 6, locals := 103 } : Room) [.ref (ad 0), .int p9] (wX ad cI cZ acc net tacc tnet flo bnd frm too amt pri wai byp ldr bor due plg clo pap cnd small price cut proc (nI mk) (nI lm) (nI le)) "java/lang/IndexOutOfBoundsException" 1 6 := by
  refine zX.of (ret := (some .int)) (cc := cX4_drop) (nL := 2) (own := RX4) (by decide +kernel) rfl [(0, .ref (ad 0)), (1, .int p9)] rfl (Nat.le_of_ble_eq_true rfl) rfl ?_
  intro A p e s m args below meth c C hmn ht
  refine z_aload_n C dX4_drop_0 rfl 0 rfl ?_
  refine z_iload_n C dX4_drop_1 rfl 1 rfl ?_
  refine z_callVx C (As := [.int p9]) (rest := []) (bad_requirePayment l hfl sa D cI cZ cL ad acc net tacc tnet flo bnd frm too amt pri wai byp ldr bor due plg clo pap cnd small price cut proc mk lm le p9 (by first | assumption | omega)) (cwV 1 C.2.2.2.2.1 gX4_drop_X4_requirePayment rfl rfl rfl (by decide +kernel) ⟨Nat.le_of_ble_eq_true rfl, Nat.le_of_ble_eq_true rfl⟩) 0 rfl rfl rfl zSub.full rfl (Nat.le_of_ble_eq_true rfl) ⟨Nat.le_of_ble_eq_true rfl, Nat.le_of_ble_eq_true rfl⟩ dX4_drop_2 ?_
  exact z_out C ht (by decide) (by decide)
set_option maxHeartbeats 4000000 in
set_option maxRecDepth 100000 in
theorem c_X4_queued_ok (l : Launch) (sa : Nat → Nat) (D : va_G) (cI cZ cL : ClassId) (ad : Nat → Nat) (acc net tacc tnet flo bnd frm too amt pri wai byp ldr bor due plg clo pap cnd : Nat → Int32) (small price cut proc : Int32) (mk lm le : Nat) (b : Nat) (k : Nat) (hb : b < 5) (hk : k < 2147483648) (hmk : mk ≤ 60) (hfrm : wf5 mk frm) (htoo : wf5 mk too) (hbyp : bypOK byp pri mk) : zMi (T := Unit) sa D vwCl (zty cI cZ cL) l yX4_queued wsX4_queued ({ frames := 7, cells := 0, slots := 0, locals := 102 } : Room) [.ref (ad 0), .int (nI b), .int (nI k)] (wX ad cI cZ acc net tacc tnet flo bnd frm too amt pri wai byp ldr bor due plg clo pap cnd small price cut proc (nI mk) (nI lm) (nI le)) (fun r9 _ => r9 = oI (atQ (ordL pri mk) (isq wai frm b) k)) (fun _ => (wX ad cI cZ acc net tacc tnet flo bnd frm too amt pri wai byp ldr bor due plg clo pap cnd small price cut proc (nI mk) (nI lm) (nI le))) 0 0 := by
  refine zMi.of (ret := (some .int)) (cc := cX4_queued) (nL := 3) (own := RX4) (by decide +kernel) rfl [(0, .ref (ad 0)), (1, .int (nI b)), (2, .int (nI k))] rfl (Nat.le_of_ble_eq_true rfl) rfl ?_
  intro A p e s m args below meth c C hmn
  refine z_iload_n C dX4_queued_0 rfl 1 rfl ?_
  refine z_callSv C (T := Unit) (As := [.int (nI b)]) (rest := []) (ws' := fun _ => (wX ad cI cZ acc net tacc tnet flo bnd frm too amt pri wai byp ldr bor due plg clo pap cnd small price cut proc (nI mk) (nI lm) (nI le))) (ok_requireBank l sa D cI cZ cL  b (by first | assumption | omega)) (va_cwS 1 C.2.2.2.2.1 gX4_queued_X4_requireBank rfl rfl rfl (by decide +kernel) ⟨Nat.le_of_ble_eq_true rfl, Nat.le_of_ble_eq_true rfl⟩) (fun _ => zSub.none) zIn.none rfl (Nat.le_of_ble_eq_true rfl) ⟨Nat.le_of_ble_eq_true rfl, Nat.le_of_ble_eq_true rfl⟩ dX4_queued_1 (fun _ _ => ?_)
  refine z_iload_n C dX4_queued_4 rfl 2 rfl ?_
  refine z_if_ge C (tgt := 18) dX4_queued_5 (by decide) (fun _ => ?_) (fun h => absurd (nI_pos' (by omega)) h)
  refine z_aload_n C dX4_queued_18 rfl 0 rfl ?_
  refine z_get C 0 rfl i_X4_queued_X4 rfl 3 (by decide) m_X4_queued_f29 rfl rfl dX4_queued_19 ?_
  refine z_iload_n C dX4_queued_22 rfl 1 rfl ?_
  refine z_iload_n C dX4_queued_23 rfl 2 rfl ?_
  rcases hq_1 : atQ (ordL pri mk) (isq wai frm b) k with _ | p_2
  · skip
    refine z_callVi C (T := Unit) (As := [.int (nI b), .int (nI k)]) (rest := []) (ws' := fun _ => (wX ad cI cZ acc net tacc tnet flo bnd frm too amt pri wai byp ldr bor due plg clo pap cnd small price cut proc (nI mk) (nI lm) (nI le))) (c_X2_inQueue l sa D cI cZ cL ad acc net tacc tnet flo bnd frm too amt pri wai byp ldr bor due plg clo pap cnd small price cut proc mk lm le b k (by first | assumption | omega) (by first | assumption | omega) (by first | assumption | omega) (by first | assumption | omega) (by first | assumption | omega) (by first | assumption | omega)) (cwV 2 C.2.2.2.2.1 gX4_queued_X2_inQueue rfl rfl rfl (by decide +kernel) ⟨Nat.le_of_ble_eq_true rfl, Nat.le_of_ble_eq_true rfl⟩) 4 rfl rfl rfl (fun _ => zSub.full) zIn.full rfl (Nat.le_of_ble_eq_true rfl) ⟨Nat.le_of_ble_eq_true rfl, Nat.le_of_ble_eq_true rfl⟩ dX4_queued_24 (fun r_3 _ h_4 => ?_)
    obtain rfl : r_3 = (-1) := h_4.trans (by rw [hq_1]; rfl)
    exact z_iret C () (by simp [hq_1, oI]) rfl (by decide) (by decide) dX4_queued_27
  · skip
    have hm_p_2 := atQ_mem hq_1
    have := ordL_mem hm_p_2.1
    refine z_callVi C (T := Unit) (As := [.int (nI b), .int (nI k)]) (rest := []) (ws' := fun _ => (wX ad cI cZ acc net tacc tnet flo bnd frm too amt pri wai byp ldr bor due plg clo pap cnd small price cut proc (nI mk) (nI lm) (nI le))) (c_X2_inQueue l sa D cI cZ cL ad acc net tacc tnet flo bnd frm too amt pri wai byp ldr bor due plg clo pap cnd small price cut proc mk lm le b k (by first | assumption | omega) (by first | assumption | omega) (by first | assumption | omega) (by first | assumption | omega) (by first | assumption | omega) (by first | assumption | omega)) (cwV 2 C.2.2.2.2.1 gX4_queued_X2_inQueue rfl rfl rfl (by decide +kernel) ⟨Nat.le_of_ble_eq_true rfl, Nat.le_of_ble_eq_true rfl⟩) 4 rfl rfl rfl (fun _ => zSub.full) zIn.full rfl (Nat.le_of_ble_eq_true rfl) ⟨Nat.le_of_ble_eq_true rfl, Nat.le_of_ble_eq_true rfl⟩ dX4_queued_24 (fun r_5 _ h_6 => ?_)
    obtain rfl : r_5 = (nI p_2) := h_6.trans (by rw [hq_1]; rfl)
    exact z_iret C () (by simp [hq_1, oI]) rfl (by decide) (by decide) dX4_queued_27
set_option maxHeartbeats 4000000 in
set_option maxRecDepth 100000 in
theorem c_X4_queued_b1 (l : Launch) (hfl : l.stackTraces = false) (sa : Nat → Nat) (D : va_G) (cI cZ cL : ClassId) (ad : Nat → Nat) (acc net tacc tnet flo bnd frm too amt pri wai byp ldr bor due plg clo pap cnd : Nat → Int32) (small price cut proc : Int32) (mk lm le : Nat) (b : Int32) (k : Int32) (hb : b < 0 ∨ 5 ≤ b) : zX sa D vwCl (zty cI cZ cL) l yX4_queued wsX4_queued ({ frames := 7, cells := 1, slots := 6, locals := 102 } : Room) [.ref (ad 0), .int b, .int k] (wX ad cI cZ acc net tacc tnet flo bnd frm too amt pri wai byp ldr bor due plg clo pap cnd small price cut proc (nI mk) (nI lm) (nI le)) "java/lang/IndexOutOfBoundsException" 1 6 := by
  refine zX.of (ret := (some .int)) (cc := cX4_queued) (nL := 3) (own := RX4) (by decide +kernel) rfl [(0, .ref (ad 0)), (1, .int b), (2, .int k)] rfl (Nat.le_of_ble_eq_true rfl) rfl ?_
  intro A p e s m args below meth c C hmn ht
  refine z_iload_n C dX4_queued_0 rfl 1 rfl ?_
  refine z_callSx C (As := [.int b]) (rest := []) (bad_requireBank l hfl sa D cI cZ cL  b (by first | assumption | omega)) (va_cwS 1 C.2.2.2.2.1 gX4_queued_X4_requireBank rfl rfl rfl (by decide +kernel) ⟨Nat.le_of_ble_eq_true rfl, Nat.le_of_ble_eq_true rfl⟩) zSub.none rfl (Nat.le_of_ble_eq_true rfl) ⟨Nat.le_of_ble_eq_true rfl, Nat.le_of_ble_eq_true rfl⟩ dX4_queued_1 ?_
  exact z_out C ht (by decide) (by decide)
set_option maxHeartbeats 4000000 in
set_option maxRecDepth 100000 in
theorem c_X4_queued_b2 (l : Launch) (hfl : l.stackTraces = false) (sa : Nat → Nat) (D : va_G) (cI cZ cL : ClassId) (ad : Nat → Nat) (acc net tacc tnet flo bnd frm too amt pri wai byp ldr bor due plg clo pap cnd : Nat → Int32) (small price cut proc : Int32) (mk lm le : Nat) (b : Nat) (k : Int32) (hb : b < 5) (hk : k < 0) : zX sa D vwCl (zty cI cZ cL) l yX4_queued wsX4_queued ({ frames := 7, cells := 1, slots := 6, locals := 102 } : Room) [.ref (ad 0), .int (nI b), .int k] (wX ad cI cZ acc net tacc tnet flo bnd frm too amt pri wai byp ldr bor due plg clo pap cnd small price cut proc (nI mk) (nI lm) (nI le)) "java/lang/IndexOutOfBoundsException" 1 6 := by
  refine zX.of (ret := (some .int)) (cc := cX4_queued) (nL := 3) (own := RX4) (by decide +kernel) rfl [(0, .ref (ad 0)), (1, .int (nI b)), (2, .int k)] rfl (Nat.le_of_ble_eq_true rfl) rfl ?_
  intro A p e s m args below meth c C hmn ht
  refine z_iload_n C dX4_queued_0 rfl 1 rfl ?_
  refine z_callSv C (T := Unit) (As := [.int (nI b)]) (rest := []) (ws' := fun _ => (wX ad cI cZ acc net tacc tnet flo bnd frm too amt pri wai byp ldr bor due plg clo pap cnd small price cut proc (nI mk) (nI lm) (nI le))) (ok_requireBank l sa D cI cZ cL  b (by first | assumption | omega)) (va_cwS 1 C.2.2.2.2.1 gX4_queued_X4_requireBank rfl rfl rfl (by decide +kernel) ⟨Nat.le_of_ble_eq_true rfl, Nat.le_of_ble_eq_true rfl⟩) (fun _ => zSub.none) zIn.none rfl (Nat.le_of_ble_eq_true rfl) ⟨Nat.le_of_ble_eq_true rfl, Nat.le_of_ble_eq_true rfl⟩ dX4_queued_1 (fun _ _ => ?_)
  refine z_iload_n C dX4_queued_4 rfl 2 rfl ?_
  refine z_if_ge C (tgt := 18) dX4_queued_5 (by decide) (fun c5_1 => ?_) (fun c5_1 => ?_)
  · skip
    exfalso
    exact absurd hk (Int32.not_lt.mpr (by assumption))
  · skip
    exact z_throwS C (names := ["java/lang/RuntimeException", "java/lang/Exception"]) ht hfl rfl (by decide +kernel) (by decide +kernel) m_X4_queued_c140 m_X4_queued_n140 (is := 142) (text := "there is no such place") (by decide +kernel) (by decide +kernel) x_X4_queued_8_1 x_X4_queued_8_2 x_X4_queued_8_3 dX4_queued_8 dX4_queued_11 dX4_queued_12 dX4_queued_14 dX4_queued_17 ⟨Nat.le_of_ble_eq_true rfl, Nat.le_of_ble_eq_true rfl, Nat.le_of_ble_eq_true rfl, Nat.le_of_ble_eq_true rfl⟩ (by decide) (by decide)
set_option maxHeartbeats 4000000 in
set_option maxRecDepth 100000 in
theorem c_X4_why_b1 (l : Launch) (hfl : l.stackTraces = false) (sa : Nat → Nat) (D : va_G) (cI cZ cL : ClassId) (ad : Nat → Nat) (acc net tacc tnet flo bnd frm too amt pri wai byp ldr bor due plg clo pap cnd : Nat → Int32) (small price cut proc : Int32) (mk lm le : Nat) (p9 : Int32) (hp : p9 < 0 ∨ nI mk ≤ p9) : zX sa D vwCl (zty cI cZ cL) l yX4_why wsX4_why ({ frames := 7, cells := 1, slots := 6, locals := 103 } : Room) [.ref (ad 0), .int p9] (wX ad cI cZ acc net tacc tnet flo bnd frm too amt pri wai byp ldr bor due plg clo pap cnd small price cut proc (nI mk) (nI lm) (nI le)) "java/lang/IndexOutOfBoundsException" 1 6 := by
  refine zX.of (ret := (some .int)) (cc := cX4_why) (nL := 2) (own := RX4) (by decide +kernel) rfl [(0, .ref (ad 0)), (1, .int p9)] rfl (Nat.le_of_ble_eq_true rfl) rfl ?_
  intro A p e s m args below meth c C hmn ht
  refine z_aload_n C dX4_why_0 rfl 0 rfl ?_
  refine z_iload_n C dX4_why_1 rfl 1 rfl ?_
  refine z_callVx C (As := [.int p9]) (rest := []) (bad_requirePayment l hfl sa D cI cZ cL ad acc net tacc tnet flo bnd frm too amt pri wai byp ldr bor due plg clo pap cnd small price cut proc mk lm le p9 (by first | assumption | omega)) (cwV 1 C.2.2.2.2.1 gX4_why_X4_requirePayment rfl rfl rfl (by decide +kernel) ⟨Nat.le_of_ble_eq_true rfl, Nat.le_of_ble_eq_true rfl⟩) 0 rfl rfl rfl zSub.full rfl (Nat.le_of_ble_eq_true rfl) ⟨Nat.le_of_ble_eq_true rfl, Nat.le_of_ble_eq_true rfl⟩ dX4_why_2 ?_
  exact z_out C ht (by decide) (by decide)
set_option maxHeartbeats 4000000 in
set_option maxRecDepth 100000 in
theorem c_X4_canAny_ok (l : Launch) (sa : Nat → Nat) (D : va_G) (cI cZ cL : ClassId) (ad : Nat → Nat) (acc net tacc tnet flo bnd frm too amt pri wai byp ldr bor due plg clo pap cnd : Nat → Int32) (small price cut proc : Int32) (mk lm le : Nat)  (hmk : mk ≤ 60) (hfrm : wf5 mk frm) (htoo : wf5 mk too) (hc10 : cntW wai mk ≤ 10) : zMi (T := (Nat → Int32) × (Nat → Int32) × (Nat → Int32)) sa D vwCl (zty cI cZ cL) l yX4_canAny wsX4_canAny ({ frames := 6, cells := 0, slots := 0, locals := 89 } : Room) [.ref (ad 0)] (wX ad cI cZ acc net tacc tnet flo bnd frm too amt pri wai byp ldr bor due plg clo pap cnd small price cut proc (nI mk) (nI lm) (nI le)) (fun r9 u => r9 = if anyB (okS frm too amt flo bnd (fun k => (wlL wai mk)[k]?) (wlL wai mk).length acc net) (2 ^ (wlL wai mk).length) = true then 1 else 0) (fun u => (wX ad cI cZ acc net u.2.1 u.2.2 flo bnd frm too amt pri wai byp ldr bor due plg clo pap u.1 small price cut proc (nI mk) (nI lm) (nI le))) 0 0 := by
  refine zMi.of (ret := (some .boolean)) (cc := cX4_canAny) (nL := 3) (own := RX4) (by decide +kernel) rfl [(0, .ref (ad 0))] rfl (Nat.le_of_ble_eq_true rfl) rfl ?_
  intro A p e s m args below meth c C hmn
  have hlen := wlL_len wai mk
  have hp2 : 2 ^ (wlL wai mk).length ≤ 1024 := Nat.le_trans (Nat.pow_le_pow_right (n := 2) (by decide) (show (wlL wai mk).length ≤ 10 by omega)) (by decide)
  refine z_aload_n C dX4_canAny_0 rfl 0 rfl ?_
  refine z_get C 0 rfl i_X4_canAny_X4 rfl 3 (by decide) m_X4_canAny_f29 rfl rfl dX4_canAny_1 ?_
  refine z_callVi C (T := Unit) (As := []) (rest := []) (ws' := fun _ => (wX ad cI cZ acc net tacc tnet flo bnd frm too amt pri wai byp ldr bor due plg clo pap cnd small price cut proc (nI mk) (nI lm) (nI le))) (c_X2_countWaiting l sa D cI cZ cL ad acc net tacc tnet flo bnd frm too amt pri wai byp ldr bor due plg clo pap cnd small price cut proc mk lm le  (by first | assumption | omega)) (cwV 0 C.2.2.2.2.1 gX4_canAny_X2_countWaiting rfl rfl rfl (by decide +kernel) ⟨Nat.le_of_ble_eq_true rfl, Nat.le_of_ble_eq_true rfl⟩) 4 rfl rfl rfl (fun _ => zSub.full) zIn.full rfl (Nat.le_of_ble_eq_true rfl) ⟨Nat.le_of_ble_eq_true rfl, Nat.le_of_ble_eq_true rfl⟩ dX4_canAny_4 (fun r_1 _ h_2 => ?_)
  obtain rfl : r_1 = (nI (cntW wai mk)) := h_2
  refine z_bipush C (v := 10) dX4_canAny_7 (by decide) ?_
  refine z_icmp_le C (tgt := 22) dX4_canAny_9 (by decide) (fun c9_3 => ?_) (fun c9_3 => ?_)
  · skip
    have n_4 : (cntW wai mk) ≤ 10 := (nI_leI (a := cntW wai mk) (b := 10) (by omega) (by omega)).mp c9_3
    refine z_aload_n C dX4_canAny_22 rfl 0 rfl ?_
    refine z_callVi C (As := []) (rest := []) (ws' := fun u_5 => (wX ad cI cZ acc net tacc tnet flo bnd frm too amt pri wai byp ldr bor due plg clo pap u_5 small price cut proc (nI mk) (nI lm) (nI le))) (c_X4_listWaiting l sa D cI cZ cL ad acc net tacc tnet flo bnd frm too amt pri wai byp ldr bor due plg clo pap cnd small price cut proc mk lm le  (by first | assumption | omega) (by omega)) (cwV 0 C.2.2.2.2.1 gX4_canAny_X4_listWaiting rfl rfl rfl (by decide +kernel) ⟨Nat.le_of_ble_eq_true rfl, Nat.le_of_ble_eq_true rfl⟩) 0 rfl rfl rfl (fun _ => zSub.full) zIn.full rfl (Nat.le_of_ble_eq_true rfl) ⟨Nat.le_of_ble_eq_true rfl, Nat.le_of_ble_eq_true rfl⟩ dX4_canAny_23 (fun r_6 u_5 h_7 => ?_)
    obtain ⟨h_7, hx_8⟩ := h_7
    obtain rfl : r_6 = (nI ((wlL wai mk).length)) := h_7
    refine z_istore_n C dX4_canAny_26 rfl (by decide) [(0, .ref (ad 0)), (1, .int (nI ((wlL wai mk).length)))] [1, 0] rfl ?_
    refine z_iconst C (v := 1) dX4_canAny_27 (by decide) ?_
    refine z_istore_n C dX4_canAny_28 rfl (by decide) [(0, .ref (ad 0)), (1, .int (nI ((wlL wai mk).length))), (2, .int 1)] [1, 2, 0] rfl ?_
    have L29_k_9 : ∀ (n : Nat) (s9 : Nat) (ta tn : Nat → Int32), 2 ^ (wlL wai mk).length - s9 < n → (1 ≤ s9) → (s9 ≤ 2 ^ (wlL wai mk).length) → (∀ S, S < s9 → 1 ≤ S → (okS frm too amt flo bnd (fun k => (wlL wai mk)[k]?) (wlL wai mk).length acc net) S = false) → zW 0 p l e ({ frames := 6, cells := 0, slots := 0, locals := 89 } : Room) s m args below meth c (MQ below (zQi (T := (Nat → Int32) × (Nat → Int32) × (Nat → Int32)) D vwCl (zty cI cZ cL) A (fun r9 u => r9 = if anyB (okS frm too amt flo bnd (fun k => (wlL wai mk)[k]?) (wlL wai mk).length acc net) (2 ^ (wlL wai mk).length) = true then 1 else 0) (fun u => (wX ad cI cZ acc net u.2.1 u.2.2 flo bnd frm too amt pri wai byp ldr bor due plg clo pap u.1 small price cut proc (nI mk) (nI lm) (nI le)))) args s 0 0 A) D vwCl A 3 0 0 (wX ad cI cZ acc net ta tn flo bnd frm too amt pri wai byp ldr bor due plg clo pap u_5 small price cut proc (nI mk) (nI lm) (nI le)) [(0, .ref (ad 0)), (1, .int (nI ((wlL wai mk).length))), (2, .int (nI s9))] 29 [] := by
      intro n
      induction n with
      | zero => intros; omega
      | succ n ih_10 =>
        intro s9 ta tn hm_11 hs1 hs hno
        refine z_iload_n C dX4_canAny_29 rfl 2 rfl ?_
        refine z_iconst C (v := 1) dX4_canAny_30 (by decide) ?_
        refine z_iload_n C dX4_canAny_31 rfl 1 rfl ?_
        refine z_ishl C (v := (nI (2 ^ ((wlL wai mk).length)))) dX4_canAny_32 (z_shl1 (by omega)) ?_
        refine z_icmp_ge C (tgt := 53) dX4_canAny_33 (by decide) (fun c33_12 => ?_) (fun c33_12 => ?_)
        · skip
          have n_13 : (2 ^ ((wlL wai mk).length)) ≤ s9 := (nI_leI (a := 2 ^ ((wlL wai mk).length)) (b := s9) (by omega) (by omega)).mp c33_12
          refine z_iconst C (v := 0) dX4_canAny_53 (by decide) ?_
          exact z_zret C (u_5, ta, tn) (by rw [if_neg (by rw [anyB_n (fun S h1 h2 => hno S (by omega) h2)]; decide)]) rfl (by decide) (by decide) (by decide) dX4_canAny_54
        · skip
          have n_14 : ¬ (2 ^ ((wlL wai mk).length)) ≤ s9 := fun q => c33_12 ((nI_leI (a := 2 ^ ((wlL wai mk).length)) (b := s9) (by omega) (by omega)).mpr q)
          refine z_aload_n C dX4_canAny_36 rfl 0 rfl ?_
          refine z_iload_n C dX4_canAny_37 rfl 2 rfl ?_
          refine z_iload_n C dX4_canAny_38 rfl 1 rfl ?_
          refine z_case (okS frm too amt flo bnd (fun k => (wlL wai mk)[k]?) ((wlL wai mk).length) acc net s9 = true) (fun hp_15 => ?_) (fun hp_15 => ?_)
          · skip
            refine z_callVi C (As := [.int (nI s9), .int (nI ((wlL wai mk).length))]) (rest := []) (ws' := fun u_16 => (wX ad cI cZ acc net u_16.1 u_16.2 flo bnd frm too amt pri wai byp ldr bor due plg clo pap u_5 small price cut proc (nI mk) (nI lm) (nI le))) (c_X4_canGoTogether l sa D cI cZ cL ad acc net ta tn flo bnd frm too amt pri wai byp ldr bor due plg clo pap u_5 small price cut proc mk lm le s9 ((wlL wai mk).length) (fun k => (wlL wai mk)[k]?) (by first | assumption | omega) (by first | assumption | omega) (by assumption) (by exact fun k p9 h9 => wlL_mem h9) (by first | assumption | omega) (by first | assumption | omega) (by first | assumption | omega)) (cwV 2 C.2.2.2.2.1 gX4_canAny_X4_canGoTogether rfl rfl rfl (by decide +kernel) ⟨Nat.le_of_ble_eq_true rfl, Nat.le_of_ble_eq_true rfl⟩) 0 rfl rfl rfl (fun _ => zSub.full) zIn.full rfl (Nat.le_of_ble_eq_true rfl) ⟨Nat.le_of_ble_eq_true rfl, Nat.le_of_ble_eq_true rfl⟩ dX4_canAny_39 (fun r_17 u_16 h_18 => ?_)
            obtain rfl : r_17 = 1 := h_18.trans (if_pos hp_15)
            refine z_if_eq C (tgt := 47) dX4_canAny_42 (by decide) (fun h => absurd h (by decide)) (fun _ => ?_)
            refine z_iconst C (v := 1) dX4_canAny_45 (by decide) ?_
            exact z_zret C (u_5, u_16.1, u_16.2) (by rw [if_pos (anyB_y (S := s9) hs1 (by omega) (by assumption))]) rfl (by decide) (by decide) (by decide) dX4_canAny_46
          · skip
            refine z_callVi C (As := [.int (nI s9), .int (nI ((wlL wai mk).length))]) (rest := []) (ws' := fun u_19 => (wX ad cI cZ acc net u_19.1 u_19.2 flo bnd frm too amt pri wai byp ldr bor due plg clo pap u_5 small price cut proc (nI mk) (nI lm) (nI le))) (c_X4_canGoTogether l sa D cI cZ cL ad acc net ta tn flo bnd frm too amt pri wai byp ldr bor due plg clo pap u_5 small price cut proc mk lm le s9 ((wlL wai mk).length) (fun k => (wlL wai mk)[k]?) (by first | assumption | omega) (by first | assumption | omega) (by assumption) (by exact fun k p9 h9 => wlL_mem h9) (by first | assumption | omega) (by first | assumption | omega) (by first | assumption | omega)) (cwV 2 C.2.2.2.2.1 gX4_canAny_X4_canGoTogether rfl rfl rfl (by decide +kernel) ⟨Nat.le_of_ble_eq_true rfl, Nat.le_of_ble_eq_true rfl⟩) 0 rfl rfl rfl (fun _ => zSub.full) zIn.full rfl (Nat.le_of_ble_eq_true rfl) ⟨Nat.le_of_ble_eq_true rfl, Nat.le_of_ble_eq_true rfl⟩ dX4_canAny_39 (fun r_20 u_19 h_21 => ?_)
            obtain rfl : r_20 = 0 := h_21.trans (if_neg hp_15)
            refine z_if_eq C (tgt := 47) dX4_canAny_42 (by decide) (fun _ => ?_) (fun h => absurd h (by decide))
            refine z_iinc C (v := (nI (s9 + 1))) dX4_canAny_47 2 rfl (nI_add s9 1) (by decide) [(0, .ref (ad 0)), (1, .int (nI ((wlL wai mk).length))), (2, .int (nI (s9 + 1)))] [1, 2, 0] rfl ?_
            refine z_goto C (tgt := 29) dX4_canAny_50 (by decide) ?_
            exact ih_10 (s9 + 1) u_19.1 u_19.2 (by omega) (by first | assumption | omega) (by first | assumption | omega) (by exact z_no hno (by assumption))
    refine z_lveq [(0, .ref (ad 0)), (1, .int (nI ((wlL wai mk).length))), (2, .int (nI 1))] (by rfl) ?_
    exact L29_k_9 (2 ^ (wlL wai mk).length - 1 + 1) 1 tacc tnet (Nat.lt_succ_self _) (by first | assumption | omega) (by have := Nat.one_le_two_pow (n := (wlL wai mk).length); omega) (by intro S h1 h2; omega)
  · skip
    have n_22 : ¬ (cntW wai mk) ≤ 10 := fun q => c9_3 ((nI_leI (a := cntW wai mk) (b := 10) (by omega) (by omega)).mpr q)
    exfalso
    omega
