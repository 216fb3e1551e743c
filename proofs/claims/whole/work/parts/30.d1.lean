theorem m_X5_thrown_f76 : Cond.fieldLink RX5 76 "QueuefloatModel" "thrown" "I" ∈ wsX5_thrown := by decide +kernel
theorem i_X5_thrown_X5 : ∀ w ∈ wsX50, w ∈ wsX5_thrown := by decide +kernel
theorem m_X5_fails_f76 : Cond.fieldLink RX5 76 "QueuefloatModel" "thrown" "I" ∈ wsX5_fails := by decide +kernel
theorem i_X5_fails_X5 : ∀ w ∈ wsX50, w ∈ wsX5_fails := by decide +kernel
theorem m_X5_asks_f76 : Cond.fieldLink RX5 76 "QueuefloatModel" "thrown" "I" ∈ wsX5_asks := by decide +kernel
theorem i_X5_asks_X5 : ∀ w ∈ wsX50, w ∈ wsX5_asks := by decide +kernel
theorem m_X5_isPayment_f79 : Cond.fieldLink RX5 79 "QueuefloatModel" "payments" "I" ∈ wsX5_isPayment := by decide +kernel
theorem i_X5_isPayment_X5 : ∀ w ∈ wsX50, w ∈ wsX5_isPayment := by decide +kernel
theorem m_X5_fund_k75 : Cond.constant RX5 75 (1000000) ∈ wsX5_fund := by decide +kernel
theorem m_X5_fund_f19 : Cond.fieldLink RX5 19 "QueuefloatModel" "isClosed" "[Z" ∈ wsX5_fund := by decide +kernel
theorem i_X5_fund_X5 : ∀ w ∈ wsX50, w ∈ wsX5_fund := by decide +kernel
theorem m_X5_fund_f7 : Cond.fieldLink RX5 7 "QueuefloatModel" "account" "[I" ∈ wsX5_fund := by decide +kernel
theorem m_X5_fund_k98 : Cond.constant RX5 98 (100000000) ∈ wsX5_fund := by decide +kernel
theorem m_X5_setFloor_k99 : Cond.constant RX5 99 (-1000000) ∈ wsX5_setFloor := by decide +kernel
theorem m_X5_setFloor_f7 : Cond.fieldLink RX5 7 "QueuefloatModel" "account" "[I" ∈ wsX5_setFloor := by decide +kernel
theorem i_X5_setFloor_X5 : ∀ w ∈ wsX50, w ∈ wsX5_setFloor := by decide +kernel
theorem m_X5_setFloor_f13 : Cond.fieldLink RX5 13 "QueuefloatModel" "floor" "[I" ∈ wsX5_setFloor := by decide +kernel
theorem m_X5_setBound_k75 : Cond.constant RX5 75 (1000000) ∈ wsX5_setBound := by decide +kernel
theorem m_X5_setBound_f23 : Cond.fieldLink RX5 23 "QueuefloatModel" "paid" "[I" ∈ wsX5_setBound := by decide +kernel
theorem i_X5_setBound_X5 : ∀ w ∈ wsX50, w ∈ wsX5_setBound := by decide +kernel
theorem m_X5_setBound_f26 : Cond.fieldLink RX5 26 "QueuefloatModel" "bound" "[I" ∈ wsX5_setBound := by decide +kernel
theorem m_X5_givePapers_f19 : Cond.fieldLink RX5 19 "QueuefloatModel" "isClosed" "[Z" ∈ wsX5_givePapers := by decide +kernel
theorem i_X5_givePapers_X5 : ∀ w ∈ wsX50, w ∈ wsX5_givePapers := by decide +kernel
theorem m_X5_givePapers_f16 : Cond.fieldLink RX5 16 "QueuefloatModel" "papers" "[I" ∈ wsX5_givePapers := by decide +kernel
theorem m_X5_givePapers_k100 : Cond.constant RX5 100 (100000) ∈ wsX5_givePapers := by decide +kernel
theorem m_X5_account_f7 : Cond.fieldLink RX5 7 "QueuefloatModel" "account" "[I" ∈ wsX5_account := by decide +kernel
theorem i_X5_account_X5 : ∀ w ∈ wsX50, w ∈ wsX5_account := by decide +kernel
theorem m_X5_papers_f16 : Cond.fieldLink RX5 16 "QueuefloatModel" "papers" "[I" ∈ wsX5_papers := by decide +kernel
theorem i_X5_papers_X5 : ∀ w ∈ wsX50, w ∈ wsX5_papers := by decide +kernel
theorem m_X5_isOpen_f19 : Cond.fieldLink RX5 19 "QueuefloatModel" "isClosed" "[Z" ∈ wsX5_isOpen := by decide +kernel
theorem i_X5_isOpen_X5 : ∀ w ∈ wsX50, w ∈ wsX5_isOpen := by decide +kernel
theorem m_X5_paid_f23 : Cond.fieldLink RX5 23 "QueuefloatModel" "paid" "[I" ∈ wsX5_paid := by decide +kernel
theorem i_X5_paid_X5 : ∀ w ∈ wsX50, w ∈ wsX5_paid := by decide +kernel
theorem m_X5_pay_k100 : Cond.constant RX5 100 (100000) ∈ wsX5_pay := by decide +kernel
theorem m_X5_pay_f19 : Cond.fieldLink RX5 19 "QueuefloatModel" "isClosed" "[Z" ∈ wsX5_pay := by decide +kernel
theorem i_X5_pay_X5 : ∀ w ∈ wsX50, w ∈ wsX5_pay := by decide +kernel
theorem m_X5_pay_f79 : Cond.fieldLink RX5 79 "QueuefloatModel" "payments" "I" ∈ wsX5_pay := by decide +kernel
theorem m_X5_pay_f29 : Cond.fieldLink RX5 29 "QueuefloatModel" "from" "[I" ∈ wsX5_pay := by decide +kernel
theorem m_X5_pay_f32 : Cond.fieldLink RX5 32 "QueuefloatModel" "to" "[I" ∈ wsX5_pay := by decide +kernel
theorem m_X5_pay_f35 : Cond.fieldLink RX5 35 "QueuefloatModel" "amount" "[I" ∈ wsX5_pay := by decide +kernel
theorem m_X5_pay_f38 : Cond.fieldLink RX5 38 "QueuefloatModel" "priority" "[I" ∈ wsX5_pay := by decide +kernel
theorem m_X5_pay_f41 : Cond.fieldLink RX5 41 "QueuefloatModel" "isWaiting" "[Z" ∈ wsX5_pay := by decide +kernel
theorem m_X5_waiting_f79 : Cond.fieldLink RX5 79 "QueuefloatModel" "payments" "I" ∈ wsX5_waiting := by decide +kernel
theorem i_X5_waiting_X5 : ∀ w ∈ wsX50, w ∈ wsX5_waiting := by decide +kernel
theorem m_X5_waiting_f41 : Cond.fieldLink RX5 41 "QueuefloatModel" "isWaiting" "[Z" ∈ wsX5_waiting := by decide +kernel
theorem m_X5_drop_f41 : Cond.fieldLink RX5 41 "QueuefloatModel" "isWaiting" "[Z" ∈ wsX5_drop := by decide +kernel
theorem i_X5_drop_X5 : ∀ w ∈ wsX50, w ∈ wsX5_drop := by decide +kernel
theorem m_X5_setSmall_k100 : Cond.constant RX5 100 (100000) ∈ wsX5_setSmall := by decide +kernel
theorem m_X5_setSmall_f44 : Cond.fieldLink RX5 44 "QueuefloatModel" "small" "I" ∈ wsX5_setSmall := by decide +kernel
theorem i_X5_setSmall_X5 : ∀ w ∈ wsX50, w ∈ wsX5_setSmall := by decide +kernel
theorem m_X5_sold_f76 : Cond.fieldLink RX5 76 "QueuefloatModel" "thrown" "I" ∈ wsX5_sold := by decide +kernel
theorem i_X5_sold_X5 : ∀ w ∈ wsX50, w ∈ wsX5_sold := by decide +kernel
theorem m_X5_sold_f147 : Cond.fieldLink RX5 147 "QueuefloatModel" "sold" "I" ∈ wsX5_sold := by decide +kernel
theorem m_X5_setPrice_f69 : Cond.fieldLink RX5 69 "QueuefloatModel" "price" "I" ∈ wsX5_setPrice := by decide +kernel
theorem i_X5_setPrice_X5 : ∀ w ∈ wsX50, w ∈ wsX5_setPrice := by decide +kernel
theorem m_X5_setPrice_f72 : Cond.fieldLink RX5 72 "QueuefloatModel" "cut" "I" ∈ wsX5_setPrice := by decide +kernel
theorem m_X5_lend_k100 : Cond.constant RX5 100 (100000) ∈ wsX5_lend := by decide +kernel
theorem m_X5_lend_f69 : Cond.fieldLink RX5 69 "QueuefloatModel" "price" "I" ∈ wsX5_lend := by decide +kernel
theorem i_X5_lend_X5 : ∀ w ∈ wsX50, w ∈ wsX5_lend := by decide +kernel
theorem m_X5_lend_f72 : Cond.fieldLink RX5 72 "QueuefloatModel" "cut" "I" ∈ wsX5_lend := by decide +kernel
theorem m_X5_lend_k142 : Cond.constantLong RX5 142 (1000) ∈ wsX5_lend := by decide +kernel
theorem m_X5_lend_f19 : Cond.fieldLink RX5 19 "QueuefloatModel" "isClosed" "[Z" ∈ wsX5_lend := by decide +kernel
theorem m_X5_lend_f144 : Cond.fieldLink RX5 144 "QueuefloatModel" "loans" "I" ∈ wsX5_lend := by decide +kernel
theorem m_X5_lend_f16 : Cond.fieldLink RX5 16 "QueuefloatModel" "papers" "[I" ∈ wsX5_lend := by decide +kernel
theorem m_X5_lend_f7 : Cond.fieldLink RX5 7 "QueuefloatModel" "account" "[I" ∈ wsX5_lend := by decide +kernel
theorem m_X5_lend_f13 : Cond.fieldLink RX5 13 "QueuefloatModel" "floor" "[I" ∈ wsX5_lend := by decide +kernel
theorem m_X5_lend_f51 : Cond.fieldLink RX5 51 "QueuefloatModel" "lender" "[I" ∈ wsX5_lend := by decide +kernel
theorem m_X5_lend_f54 : Cond.fieldLink RX5 54 "QueuefloatModel" "borrower" "[I" ∈ wsX5_lend := by decide +kernel
theorem m_X5_lend_f57 : Cond.fieldLink RX5 57 "QueuefloatModel" "lent" "[I" ∈ wsX5_lend := by decide +kernel
theorem m_X5_lend_f60 : Cond.fieldLink RX5 60 "QueuefloatModel" "rate" "[I" ∈ wsX5_lend := by decide +kernel
theorem m_X5_lend_f63 : Cond.fieldLink RX5 63 "QueuefloatModel" "pledged" "[I" ∈ wsX5_lend := by decide +kernel
theorem m_X5_lend_f66 : Cond.fieldLink RX5 66 "QueuefloatModel" "isOpen" "[Z" ∈ wsX5_lend := by decide +kernel
set_option maxHeartbeats 4000000 in
set_option maxRecDepth 100000 in
theorem m_thrown (l : Launch) (sa : Nat → Nat) (D : va_G) (cI cZ cL : ClassId) (md : Nat → Nat) (acc flo pap clo net bnd frm too amt pri wai fst ldr bor lnt rat plg opn : Nat → Int32) (small price cut proc thr : Int32) (mk lm : Nat)   : zMi (T := Unit) sa D vwCl (zty cI cZ cL) l yX5_thrown wsX5_thrown ({ frames := 0, cells := 0, slots := 0, locals := 0 } : Room) [.ref (md 0)] (wM md cI cZ acc flo pap clo net bnd frm too amt pri wai fst ldr bor lnt rat plg opn (nI mk) small (nI lm) price cut proc thr) (fun r9 _ => r9 = thr) (fun _ => (wM md cI cZ acc flo pap clo net bnd frm too amt pri wai fst ldr bor lnt rat plg opn (nI mk) small (nI lm) price cut proc thr)) 0 0 := by
  refine zMi.of (ret := (some .int)) (cc := cX5_thrown) (nL := 1) (own := RX5) (by decide +kernel) rfl [(0, .ref (md 0))] rfl (Nat.le_of_ble_eq_true rfl) rfl ?_
  intro A p e s m args below meth c C hmn
  refine z_aload_n C dX5_thrown_0 rfl 0 rfl ?_
  refine z_get C 0 rfl i_X5_thrown_X5 rfl 24 (by decide) m_X5_thrown_f76 rfl rfl dX5_thrown_1 ?_
  exact z_iret C () rfl rfl (by decide) (by decide) dX5_thrown_4
set_option maxHeartbeats 4000000 in
set_option maxRecDepth 100000 in
theorem m_fails (l : Launch) (sa : Nat → Nat) (D : va_G) (cI cZ cL : ClassId) (md : Nat → Nat) (acc flo pap clo net bnd frm too amt pri wai fst ldr bor lnt rat plg opn : Nat → Int32) (small price cut proc thr : Int32) (mk lm : Nat) (w9 : Int32)  : zMi (T := Unit) sa D vwCl (zty cI cZ cL) l yX5_fails wsX5_fails ({ frames := 0, cells := 0, slots := 0, locals := 0 } : Room) [.ref (md 0), .int w9] (wM md cI cZ acc flo pap clo net bnd frm too amt pri wai fst ldr bor lnt rat plg opn (nI mk) small (nI lm) price cut proc thr) (fun r9 _ => r9 = 0) (fun _ => (wM md cI cZ acc flo pap clo net bnd frm too amt pri wai fst ldr bor lnt rat plg opn (nI mk) small (nI lm) price cut proc w9)) 0 0 := by
  refine zMi.of (ret := (some .int)) (cc := cX5_fails) (nL := 2) (own := RX5) (by decide +kernel) rfl [(0, .ref (md 0)), (1, .int w9)] rfl (Nat.le_of_ble_eq_true rfl) rfl ?_
  intro A p e s m args below meth c C hmn
  refine z_aload_n C dX5_fails_0 rfl 0 rfl ?_
  refine z_iload_n C dX5_fails_1 rfl 1 rfl ?_
  refine z_put C 0 rfl i_X5_fails_X5 rfl 24 (by decide) m_X5_fails_f76 rfl tyX5 tyX5_ok nmX5 rfl (ty := .int) (by decide +kernel) rfl rfl (Nat.le_of_ble_eq_true rfl) dX5_fails_2 (wM md cI cZ acc flo pap clo net bnd frm too amt pri wai fst ldr bor lnt rat plg opn (nI mk) small (nI lm) price cut proc w9) rfl ?_
  refine z_iconst C (v := 0) dX5_fails_5 (by decide) ?_
  exact z_iret C () rfl rfl (by decide) (by decide) dX5_fails_6
set_option maxHeartbeats 4000000 in
set_option maxRecDepth 100000 in
theorem m_asks_y (l : Launch) (sa : Nat → Nat) (D : va_G) (cI cZ cL : ClassId) (md : Nat → Nat) (acc flo pap clo net bnd frm too amt pri wai fst ldr bor lnt rat plg opn : Nat → Int32) (small price cut proc thr : Int32) (mk lm : Nat)   : zMi (T := Unit) sa D vwCl (zty cI cZ cL) l yX5_asks wsX5_asks ({ frames := 0, cells := 0, slots := 0, locals := 0 } : Room) [.ref (md 0), .int 1] (wM md cI cZ acc flo pap clo net bnd frm too amt pri wai fst ldr bor lnt rat plg opn (nI mk) small (nI lm) price cut proc thr) (fun r9 _ => r9 = 1) (fun _ => (wM md cI cZ acc flo pap clo net bnd frm too amt pri wai fst ldr bor lnt rat plg opn (nI mk) small (nI lm) price cut proc 0)) 0 0 := by
  refine zMi.of (ret := (some .boolean)) (cc := cX5_asks) (nL := 2) (own := RX5) (by decide +kernel) rfl [(0, .ref (md 0)), (1, .int 1)] rfl (Nat.le_of_ble_eq_true rfl) rfl ?_
  intro A p e s m args below meth c C hmn
  refine z_aload_n C dX5_asks_0 rfl 0 rfl ?_
  refine z_iload_n C dX5_asks_1 rfl 1 rfl ?_
  refine z_if_eq C (tgt := 9) dX5_asks_2 (by decide) (fun h => absurd h (by decide)) (fun _ => ?_)
  refine z_iconst C (v := 0) dX5_asks_5 (by decide) ?_
  refine z_goto C (tgt := 10) dX5_asks_6 (by decide) ?_
  refine z_put C 0 rfl i_X5_asks_X5 rfl 24 (by decide) m_X5_asks_f76 rfl tyX5 tyX5_ok nmX5 rfl (ty := .int) (by decide +kernel) rfl rfl (Nat.le_of_ble_eq_true rfl) dX5_asks_10 (wM md cI cZ acc flo pap clo net bnd frm too amt pri wai fst ldr bor lnt rat plg opn (nI mk) small (nI lm) price cut proc 0) rfl ?_
  refine z_iload_n C dX5_asks_13 rfl 1 rfl ?_
  exact z_zret C () rfl rfl (by decide) (by decide) (by decide) dX5_asks_14
set_option maxHeartbeats 4000000 in
set_option maxRecDepth 100000 in
theorem m_asks_n (l : Launch) (sa : Nat → Nat) (D : va_G) (cI cZ cL : ClassId) (md : Nat → Nat) (acc flo pap clo net bnd frm too amt pri wai fst ldr bor lnt rat plg opn : Nat → Int32) (small price cut proc thr : Int32) (mk lm : Nat)   : zMi (T := Unit) sa D vwCl (zty cI cZ cL) l yX5_asks wsX5_asks ({ frames := 0, cells := 0, slots := 0, locals := 0 } : Room) [.ref (md 0), .int 0] (wM md cI cZ acc flo pap clo net bnd frm too amt pri wai fst ldr bor lnt rat plg opn (nI mk) small (nI lm) price cut proc thr) (fun r9 _ => r9 = 0) (fun _ => (wM md cI cZ acc flo pap clo net bnd frm too amt pri wai fst ldr bor lnt rat plg opn (nI mk) small (nI lm) price cut proc 1)) 0 0 := by
  refine zMi.of (ret := (some .boolean)) (cc := cX5_asks) (nL := 2) (own := RX5) (by decide +kernel) rfl [(0, .ref (md 0)), (1, .int 0)] rfl (Nat.le_of_ble_eq_true rfl) rfl ?_
  intro A p e s m args below meth c C hmn
  refine z_aload_n C dX5_asks_0 rfl 0 rfl ?_
  refine z_iload_n C dX5_asks_1 rfl 1 rfl ?_
  refine z_if_eq C (tgt := 9) dX5_asks_2 (by decide) (fun _ => ?_) (fun h => absurd h (by decide))
  refine z_iconst C (v := 1) dX5_asks_9 (by decide) ?_
  refine z_put C 0 rfl i_X5_asks_X5 rfl 24 (by decide) m_X5_asks_f76 rfl tyX5 tyX5_ok nmX5 rfl (ty := .int) (by decide +kernel) rfl rfl (Nat.le_of_ble_eq_true rfl) dX5_asks_10 (wM md cI cZ acc flo pap clo net bnd frm too amt pri wai fst ldr bor lnt rat plg opn (nI mk) small (nI lm) price cut proc 1) rfl ?_
  refine z_iload_n C dX5_asks_13 rfl 1 rfl ?_
  exact z_zret C () rfl rfl (by decide) (by decide) (by decide) dX5_asks_14
set_option maxHeartbeats 4000000 in
set_option maxRecDepth 100000 in
theorem m_in_y (l : Launch) (sa : Nat → Nat) (D : va_G) (cI cZ cL : ClassId)  (v : Int32) (lo : Int32) (hi : Int32) (h1 : ¬ v < lo) (h2 : ¬ hi < v) : zMi (T := Unit) sa D vwCl (zty cI cZ cL) l yX5_in wsX5_in ({ frames := 0, cells := 0, slots := 0, locals := 0 } : Room) [.int v, .int lo, .int hi] [] (fun r9 _ => r9 = 1) (fun _ => []) 0 0 := by
  refine zMi.of (ret := (some .boolean)) (cc := cX5_in) (nL := 3) (own := RX5) (by decide +kernel) rfl [(0, .int v), (1, .int lo), (2, .int hi)] rfl (Nat.le_of_ble_eq_true rfl) rfl ?_
  intro A p e s m args below meth c C hmn
  refine z_iload_n C dX5_in_0 rfl 0 rfl ?_
  refine z_iload_n C dX5_in_1 rfl 1 rfl ?_
  refine z_icmp_lt C (tgt := 14) dX5_in_2 (by decide) (fun c2_1 => ?_) (fun c2_1 => ?_)
  · skip
    refine z_iconst C (v := 0) dX5_in_14 (by decide) ?_
    exact z_zret C () (by exfalso; first | omega | contradiction | exact absurd (by assumption) (Int32.not_le.mpr (by assumption)) | exact hv.elim (fun h => by contradiction) (fun h => by contradiction)) rfl (by decide) (by decide) (by decide) dX5_in_15
  · skip
    refine z_iload_n C dX5_in_5 rfl 0 rfl ?_
    refine z_iload_n C dX5_in_6 rfl 2 rfl ?_
    refine z_icmp_gt C (tgt := 14) dX5_in_7 (by decide) (fun c7_2 => ?_) (fun c7_2 => ?_)
    · skip
      refine z_iconst C (v := 0) dX5_in_14 (by decide) ?_
      exact z_zret C () (by exfalso; first | omega | contradiction | exact absurd (by assumption) (Int32.not_le.mpr (by assumption)) | exact hv.elim (fun h => by contradiction) (fun h => by contradiction)) rfl (by decide) (by decide) (by decide) dX5_in_15
    · skip
      refine z_iconst C (v := 1) dX5_in_10 (by decide) ?_
      refine z_goto C (tgt := 15) dX5_in_11 (by decide) ?_
      exact z_zret C () rfl rfl (by decide) (by decide) (by decide) dX5_in_15
set_option maxHeartbeats 4000000 in
set_option maxRecDepth 100000 in
theorem m_in_n (l : Launch) (sa : Nat → Nat) (D : va_G) (cI cZ cL : ClassId)  (v : Int32) (lo : Int32) (hi : Int32) (hv : v < lo ∨ hi < v) : zMi (T := Unit) sa D vwCl (zty cI cZ cL) l yX5_in wsX5_in ({ frames := 0, cells := 0, slots := 0, locals := 0 } : Room) [.int v, .int lo, .int hi] [] (fun r9 _ => r9 = 0) (fun _ => []) 0 0 := by
  refine zMi.of (ret := (some .boolean)) (cc := cX5_in) (nL := 3) (own := RX5) (by decide +kernel) rfl [(0, .int v), (1, .int lo), (2, .int hi)] rfl (Nat.le_of_ble_eq_true rfl) rfl ?_
  intro A p e s m args below meth c C hmn
  refine z_iload_n C dX5_in_0 rfl 0 rfl ?_
  refine z_iload_n C dX5_in_1 rfl 1 rfl ?_
  refine z_icmp_lt C (tgt := 14) dX5_in_2 (by decide) (fun c2_1 => ?_) (fun c2_1 => ?_)
  · skip
    refine z_iconst C (v := 0) dX5_in_14 (by decide) ?_
    exact z_zret C () rfl rfl (by decide) (by decide) (by decide) dX5_in_15
  · skip
    refine z_iload_n C dX5_in_5 rfl 0 rfl ?_
    refine z_iload_n C dX5_in_6 rfl 2 rfl ?_
    refine z_icmp_gt C (tgt := 14) dX5_in_7 (by decide) (fun c7_2 => ?_) (fun c7_2 => ?_)
    · skip
      refine z_iconst C (v := 0) dX5_in_14 (by decide) ?_
      exact z_zret C () rfl rfl (by decide) (by decide) (by decide) dX5_in_15
    · skip
      refine z_iconst C (v := 1) dX5_in_10 (by decide) ?_
      refine z_goto C (tgt := 15) dX5_in_11 (by decide) ?_
      exact z_zret C () (by exfalso; first | omega | contradiction | exact absurd (by assumption) (Int32.not_le.mpr (by assumption)) | exact hv.elim (fun h => by contradiction) (fun h => by contradiction)) rfl (by decide) (by decide) (by decide) dX5_in_15
set_option maxHeartbeats 4000000 in
set_option maxRecDepth 100000 in
theorem m_isBank_y (l : Launch) (sa : Nat → Nat) (D : va_G) (cI cZ cL : ClassId)  (b : Nat) (hb : b < 5) : zMi (T := Unit) sa D vwCl (zty cI cZ cL) l yX5_isBank wsX5_isBank ({ frames := 0, cells := 0, slots := 0, locals := 0 } : Room) [.int (nI b)] [] (fun r9 _ => r9 = 1) (fun _ => []) 0 0 := by
  refine zMi.of (ret := (some .boolean)) (cc := cX5_isBank) (nL := 1) (own := RX5) (by decide +kernel) rfl [(0, .int (nI b))] rfl (Nat.le_of_ble_eq_true rfl) rfl ?_
  intro A p e s m args below meth c C hmn
  refine z_iload_n C dX5_isBank_0 rfl 0 rfl ?_
  refine z_if_lt C (tgt := 13) dX5_isBank_1 (by decide) (fun h => absurd h (nI_pos (by omega))) (fun _ => ?_)
  refine z_iload_n C dX5_isBank_4 rfl 0 rfl ?_
  refine z_iconst C (v := 5) dX5_isBank_5 (by decide) ?_
  refine z_icmp_ge C (tgt := 13) dX5_isBank_6 (by decide) (fun c6_1 => ?_) (fun c6_1 => ?_)
  · skip
    have n_2 : 5 ≤ b := (nI_leI (a := 5) (b := b) (by omega) (by omega)).mp c6_1
    refine z_iconst C (v := 0) dX5_isBank_13 (by decide) ?_
    exact z_zret C () (by exfalso; first | omega | contradiction | exact absurd (by assumption) (Int32.not_le.mpr (by assumption)) | exact hv.elim (fun h => by contradiction) (fun h => by contradiction)) rfl (by decide) (by decide) (by decide) dX5_isBank_14
  · skip
    have n_3 : ¬ 5 ≤ b := fun q => c6_1 ((nI_leI (a := 5) (b := b) (by omega) (by omega)).mpr q)
    refine z_iconst C (v := 1) dX5_isBank_9 (by decide) ?_
    refine z_goto C (tgt := 14) dX5_isBank_10 (by decide) ?_
    exact z_zret C () rfl rfl (by decide) (by decide) (by decide) dX5_isBank_14
set_option maxHeartbeats 4000000 in
set_option maxRecDepth 100000 in
theorem m_isBank_n (l : Launch) (sa : Nat → Nat) (D : va_G) (cI cZ cL : ClassId)  (b : Int32) (hv : b < 0 ∨ 5 ≤ b) : zMi (T := Unit) sa D vwCl (zty cI cZ cL) l yX5_isBank wsX5_isBank ({ frames := 0, cells := 0, slots := 0, locals := 0 } : Room) [.int b] [] (fun r9 _ => r9 = 0) (fun _ => []) 0 0 := by
  refine zMi.of (ret := (some .boolean)) (cc := cX5_isBank) (nL := 1) (own := RX5) (by decide +kernel) rfl [(0, .int b)] rfl (Nat.le_of_ble_eq_true rfl) rfl ?_
  intro A p e s m args below meth c C hmn
  refine z_iload_n C dX5_isBank_0 rfl 0 rfl ?_
  refine z_if_lt C (tgt := 13) dX5_isBank_1 (by decide) (fun c1_1 => ?_) (fun c1_1 => ?_)
  · skip
    refine z_iconst C (v := 0) dX5_isBank_13 (by decide) ?_
    exact z_zret C () rfl rfl (by decide) (by decide) (by decide) dX5_isBank_14
  · skip
    refine z_iload_n C dX5_isBank_4 rfl 0 rfl ?_
    refine z_iconst C (v := 5) dX5_isBank_5 (by decide) ?_
    refine z_icmp_ge C (tgt := 13) dX5_isBank_6 (by decide) (fun c6_2 => ?_) (fun c6_2 => ?_)
    · skip
      refine z_iconst C (v := 0) dX5_isBank_13 (by decide) ?_
      exact z_zret C () rfl rfl (by decide) (by decide) (by decide) dX5_isBank_14
    · skip
      refine z_iconst C (v := 1) dX5_isBank_9 (by decide) ?_
      refine z_goto C (tgt := 14) dX5_isBank_10 (by decide) ?_
      exact z_zret C () (by exfalso; exact hv.elim (fun h => by contradiction) (fun h => by contradiction)) rfl (by decide) (by decide) (by decide) dX5_isBank_14
set_option maxHeartbeats 4000000 in
set_option maxRecDepth 100000 in
theorem m_isPayment_y (l : Launch) (sa : Nat → Nat) (D : va_G) (cI cZ cL : ClassId) (md : Nat → Nat) (acc flo pap clo net bnd frm too amt pri wai fst ldr bor lnt rat plg opn : Nat → Int32) (small price cut proc thr : Int32) (mk lm : Nat) (p9 : Nat) (hp : p9 < mk) (hmk : mk ≤ 60) : zMi (T := Unit) sa D vwCl (zty cI cZ cL) l yX5_isPayment wsX5_isPayment ({ frames := 0, cells := 0, slots := 0, locals := 0 } : Room) [.ref (md 0), .int (nI p9)] (wM md cI cZ acc flo pap clo net bnd frm too amt pri wai fst ldr bor lnt rat plg opn (nI mk) small (nI lm) price cut proc thr) (fun r9 _ => r9 = 1) (fun _ => (wM md cI cZ acc flo pap clo net bnd frm too amt pri wai fst ldr bor lnt rat plg opn (nI mk) small (nI lm) price cut proc thr)) 0 0 := by
  refine zMi.of (ret := (some .boolean)) (cc := cX5_isPayment) (nL := 2) (own := RX5) (by decide +kernel) rfl [(0, .ref (md 0)), (1, .int (nI p9))] rfl (Nat.le_of_ble_eq_true rfl) rfl ?_
  intro A p e s m args below meth c C hmn
  refine z_iload_n C dX5_isPayment_0 rfl 1 rfl ?_
  refine z_if_lt C (tgt := 16) dX5_isPayment_1 (by decide) (fun h => absurd h (nI_pos (by omega))) (fun _ => ?_)
  refine z_iload_n C dX5_isPayment_4 rfl 1 rfl ?_
  refine z_aload_n C dX5_isPayment_5 rfl 0 rfl ?_
  refine z_get C 0 rfl i_X5_isPayment_X5 rfl 6 (by decide) m_X5_isPayment_f79 rfl rfl dX5_isPayment_6 ?_
  refine z_icmp_ge C (tgt := 16) dX5_isPayment_9 (by decide) (fun c9_1 => ?_) (fun c9_1 => ?_)
  · skip
    have n_2 : mk ≤ p9 := (nI_leI (a := mk) (b := p9) (by omega) (by omega)).mp c9_1
    refine z_iconst C (v := 0) dX5_isPayment_16 (by decide) ?_
    exact z_zret C () (by exfalso; first | omega | contradiction | exact absurd (by assumption) (Int32.not_le.mpr (by assumption)) | exact hv.elim (fun h => by contradiction) (fun h => by contradiction)) rfl (by decide) (by decide) (by decide) dX5_isPayment_17
  · skip
    have n_3 : ¬ mk ≤ p9 := fun q => c9_1 ((nI_leI (a := mk) (b := p9) (by omega) (by omega)).mpr q)
    refine z_iconst C (v := 1) dX5_isPayment_12 (by decide) ?_
    refine z_goto C (tgt := 17) dX5_isPayment_13 (by decide) ?_
    exact z_zret C () rfl rfl (by decide) (by decide) (by decide) dX5_isPayment_17
set_option maxHeartbeats 4000000 in
set_option maxRecDepth 100000 in
theorem m_isPayment_n (l : Launch) (sa : Nat → Nat) (D : va_G) (cI cZ cL : ClassId) (md : Nat → Nat) (acc flo pap clo net bnd frm too amt pri wai fst ldr bor lnt rat plg opn : Nat → Int32) (small price cut proc thr : Int32) (mk lm : Nat) (p9 : Int32) (hv : p9 < 0 ∨ nI mk ≤ p9) : zMi (T := Unit) sa D vwCl (zty cI cZ cL) l yX5_isPayment wsX5_isPayment ({ frames := 0, cells := 0, slots := 0, locals := 0 } : Room) [.ref (md 0), .int p9] (wM md cI cZ acc flo pap clo net bnd frm too amt pri wai fst ldr bor lnt rat plg opn (nI mk) small (nI lm) price cut proc thr) (fun r9 _ => r9 = 0) (fun _ => (wM md cI cZ acc flo pap clo net bnd frm too amt pri wai fst ldr bor lnt rat plg opn (nI mk) small (nI lm) price cut proc thr)) 0 0 := by
  refine zMi.of (ret := (some .boolean)) (cc := cX5_isPayment) (nL := 2) (own := RX5) (by decide +kernel) rfl [(0, .ref (md 0)), (1, .int p9)] rfl (Nat.le_of_ble_eq_true rfl) rfl ?_
  intro A p e s m args below meth c C hmn
  refine z_iload_n C dX5_isPayment_0 rfl 1 rfl ?_
  refine z_if_lt C (tgt := 16) dX5_isPayment_1 (by decide) (fun c1_1 => ?_) (fun c1_1 => ?_)
  · skip
    refine z_iconst C (v := 0) dX5_isPayment_16 (by decide) ?_
    exact z_zret C () rfl rfl (by decide) (by decide) (by decide) dX5_isPayment_17
  · skip
    refine z_iload_n C dX5_isPayment_4 rfl 1 rfl ?_
    refine z_aload_n C dX5_isPayment_5 rfl 0 rfl ?_
    refine z_get C 0 rfl i_X5_isPayment_X5 rfl 6 (by decide) m_X5_isPayment_f79 rfl rfl dX5_isPayment_6 ?_
    refine z_icmp_ge C (tgt := 16) dX5_isPayment_9 (by decide) (fun c9_2 => ?_) (fun c9_2 => ?_)
    · skip
      refine z_iconst C (v := 0) dX5_isPayment_16 (by decide) ?_
      exact z_zret C () rfl rfl (by decide) (by decide) (by decide) dX5_isPayment_17
    · skip
      refine z_iconst C (v := 1) dX5_isPayment_12 (by decide) ?_
      refine z_goto C (tgt := 17) dX5_isPayment_13 (by decide) ?_
      exact z_zret C () (by exfalso; exact hv.elim (fun h => by contradiction) (fun h => by contradiction)) rfl (by decide) (by decide) (by decide) dX5_isPayment_17
set_option maxHeartbeats 4000000 in
set_option maxRecDepth 100000 in
theorem m_fund_ok (l : Launch) (sa : Nat → Nat) (D : va_G) (cI cZ cL : ClassId) (md : Nat → Nat) (acc flo pap clo net bnd frm too amt pri wai fst ldr bor lnt rat plg opn : Nat → Int32) (small price cut proc thr : Int32) (mk lm : Nat) (b : Nat) (c9 : Int32) (hb : b < 5) (h1 : ¬ c9 < 1) (h2 : ¬ 1000000 < c9) (hcl : clo b = 0) (h3 : acc b + c9 ≤ 100000000) : zMi (T := Unit) sa D vwCl (zty cI cZ cL) l yX5_fund wsX5_fund ({ frames := 1, cells := 0, slots := 0, locals := 22 } : Room) [.ref (md 0), .int (nI b), .int c9] (wM md cI cZ acc flo pap clo net bnd frm too amt pri wai fst ldr bor lnt rat plg opn (nI mk) small (nI lm) price cut proc thr) (fun r9 _ => r9 = (acc b + c9)) (fun _ => (wM md cI cZ (upd acc b (acc b + c9)) flo pap clo net bnd frm too amt pri wai fst ldr bor lnt rat plg opn (nI mk) small (nI lm) price cut proc 0)) 0 0 := by
  refine zMi.of (ret := (some .int)) (cc := cX5_fund) (nL := 3) (own := RX5) (by decide +kernel) rfl [(0, .ref (md 0)), (1, .int (nI b)), (2, .int c9)] rfl (Nat.le_of_ble_eq_true rfl) rfl ?_
  intro A p e s m args below meth c C hmn
  refine z_aload_n C dX5_fund_0 rfl 0 rfl ?_
  refine z_iload_n C dX5_fund_1 rfl 1 rfl ?_
  refine z_callSi C (T := Unit) (As := [.int (nI b)]) (rest := [.ref (md 0)]) (ws' := fun _ => (wM md cI cZ acc flo pap clo net bnd frm too amt pri wai fst ldr bor lnt rat plg opn (nI mk) small (nI lm) price cut proc thr)) (m_isBank_y l sa D cI cZ cL  b (by first | assumption | omega)) (va_cwS 1 C.2.2.2.2.1 gX5_fund_X5_isBank rfl rfl rfl (by decide +kernel) ⟨Nat.le_of_ble_eq_true rfl, Nat.le_of_ble_eq_true rfl⟩) (fun _ => zSub.none) zIn.none rfl (Nat.le_of_ble_eq_true rfl) ⟨Nat.le_of_ble_eq_true rfl, Nat.le_of_ble_eq_true rfl⟩ dX5_fund_2 (fun r_1 _ h_2 => ?_)
  obtain rfl : r_1 = 1 := h_2
  refine z_callVi C (T := Unit) (As := [.int 1]) (rest := []) (ws' := fun _ => (wM md cI cZ acc flo pap clo net bnd frm too amt pri wai fst ldr bor lnt rat plg opn (nI mk) small (nI lm) price cut proc 0)) (m_asks_y l sa D cI cZ cL md acc flo pap clo net bnd frm too amt pri wai fst ldr bor lnt rat plg opn small price cut proc thr mk lm  ) (cwV 1 C.2.2.2.2.1 gX5_fund_X5_asks rfl rfl rfl (by decide +kernel) ⟨Nat.le_of_ble_eq_true rfl, Nat.le_of_ble_eq_true rfl⟩) 0 rfl rfl rfl (fun _ => zSub.full) zIn.full rfl (Nat.le_of_ble_eq_true rfl) ⟨Nat.le_of_ble_eq_true rfl, Nat.le_of_ble_eq_true rfl⟩ dX5_fund_5 (fun r_3 _ h_4 => ?_)
  obtain rfl : r_3 = 1 := h_4
  refine z_if_ne C (tgt := 13) dX5_fund_8 (by decide) (fun _ => ?_) (fun h => absurd h (by decide))
  refine z_iload_n C dX5_fund_13 rfl 2 rfl ?_
  refine z_iconst C (v := 1) dX5_fund_14 (by decide) ?_
  refine z_ldc C m_X5_fund_k75 dX5_fund_15 ?_
  refine z_callSi C (T := Unit) (As := [.int c9, .int 1, .int 1000000]) (rest := []) (ws' := fun _ => (wM md cI cZ acc flo pap clo net bnd frm too amt pri wai fst ldr bor lnt rat plg opn (nI mk) small (nI lm) price cut proc 0)) (m_in_y l sa D cI cZ cL  c9 1 1000000 (by first | assumption | omega) (by first | assumption | omega)) (va_cwS 3 C.2.2.2.2.1 gX5_fund_X5_in rfl rfl rfl (by decide +kernel) ⟨Nat.le_of_ble_eq_true rfl, Nat.le_of_ble_eq_true rfl⟩) (fun _ => zSub.none) zIn.none rfl (Nat.le_of_ble_eq_true rfl) ⟨Nat.le_of_ble_eq_true rfl, Nat.le_of_ble_eq_true rfl⟩ dX5_fund_17 (fun r_5 _ h_6 => ?_)
  obtain rfl : r_5 = 1 := h_6
  refine z_if_ne C (tgt := 29) dX5_fund_20 (by decide) (fun _ => ?_) (fun h => absurd h (by decide))
  refine z_aload_n C dX5_fund_29 rfl 0 rfl ?_
  refine z_get C 0 rfl i_X5_fund_X5 rfl 3 (by decide) m_X5_fund_f19 rfl rfl dX5_fund_30 ?_
  refine z_iload_n C dX5_fund_33 rfl 1 rfl ?_
  refine z_zald C 4 1 rfl rfl b (nI_clamp (by omega)) (vp_in_nI (by omega) (by omega)) (clo b) rfl dX5_fund_34 ?_
  refine z_if_ne C (tgt := 51) dX5_fund_35 (by decide) (fun c35_7 => ?_) (fun c35_7 => ?_)
  · skip
    refine z_aload_n C dX5_fund_51 rfl 0 rfl ?_
    refine z_iconst C (v := 3) dX5_fund_52 (by decide) ?_
    exfalso
    first | omega | contradiction | exact absurd (by assumption) (Int32.not_le.mpr (by assumption)) | exact absurd (by assumption) (Int32.not_lt.mpr (by assumption))
  · skip
    refine z_aload_n C dX5_fund_38 rfl 0 rfl ?_
    refine z_get C 0 rfl i_X5_fund_X5 rfl 0 (by decide) m_X5_fund_f7 rfl rfl dX5_fund_39 ?_
    refine z_iload_n C dX5_fund_42 rfl 1 rfl ?_
    refine z_iald C 1 0 rfl rfl b (nI_clamp (by omega)) (vp_in_nI (by omega) (by omega)) (acc b) rfl dX5_fund_43 ?_
    refine z_iload_n C dX5_fund_44 rfl 2 rfl ?_
    refine z_iadd C (v := ((acc b) + c9)) dX5_fund_45 rfl ?_
    refine z_ldc C m_X5_fund_k98 dX5_fund_46 ?_
    refine z_icmp_le C (tgt := 57) dX5_fund_48 (by decide) (fun c48_8 => ?_) (fun c48_8 => ?_)
    · skip
      refine z_aload_n C dX5_fund_57 rfl 0 rfl ?_
      refine z_get C 0 rfl i_X5_fund_X5 rfl 0 (by decide) m_X5_fund_f7 rfl rfl dX5_fund_58 ?_
      refine z_iload_n C dX5_fund_61 rfl 1 rfl ?_
      refine z_dup2 C dX5_fund_62 rfl rfl ?_
      refine z_iald C 1 0 rfl rfl b (nI_clamp (by omega)) (vp_in_nI (by omega) (by omega)) (acc b) rfl dX5_fund_63 ?_
      refine z_iload_n C dX5_fund_64 rfl 2 rfl ?_
      refine z_iadd C (v := ((acc b) + c9)) dX5_fund_65 rfl ?_
      refine z_iast C 1 0 rfl rfl b (nI_clamp (by omega)) (vp_in_nI (by omega) (by omega)) ((acc b) + c9) rfl dX5_fund_66 (wM md cI cZ (upd acc b ((acc b) + c9)) flo pap clo net bnd frm too amt pri wai fst ldr bor lnt rat plg opn (nI mk) small (nI lm) price cut proc 0) rfl ?_
      refine z_aload_n C dX5_fund_67 rfl 0 rfl ?_
      refine z_get C 0 rfl i_X5_fund_X5 rfl 0 (by decide) m_X5_fund_f7 rfl rfl dX5_fund_68 ?_
      refine z_iload_n C dX5_fund_71 rfl 1 rfl ?_
      refine z_iald C 1 0 rfl rfl b (nI_clamp (by omega)) (vp_in_nI (by omega) (by omega)) ((upd acc b ((acc b) + c9)) b) rfl dX5_fund_72 ?_
      exact z_iret C () (by simp [upd]) rfl (by decide) (by decide) dX5_fund_73
    · skip
      refine z_aload_n C dX5_fund_51 rfl 0 rfl ?_
      refine z_iconst C (v := 3) dX5_fund_52 (by decide) ?_
      exfalso
      first | omega | contradiction | exact absurd (by assumption) (Int32.not_le.mpr (by assumption)) | exact absurd (by assumption) (Int32.not_lt.mpr (by assumption))
set_option maxHeartbeats 4000000 in
set_option maxRecDepth 100000 in
theorem m_fund_b1 (l : Launch) (sa : Nat → Nat) (D : va_G) (cI cZ cL : ClassId) (md : Nat → Nat) (acc flo pap clo net bnd frm too amt pri wai fst ldr bor lnt rat plg opn : Nat → Int32) (small price cut proc thr : Int32) (mk lm : Nat) (b : Int32) (c9 : Int32) (hb : b < 0 ∨ 5 ≤ b) : zMi (T := Unit) sa D vwCl (zty cI cZ cL) l yX5_fund wsX5_fund ({ frames := 1, cells := 0, slots := 0, locals := 21 } : Room) [.ref (md 0), .int b, .int c9] (wM md cI cZ acc flo pap clo net bnd frm too amt pri wai fst ldr bor lnt rat plg opn (nI mk) small (nI lm) price cut proc thr) (fun r9 _ => r9 = 0) (fun _ => (wM md cI cZ acc flo pap clo net bnd frm too amt pri wai fst ldr bor lnt rat plg opn (nI mk) small (nI lm) price cut proc 1)) 0 0 := by
  refine zMi.of (ret := (some .int)) (cc := cX5_fund) (nL := 3) (own := RX5) (by decide +kernel) rfl [(0, .ref (md 0)), (1, .int b), (2, .int c9)] rfl (Nat.le_of_ble_eq_true rfl) rfl ?_
  intro A p e s m args below meth c C hmn
  refine z_aload_n C dX5_fund_0 rfl 0 rfl ?_
  refine z_iload_n C dX5_fund_1 rfl 1 rfl ?_
  refine z_callSi C (T := Unit) (As := [.int b]) (rest := [.ref (md 0)]) (ws' := fun _ => (wM md cI cZ acc flo pap clo net bnd frm too amt pri wai fst ldr bor lnt rat plg opn (nI mk) small (nI lm) price cut proc thr)) (m_isBank_n l sa D cI cZ cL  b (by first | assumption | omega)) (va_cwS 1 C.2.2.2.2.1 gX5_fund_X5_isBank rfl rfl rfl (by decide +kernel) ⟨Nat.le_of_ble_eq_true rfl, Nat.le_of_ble_eq_true rfl⟩) (fun _ => zSub.none) zIn.none rfl (Nat.le_of_ble_eq_true rfl) ⟨Nat.le_of_ble_eq_true rfl, Nat.le_of_ble_eq_true rfl⟩ dX5_fund_2 (fun r_1 _ h_2 => ?_)
  obtain rfl : r_1 = 0 := h_2
  refine z_callVi C (T := Unit) (As := [.int 0]) (rest := []) (ws' := fun _ => (wM md cI cZ acc flo pap clo net bnd frm too amt pri wai fst ldr bor lnt rat plg opn (nI mk) small (nI lm) price cut proc 1)) (m_asks_n l sa D cI cZ cL md acc flo pap clo net bnd frm too amt pri wai fst ldr bor lnt rat plg opn small price cut proc thr mk lm  ) (cwV 1 C.2.2.2.2.1 gX5_fund_X5_asks rfl rfl rfl (by decide +kernel) ⟨Nat.le_of_ble_eq_true rfl, Nat.le_of_ble_eq_true rfl⟩) 0 rfl rfl rfl (fun _ => zSub.full) zIn.full rfl (Nat.le_of_ble_eq_true rfl) ⟨Nat.le_of_ble_eq_true rfl, Nat.le_of_ble_eq_true rfl⟩ dX5_fund_5 (fun r_3 _ h_4 => ?_)
  obtain rfl : r_3 = 0 := h_4
  refine z_if_ne C (tgt := 13) dX5_fund_8 (by decide) (fun h => absurd h (by decide)) (fun _ => ?_)
  refine z_iconst C (v := 0) dX5_fund_11 (by decide) ?_
  exact z_iret C () rfl rfl (by decide) (by decide) dX5_fund_12
set_option maxHeartbeats 4000000 in
set_option maxRecDepth 100000 in
theorem m_fund_b2 (l : Launch) (sa : Nat → Nat) (D : va_G) (cI cZ cL : ClassId) (md : Nat → Nat) (acc flo pap clo net bnd frm too amt pri wai fst ldr bor lnt rat plg opn : Nat → Int32) (small price cut proc thr : Int32) (mk lm : Nat) (b : Nat) (c9 : Int32) (hb : b < 5) (hbad : c9 < 1 ∨ 1000000 < c9) : zMi (T := Unit) sa D vwCl (zty cI cZ cL) l yX5_fund wsX5_fund ({ frames := 1, cells := 0, slots := 0, locals := 22 } : Room) [.ref (md 0), .int (nI b), .int c9] (wM md cI cZ acc flo pap clo net bnd frm too amt pri wai fst ldr bor lnt rat plg opn (nI mk) small (nI lm) price cut proc thr) (fun r9 _ => r9 = 0) (fun _ => (wM md cI cZ acc flo pap clo net bnd frm too amt pri wai fst ldr bor lnt rat plg opn (nI mk) small (nI lm) price cut proc 2)) 0 0 := by
  refine zMi.of (ret := (some .int)) (cc := cX5_fund) (nL := 3) (own := RX5) (by decide +kernel) rfl [(0, .ref (md 0)), (1, .int (nI b)), (2, .int c9)] rfl (Nat.le_of_ble_eq_true rfl) rfl ?_
  intro A p e s m args below meth c C hmn
  refine z_aload_n C dX5_fund_0 rfl 0 rfl ?_
  refine z_iload_n C dX5_fund_1 rfl 1 rfl ?_
  refine z_callSi C (T := Unit) (As := [.int (nI b)]) (rest := [.ref (md 0)]) (ws' := fun _ => (wM md cI cZ acc flo pap clo net bnd frm too amt pri wai fst ldr bor lnt rat plg opn (nI mk) small (nI lm) price cut proc thr)) (m_isBank_y l sa D cI cZ cL  b (by first | assumption | omega)) (va_cwS 1 C.2.2.2.2.1 gX5_fund_X5_isBank rfl rfl rfl (by decide +kernel) ⟨Nat.le_of_ble_eq_true rfl, Nat.le_of_ble_eq_true rfl⟩) (fun _ => zSub.none) zIn.none rfl (Nat.le_of_ble_eq_true rfl) ⟨Nat.le_of_ble_eq_true rfl, Nat.le_of_ble_eq_true rfl⟩ dX5_fund_2 (fun r_1 _ h_2 => ?_)
  obtain rfl : r_1 = 1 := h_2
  refine z_callVi C (T := Unit) (As := [.int 1]) (rest := []) (ws' := fun _ => (wM md cI cZ acc flo pap clo net bnd frm too amt pri wai fst ldr bor lnt rat plg opn (nI mk) small (nI lm) price cut proc 0)) (m_asks_y l sa D cI cZ cL md acc flo pap clo net bnd frm too amt pri wai fst ldr bor lnt rat plg opn small price cut proc thr mk lm  ) (cwV 1 C.2.2.2.2.1 gX5_fund_X5_asks rfl rfl rfl (by decide +kernel) ⟨Nat.le_of_ble_eq_true rfl, Nat.le_of_ble_eq_true rfl⟩) 0 rfl rfl rfl (fun _ => zSub.full) zIn.full rfl (Nat.le_of_ble_eq_true rfl) ⟨Nat.le_of_ble_eq_true rfl, Nat.le_of_ble_eq_true rfl⟩ dX5_fund_5 (fun r_3 _ h_4 => ?_)
  obtain rfl : r_3 = 1 := h_4
  refine z_if_ne C (tgt := 13) dX5_fund_8 (by decide) (fun _ => ?_) (fun h => absurd h (by decide))
  refine z_iload_n C dX5_fund_13 rfl 2 rfl ?_
  refine z_iconst C (v := 1) dX5_fund_14 (by decide) ?_
  refine z_ldc C m_X5_fund_k75 dX5_fund_15 ?_
  refine z_callSi C (T := Unit) (As := [.int c9, .int 1, .int 1000000]) (rest := []) (ws' := fun _ => (wM md cI cZ acc flo pap clo net bnd frm too amt pri wai fst ldr bor lnt rat plg opn (nI mk) small (nI lm) price cut proc 0)) (m_in_n l sa D cI cZ cL  c9 1 1000000 (by first | assumption | omega)) (va_cwS 3 C.2.2.2.2.1 gX5_fund_X5_in rfl rfl rfl (by decide +kernel) ⟨Nat.le_of_ble_eq_true rfl, Nat.le_of_ble_eq_true rfl⟩) (fun _ => zSub.none) zIn.none rfl (Nat.le_of_ble_eq_true rfl) ⟨Nat.le_of_ble_eq_true rfl, Nat.le_of_ble_eq_true rfl⟩ dX5_fund_17 (fun r_5 _ h_6 => ?_)
  obtain rfl : r_5 = 0 := h_6
  refine z_if_ne C (tgt := 29) dX5_fund_20 (by decide) (fun h => absurd h (by decide)) (fun _ => ?_)
  refine z_aload_n C dX5_fund_23 rfl 0 rfl ?_
  refine z_iconst C (v := 2) dX5_fund_24 (by decide) ?_
  refine z_callVi C (T := Unit) (As := [.int 2]) (rest := []) (ws' := fun _ => (wM md cI cZ acc flo pap clo net bnd frm too amt pri wai fst ldr bor lnt rat plg opn (nI mk) small (nI lm) price cut proc 2)) (m_fails l sa D cI cZ cL md acc flo pap clo net bnd frm too amt pri wai fst ldr bor lnt rat plg opn small price cut proc 0 mk lm 2 ) (cwV 1 C.2.2.2.2.1 gX5_fund_X5_fails rfl rfl rfl (by decide +kernel) ⟨Nat.le_of_ble_eq_true rfl, Nat.le_of_ble_eq_true rfl⟩) 0 rfl rfl rfl (fun _ => zSub.full) zIn.full rfl (Nat.le_of_ble_eq_true rfl) ⟨Nat.le_of_ble_eq_true rfl, Nat.le_of_ble_eq_true rfl⟩ dX5_fund_25 (fun r_7 _ h_8 => ?_)
  obtain rfl : r_7 = 0 := h_8
  exact z_iret C () rfl rfl (by decide) (by decide) dX5_fund_28
set_option maxHeartbeats 4000000 in
set_option maxRecDepth 100000 in
theorem m_fund_b3 (l : Launch) (sa : Nat → Nat) (D : va_G) (cI cZ cL : ClassId) (md : Nat → Nat) (acc flo pap clo net bnd frm too amt pri wai fst ldr bor lnt rat plg opn : Nat → Int32) (small price cut proc thr : Int32) (mk lm : Nat) (b : Nat) (c9 : Int32) (hb : b < 5) (h1 : ¬ c9 < 1) (h2 : ¬ 1000000 < c9) (hbad : ¬ (clo b = 0 ∧ acc b + c9 ≤ 100000000)) : zMi (T := Unit) sa D vwCl (zty cI cZ cL) l yX5_fund wsX5_fund ({ frames := 1, cells := 0, slots := 0, locals := 22 } : Room) [.ref (md 0), .int (nI b), .int c9] (wM md cI cZ acc flo pap clo net bnd frm too amt pri wai fst ldr bor lnt rat plg opn (nI mk) small (nI lm) price cut proc thr) (fun r9 _ => r9 = 0) (fun _ => (wM md cI cZ acc flo pap clo net bnd frm too amt pri wai fst ldr bor lnt rat plg opn (nI mk) small (nI lm) price cut proc 3)) 0 0 := by
  refine zMi.of (ret := (some .int)) (cc := cX5_fund) (nL := 3) (own := RX5) (by decide +kernel) rfl [(0, .ref (md 0)), (1, .int (nI b)), (2, .int c9)] rfl (Nat.le_of_ble_eq_true rfl) rfl ?_
  intro A p e s m args below meth c C hmn
  refine z_aload_n C dX5_fund_0 rfl 0 rfl ?_
  refine z_iload_n C dX5_fund_1 rfl 1 rfl ?_
  refine z_callSi C (T := Unit) (As := [.int (nI b)]) (rest := [.ref (md 0)]) (ws' := fun _ => (wM md cI cZ acc flo pap clo net bnd frm too amt pri wai fst ldr bor lnt rat plg opn (nI mk) small (nI lm) price cut proc thr)) (m_isBank_y l sa D cI cZ cL  b (by first | assumption | omega)) (va_cwS 1 C.2.2.2.2.1 gX5_fund_X5_isBank rfl rfl rfl (by decide +kernel) ⟨Nat.le_of_ble_eq_true rfl, Nat.le_of_ble_eq_true rfl⟩) (fun _ => zSub.none) zIn.none rfl (Nat.le_of_ble_eq_true rfl) ⟨Nat.le_of_ble_eq_true rfl, Nat.le_of_ble_eq_true rfl⟩ dX5_fund_2 (fun r_1 _ h_2 => ?_)
  obtain rfl : r_1 = 1 := h_2
  refine z_callVi C (T := Unit) (As := [.int 1]) (rest := []) (ws' := fun _ => (wM md cI cZ acc flo pap clo net bnd frm too amt pri wai fst ldr bor lnt rat plg opn (nI mk) small (nI lm) price cut proc 0)) (m_asks_y l sa D cI cZ cL md acc flo pap clo net bnd frm too amt pri wai fst ldr bor lnt rat plg opn small price cut proc thr mk lm  ) (cwV 1 C.2.2.2.2.1 gX5_fund_X5_asks rfl rfl rfl (by decide +kernel) ⟨Nat.le_of_ble_eq_true rfl, Nat.le_of_ble_eq_true rfl⟩) 0 rfl rfl rfl (fun _ => zSub.full) zIn.full rfl (Nat.le_of_ble_eq_true rfl) ⟨Nat.le_of_ble_eq_true rfl, Nat.le_of_ble_eq_true rfl⟩ dX5_fund_5 (fun r_3 _ h_4 => ?_)
  obtain rfl : r_3 = 1 := h_4
  refine z_if_ne C (tgt := 13) dX5_fund_8 (by decide) (fun _ => ?_) (fun h => absurd h (by decide))
  refine z_iload_n C dX5_fund_13 rfl 2 rfl ?_
  refine z_iconst C (v := 1) dX5_fund_14 (by decide) ?_
  refine z_ldc C m_X5_fund_k75 dX5_fund_15 ?_
  refine z_callSi C (T := Unit) (As := [.int c9, .int 1, .int 1000000]) (rest := []) (ws' := fun _ => (wM md cI cZ acc flo pap clo net bnd frm too amt pri wai fst ldr bor lnt rat plg opn (nI mk) small (nI lm) price cut proc 0)) (m_in_y l sa D cI cZ cL  c9 1 1000000 (by first | assumption | omega) (by first | assumption | omega)) (va_cwS 3 C.2.2.2.2.1 gX5_fund_X5_in rfl rfl rfl (by decide +kernel) ⟨Nat.le_of_ble_eq_true rfl, Nat.le_of_ble_eq_true rfl⟩) (fun _ => zSub.none) zIn.none rfl (Nat.le_of_ble_eq_true rfl) ⟨Nat.le_of_ble_eq_true rfl, Nat.le_of_ble_eq_true rfl⟩ dX5_fund_17 (fun r_5 _ h_6 => ?_)
  obtain rfl : r_5 = 1 := h_6
  refine z_if_ne C (tgt := 29) dX5_fund_20 (by decide) (fun _ => ?_) (fun h => absurd h (by decide))
  refine z_aload_n C dX5_fund_29 rfl 0 rfl ?_
  refine z_get C 0 rfl i_X5_fund_X5 rfl 3 (by decide) m_X5_fund_f19 rfl rfl dX5_fund_30 ?_
  refine z_iload_n C dX5_fund_33 rfl 1 rfl ?_
  refine z_zald C 4 1 rfl rfl b (nI_clamp (by omega)) (vp_in_nI (by omega) (by omega)) (clo b) rfl dX5_fund_34 ?_
  refine z_if_ne C (tgt := 51) dX5_fund_35 (by decide) (fun c35_7 => ?_) (fun c35_7 => ?_)
  · skip
    refine z_aload_n C dX5_fund_51 rfl 0 rfl ?_
    refine z_iconst C (v := 3) dX5_fund_52 (by decide) ?_
    refine z_callVi C (T := Unit) (As := [.int 3]) (rest := []) (ws' := fun _ => (wM md cI cZ acc flo pap clo net bnd frm too amt pri wai fst ldr bor lnt rat plg opn (nI mk) small (nI lm) price cut proc 3)) (m_fails l sa D cI cZ cL md acc flo pap clo net bnd frm too amt pri wai fst ldr bor lnt rat plg opn small price cut proc 0 mk lm 3 ) (cwV 1 C.2.2.2.2.1 gX5_fund_X5_fails rfl rfl rfl (by decide +kernel) ⟨Nat.le_of_ble_eq_true rfl, Nat.le_of_ble_eq_true rfl⟩) 0 rfl rfl rfl (fun _ => zSub.full) zIn.full rfl (Nat.le_of_ble_eq_true rfl) ⟨Nat.le_of_ble_eq_true rfl, Nat.le_of_ble_eq_true rfl⟩ dX5_fund_53 (fun r_8 _ h_9 => ?_)
    obtain rfl : r_8 = 0 := h_9
    exact z_iret C () rfl rfl (by decide) (by decide) dX5_fund_56
  · skip
    refine z_aload_n C dX5_fund_38 rfl 0 rfl ?_
    refine z_get C 0 rfl i_X5_fund_X5 rfl 0 (by decide) m_X5_fund_f7 rfl rfl dX5_fund_39 ?_
    refine z_iload_n C dX5_fund_42 rfl 1 rfl ?_
    refine z_iald C 1 0 rfl rfl b (nI_clamp (by omega)) (vp_in_nI (by omega) (by omega)) (acc b) rfl dX5_fund_43 ?_
    refine z_iload_n C dX5_fund_44 rfl 2 rfl ?_
    refine z_iadd C (v := ((acc b) + c9)) dX5_fund_45 rfl ?_
    refine z_ldc C m_X5_fund_k98 dX5_fund_46 ?_
    refine z_icmp_le C (tgt := 57) dX5_fund_48 (by decide) (fun c48_10 => ?_) (fun c48_10 => ?_)
    · skip
      exfalso
      exact hbad ⟨by assumption, by assumption⟩
    · skip
      refine z_aload_n C dX5_fund_51 rfl 0 rfl ?_
      refine z_iconst C (v := 3) dX5_fund_52 (by decide) ?_
      refine z_callVi C (T := Unit) (As := [.int 3]) (rest := []) (ws' := fun _ => (wM md cI cZ acc flo pap clo net bnd frm too amt pri wai fst ldr bor lnt rat plg opn (nI mk) small (nI lm) price cut proc 3)) (m_fails l sa D cI cZ cL md acc flo pap clo net bnd frm too amt pri wai fst ldr bor lnt rat plg opn small price cut proc 0 mk lm 3 ) (cwV 1 C.2.2.2.2.1 gX5_fund_X5_fails rfl rfl rfl (by decide +kernel) ⟨Nat.le_of_ble_eq_true rfl, Nat.le_of_ble_eq_true rfl⟩) 0 rfl rfl rfl (fun _ => zSub.full) zIn.full rfl (Nat.le_of_ble_eq_true rfl) ⟨Nat.le_of_ble_eq_true rfl, Nat.le_of_ble_eq_true rfl⟩ dX5_fund_53 (fun r_11 _ h_12 => ?_)
      obtain rfl : r_11 = 0 := h_12
      exact z_iret C () rfl rfl (by decide) (by decide) dX5_fund_56
set_option maxHeartbeats 4000000 in
set_option maxRecDepth 100000 in
theorem m_setFloor_ok (l : Launch) (sa : Nat → Nat) (D : va_G) (cI cZ cL : ClassId) (md : Nat → Nat) (acc flo pap clo net bnd frm too amt pri wai fst ldr bor lnt rat plg opn : Nat → Int32) (small price cut proc thr : Int32) (mk lm : Nat) (b : Nat) (f : Int32) (hb : b < 5) (h1 : ¬ f < -1000000) (h2 : ¬ 0 < f) (h3 : ¬ acc b < f) : zMi (T := Unit) sa D vwCl (zty cI cZ cL) l yX5_setFloor wsX5_setFloor ({ frames := 1, cells := 0, slots := 0, locals := 22 } : Room) [.ref (md 0), .int (nI b), .int f] (wM md cI cZ acc flo pap clo net bnd frm too amt pri wai fst ldr bor lnt rat plg opn (nI mk) small (nI lm) price cut proc thr) (fun r9 _ => r9 = (flo b)) (fun _ => (wM md cI cZ acc (upd flo b f) pap clo net bnd frm too amt pri wai fst ldr bor lnt rat plg opn (nI mk) small (nI lm) price cut proc 0)) 0 0 := by
  refine zMi.of (ret := (some .int)) (cc := cX5_setFloor) (nL := 4) (own := RX5) (by decide +kernel) rfl [(0, .ref (md 0)), (1, .int (nI b)), (2, .int f)] rfl (Nat.le_of_ble_eq_true rfl) rfl ?_
  intro A p e s m args below meth c C hmn
  refine z_aload_n C dX5_setFloor_0 rfl 0 rfl ?_
  refine z_iload_n C dX5_setFloor_1 rfl 1 rfl ?_
  refine z_callSi C (T := Unit) (As := [.int (nI b)]) (rest := [.ref (md 0)]) (ws' := fun _ => (wM md cI cZ acc flo pap clo net bnd frm too amt pri wai fst ldr bor lnt rat plg opn (nI mk) small (nI lm) price cut proc thr)) (m_isBank_y l sa D cI cZ cL  b (by first | assumption | omega)) (va_cwS 1 C.2.2.2.2.1 gX5_setFloor_X5_isBank rfl rfl rfl (by decide +kernel) ⟨Nat.le_of_ble_eq_true rfl, Nat.le_of_ble_eq_true rfl⟩) (fun _ => zSub.none) zIn.none rfl (Nat.le_of_ble_eq_true rfl) ⟨Nat.le_of_ble_eq_true rfl, Nat.le_of_ble_eq_true rfl⟩ dX5_setFloor_2 (fun r_1 _ h_2 => ?_)
  obtain rfl : r_1 = 1 := h_2
  refine z_callVi C (T := Unit) (As := [.int 1]) (rest := []) (ws' := fun _ => (wM md cI cZ acc flo pap clo net bnd frm too amt pri wai fst ldr bor lnt rat plg opn (nI mk) small (nI lm) price cut proc 0)) (m_asks_y l sa D cI cZ cL md acc flo pap clo net bnd frm too amt pri wai fst ldr bor lnt rat plg opn small price cut proc thr mk lm  ) (cwV 1 C.2.2.2.2.1 gX5_setFloor_X5_asks rfl rfl rfl (by decide +kernel) ⟨Nat.le_of_ble_eq_true rfl, Nat.le_of_ble_eq_true rfl⟩) 0 rfl rfl rfl (fun _ => zSub.full) zIn.full rfl (Nat.le_of_ble_eq_true rfl) ⟨Nat.le_of_ble_eq_true rfl, Nat.le_of_ble_eq_true rfl⟩ dX5_setFloor_5 (fun r_3 _ h_4 => ?_)
  obtain rfl : r_3 = 1 := h_4
  refine z_if_ne C (tgt := 13) dX5_setFloor_8 (by decide) (fun _ => ?_) (fun h => absurd h (by decide))
  refine z_iload_n C dX5_setFloor_13 rfl 2 rfl ?_
  refine z_ldc C m_X5_setFloor_k99 dX5_setFloor_14 ?_
  refine z_iconst C (v := 0) dX5_setFloor_16 (by decide) ?_
  refine z_callSi C (T := Unit) (As := [.int f, .int (-1000000), .int 0]) (rest := []) (ws' := fun _ => (wM md cI cZ acc flo pap clo net bnd frm too amt pri wai fst ldr bor lnt rat plg opn (nI mk) small (nI lm) price cut proc 0)) (m_in_y l sa D cI cZ cL  f (-1000000) 0 (by first | assumption | omega) (by first | assumption | omega)) (va_cwS 3 C.2.2.2.2.1 gX5_setFloor_X5_in rfl rfl rfl (by decide +kernel) ⟨Nat.le_of_ble_eq_true rfl, Nat.le_of_ble_eq_true rfl⟩) (fun _ => zSub.none) zIn.none rfl (Nat.le_of_ble_eq_true rfl) ⟨Nat.le_of_ble_eq_true rfl, Nat.le_of_ble_eq_true rfl⟩ dX5_setFloor_17 (fun r_5 _ h_6 => ?_)
  obtain rfl : r_5 = 1 := h_6
  refine z_if_eq C (tgt := 33) dX5_setFloor_20 (by decide) (fun h => absurd h (by decide)) (fun _ => ?_)
  refine z_iload_n C dX5_setFloor_23 rfl 2 rfl ?_
  refine z_aload_n C dX5_setFloor_24 rfl 0 rfl ?_
  refine z_get C 0 rfl i_X5_setFloor_X5 rfl 0 (by decide) m_X5_setFloor_f7 rfl rfl dX5_setFloor_25 ?_
  refine z_iload_n C dX5_setFloor_28 rfl 1 rfl ?_
  refine z_iald C 1 0 rfl rfl b (nI_clamp (by omega)) (vp_in_nI (by omega) (by omega)) (acc b) rfl dX5_setFloor_29 ?_
  refine z_icmp_le C (tgt := 39) dX5_setFloor_30 (by decide) (fun c30_7 => ?_) (fun c30_7 => ?_)
  · skip
    refine z_aload_n C dX5_setFloor_39 rfl 0 rfl ?_
    refine z_get C 0 rfl i_X5_setFloor_X5 rfl 1 (by decide) m_X5_setFloor_f13 rfl rfl dX5_setFloor_40 ?_
    refine z_iload_n C dX5_setFloor_43 rfl 1 rfl ?_
    refine z_iald C 2 0 rfl rfl b (nI_clamp (by omega)) (vp_in_nI (by omega) (by omega)) (flo b) rfl dX5_setFloor_44 ?_
    refine z_istore_n C dX5_setFloor_45 rfl (by decide) [(0, .ref (md 0)), (1, .int (nI b)), (2, .int f), (3, .int (flo b))] [1, 2, 3, 0] rfl ?_
    refine z_aload_n C dX5_setFloor_46 rfl 0 rfl ?_
    refine z_get C 0 rfl i_X5_setFloor_X5 rfl 1 (by decide) m_X5_setFloor_f13 rfl rfl dX5_setFloor_47 ?_
    refine z_iload_n C dX5_setFloor_50 rfl 1 rfl ?_
    refine z_iload_n C dX5_setFloor_51 rfl 2 rfl ?_
    refine z_iast C 2 0 rfl rfl b (nI_clamp (by omega)) (vp_in_nI (by omega) (by omega)) f rfl dX5_setFloor_52 (wM md cI cZ acc (upd flo b f) pap clo net bnd frm too amt pri wai fst ldr bor lnt rat plg opn (nI mk) small (nI lm) price cut proc 0) rfl ?_
    refine z_iload_n C dX5_setFloor_53 rfl 3 rfl ?_
    exact z_iret C () rfl rfl (by decide) (by decide) dX5_setFloor_54
  · skip
    refine z_aload_n C dX5_setFloor_33 rfl 0 rfl ?_
    refine z_iconst C (v := 2) dX5_setFloor_34 (by decide) ?_
    exfalso
    exact h3 (Int32.not_le.mp (by assumption))
set_option maxHeartbeats 4000000 in
set_option maxRecDepth 100000 in
theorem m_setFloor_b1 (l : Launch) (sa : Nat → Nat) (D : va_G) (cI cZ cL : ClassId) (md : Nat → Nat) (acc flo pap clo net bnd frm too amt pri wai fst ldr bor lnt rat plg opn : Nat → Int32) (small price cut proc thr : Int32) (mk lm : Nat) (b : Int32) (f : Int32) (hb : b < 0 ∨ 5 ≤ b) : zMi (T := Unit) sa D vwCl (zty cI cZ cL) l yX5_setFloor wsX5_setFloor ({ frames := 1, cells := 0, slots := 0, locals := 21 } : Room) [.ref (md 0), .int b, .int f] (wM md cI cZ acc flo pap clo net bnd frm too amt pri wai fst ldr bor lnt rat plg opn (nI mk) small (nI lm) price cut proc thr) (fun r9 _ => r9 = 0) (fun _ => (wM md cI cZ acc flo pap clo net bnd frm too amt pri wai fst ldr bor lnt rat plg opn (nI mk) small (nI lm) price cut proc 1)) 0 0 := by
  refine zMi.of (ret := (some .int)) (cc := cX5_setFloor) (nL := 4) (own := RX5) (by decide +kernel) rfl [(0, .ref (md 0)), (1, .int b), (2, .int f)] rfl (Nat.le_of_ble_eq_true rfl) rfl ?_
  intro A p e s m args below meth c C hmn
  refine z_aload_n C dX5_setFloor_0 rfl 0 rfl ?_
  refine z_iload_n C dX5_setFloor_1 rfl 1 rfl ?_
  refine z_callSi C (T := Unit) (As := [.int b]) (rest := [.ref (md 0)]) (ws' := fun _ => (wM md cI cZ acc flo pap clo net bnd frm too amt pri wai fst ldr bor lnt rat plg opn (nI mk) small (nI lm) price cut proc thr)) (m_isBank_n l sa D cI cZ cL  b (by first | assumption | omega)) (va_cwS 1 C.2.2.2.2.1 gX5_setFloor_X5_isBank rfl rfl rfl (by decide +kernel) ⟨Nat.le_of_ble_eq_true rfl, Nat.le_of_ble_eq_true rfl⟩) (fun _ => zSub.none) zIn.none rfl (Nat.le_of_ble_eq_true rfl) ⟨Nat.le_of_ble_eq_true rfl, Nat.le_of_ble_eq_true rfl⟩ dX5_setFloor_2 (fun r_1 _ h_2 => ?_)
  obtain rfl : r_1 = 0 := h_2
  refine z_callVi C (T := Unit) (As := [.int 0]) (rest := []) (ws' := fun _ => (wM md cI cZ acc flo pap clo net bnd frm too amt pri wai fst ldr bor lnt rat plg opn (nI mk) small (nI lm) price cut proc 1)) (m_asks_n l sa D cI cZ cL md acc flo pap clo net bnd frm too amt pri wai fst ldr bor lnt rat plg opn small price cut proc thr mk lm  ) (cwV 1 C.2.2.2.2.1 gX5_setFloor_X5_asks rfl rfl rfl (by decide +kernel) ⟨Nat.le_of_ble_eq_true rfl, Nat.le_of_ble_eq_true rfl⟩) 0 rfl rfl rfl (fun _ => zSub.full) zIn.full rfl (Nat.le_of_ble_eq_true rfl) ⟨Nat.le_of_ble_eq_true rfl, Nat.le_of_ble_eq_true rfl⟩ dX5_setFloor_5 (fun r_3 _ h_4 => ?_)
  obtain rfl : r_3 = 0 := h_4
  refine z_if_ne C (tgt := 13) dX5_setFloor_8 (by decide) (fun h => absurd h (by decide)) (fun _ => ?_)
  refine z_iconst C (v := 0) dX5_setFloor_11 (by decide) ?_
  exact z_iret C () rfl rfl (by decide) (by decide) dX5_setFloor_12
set_option maxHeartbeats 4000000 in
set_option maxRecDepth 100000 in
theorem m_setFloor_b2 (l : Launch) (sa : Nat → Nat) (D : va_G) (cI cZ cL : ClassId) (md : Nat → Nat) (acc flo pap clo net bnd frm too amt pri wai fst ldr bor lnt rat plg opn : Nat → Int32) (small price cut proc thr : Int32) (mk lm : Nat) (b : Nat) (f : Int32) (hb : b < 5) (hbad : f < -1000000 ∨ 0 < f ∨ acc b < f) : zMi (T := Unit) sa D vwCl (zty cI cZ cL) l yX5_setFloor wsX5_setFloor ({ frames := 1, cells := 0, slots := 0, locals := 22 } : Room) [.ref (md 0), .int (nI b), .int f] (wM md cI cZ acc flo pap clo net bnd frm too amt pri wai fst ldr bor lnt rat plg opn (nI mk) small (nI lm) price cut proc thr) (fun r9 _ => r9 = 0) (fun _ => (wM md cI cZ acc flo pap clo net bnd frm too amt pri wai fst ldr bor lnt rat plg opn (nI mk) small (nI lm) price cut proc 2)) 0 0 := by
  refine zMi.of (ret := (some .int)) (cc := cX5_setFloor) (nL := 4) (own := RX5) (by decide +kernel) rfl [(0, .ref (md 0)), (1, .int (nI b)), (2, .int f)] rfl (Nat.le_of_ble_eq_true rfl) rfl ?_
  intro A p e s m args below meth c C hmn
  refine z_aload_n C dX5_setFloor_0 rfl 0 rfl ?_
  refine z_iload_n C dX5_setFloor_1 rfl 1 rfl ?_
  refine z_callSi C (T := Unit) (As := [.int (nI b)]) (rest := [.ref (md 0)]) (ws' := fun _ => (wM md cI cZ acc flo pap clo net bnd frm too amt pri wai fst ldr bor lnt rat plg opn (nI mk) small (nI lm) price cut proc thr)) (m_isBank_y l sa D cI cZ cL  b (by first | assumption | omega)) (va_cwS 1 C.2.2.2.2.1 gX5_setFloor_X5_isBank rfl rfl rfl (by decide +kernel) ⟨Nat.le_of_ble_eq_true rfl, Nat.le_of_ble_eq_true rfl⟩) (fun _ => zSub.none) zIn.none rfl (Nat.le_of_ble_eq_true rfl) ⟨Nat.le_of_ble_eq_true rfl, Nat.le_of_ble_eq_true rfl⟩ dX5_setFloor_2 (fun r_1 _ h_2 => ?_)
  obtain rfl : r_1 = 1 := h_2
  refine z_callVi C (T := Unit) (As := [.int 1]) (rest := []) (ws' := fun _ => (wM md cI cZ acc flo pap clo net bnd frm too amt pri wai fst ldr bor lnt rat plg opn (nI mk) small (nI lm) price cut proc 0)) (m_asks_y l sa D cI cZ cL md acc flo pap clo net bnd frm too amt pri wai fst ldr bor lnt rat plg opn small price cut proc thr mk lm  ) (cwV 1 C.2.2.2.2.1 gX5_setFloor_X5_asks rfl rfl rfl (by decide +kernel) ⟨Nat.le_of_ble_eq_true rfl, Nat.le_of_ble_eq_true rfl⟩) 0 rfl rfl rfl (fun _ => zSub.full) zIn.full rfl (Nat.le_of_ble_eq_true rfl) ⟨Nat.le_of_ble_eq_true rfl, Nat.le_of_ble_eq_true rfl⟩ dX5_setFloor_5 (fun r_3 _ h_4 => ?_)
  obtain rfl : r_3 = 1 := h_4
  refine z_if_ne C (tgt := 13) dX5_setFloor_8 (by decide) (fun _ => ?_) (fun h => absurd h (by decide))
  refine z_iload_n C dX5_setFloor_13 rfl 2 rfl ?_
  refine z_ldc C m_X5_setFloor_k99 dX5_setFloor_14 ?_
  refine z_iconst C (v := 0) dX5_setFloor_16 (by decide) ?_
  refine z_case (¬ f < -1000000 ∧ ¬ 0 < f) (fun hp_5 => ?_) (fun hp_5 => ?_)
  · skip
    obtain ⟨_, _⟩ := hp_5
    refine z_callSi C (T := Unit) (As := [.int f, .int (-1000000), .int 0]) (rest := []) (ws' := fun _ => (wM md cI cZ acc flo pap clo net bnd frm too amt pri wai fst ldr bor lnt rat plg opn (nI mk) small (nI lm) price cut proc 0)) (m_in_y l sa D cI cZ cL  f (-1000000) 0 (by first | assumption | omega) (by first | assumption | omega)) (va_cwS 3 C.2.2.2.2.1 gX5_setFloor_X5_in rfl rfl rfl (by decide +kernel) ⟨Nat.le_of_ble_eq_true rfl, Nat.le_of_ble_eq_true rfl⟩) (fun _ => zSub.none) zIn.none rfl (Nat.le_of_ble_eq_true rfl) ⟨Nat.le_of_ble_eq_true rfl, Nat.le_of_ble_eq_true rfl⟩ dX5_setFloor_17 (fun r_6 _ h_7 => ?_)
    obtain rfl : r_6 = 1 := h_7
    refine z_if_eq C (tgt := 33) dX5_setFloor_20 (by decide) (fun h => absurd h (by decide)) (fun _ => ?_)
    refine z_iload_n C dX5_setFloor_23 rfl 2 rfl ?_
    refine z_aload_n C dX5_setFloor_24 rfl 0 rfl ?_
    refine z_get C 0 rfl i_X5_setFloor_X5 rfl 0 (by decide) m_X5_setFloor_f7 rfl rfl dX5_setFloor_25 ?_
    refine z_iload_n C dX5_setFloor_28 rfl 1 rfl ?_
    refine z_iald C 1 0 rfl rfl b (nI_clamp (by omega)) (vp_in_nI (by omega) (by omega)) (acc b) rfl dX5_setFloor_29 ?_
    refine z_icmp_le C (tgt := 39) dX5_setFloor_30 (by decide) (fun c30_8 => ?_) (fun c30_8 => ?_)
    · skip
      exfalso
      exact hbad.elim (fun h => by contradiction) (fun h => h.elim (fun h => by contradiction) (fun h => absurd (by assumption) (Int32.not_le.mpr h)))
    · skip
      refine z_aload_n C dX5_setFloor_33 rfl 0 rfl ?_
      refine z_iconst C (v := 2) dX5_setFloor_34 (by decide) ?_
      refine z_callVi C (T := Unit) (As := [.int 2]) (rest := []) (ws' := fun _ => (wM md cI cZ acc flo pap clo net bnd frm too amt pri wai fst ldr bor lnt rat plg opn (nI mk) small (nI lm) price cut proc 2)) (m_fails l sa D cI cZ cL md acc flo pap clo net bnd frm too amt pri wai fst ldr bor lnt rat plg opn small price cut proc 0 mk lm 2 ) (cwV 1 C.2.2.2.2.1 gX5_setFloor_X5_fails rfl rfl rfl (by decide +kernel) ⟨Nat.le_of_ble_eq_true rfl, Nat.le_of_ble_eq_true rfl⟩) 0 rfl rfl rfl (fun _ => zSub.full) zIn.full rfl (Nat.le_of_ble_eq_true rfl) ⟨Nat.le_of_ble_eq_true rfl, Nat.le_of_ble_eq_true rfl⟩ dX5_setFloor_35 (fun r_9 _ h_10 => ?_)
      obtain rfl : r_9 = 0 := h_10
      exact z_iret C () rfl rfl (by decide) (by decide) dX5_setFloor_38
  · skip
    have := z_rng hp_5
    refine z_callSi C (T := Unit) (As := [.int f, .int (-1000000), .int 0]) (rest := []) (ws' := fun _ => (wM md cI cZ acc flo pap clo net bnd frm too amt pri wai fst ldr bor lnt rat plg opn (nI mk) small (nI lm) price cut proc 0)) (m_in_n l sa D cI cZ cL  f (-1000000) 0 (by first | assumption | omega)) (va_cwS 3 C.2.2.2.2.1 gX5_setFloor_X5_in rfl rfl rfl (by decide +kernel) ⟨Nat.le_of_ble_eq_true rfl, Nat.le_of_ble_eq_true rfl⟩) (fun _ => zSub.none) zIn.none rfl (Nat.le_of_ble_eq_true rfl) ⟨Nat.le_of_ble_eq_true rfl, Nat.le_of_ble_eq_true rfl⟩ dX5_setFloor_17 (fun r_11 _ h_12 => ?_)
    obtain rfl : r_11 = 0 := h_12
    refine z_if_eq C (tgt := 33) dX5_setFloor_20 (by decide) (fun _ => ?_) (fun h => absurd h (by decide))
    refine z_aload_n C dX5_setFloor_33 rfl 0 rfl ?_
    refine z_iconst C (v := 2) dX5_setFloor_34 (by decide) ?_
    refine z_callVi C (T := Unit) (As := [.int 2]) (rest := []) (ws' := fun _ => (wM md cI cZ acc flo pap clo net bnd frm too amt pri wai fst ldr bor lnt rat plg opn (nI mk) small (nI lm) price cut proc 2)) (m_fails l sa D cI cZ cL md acc flo pap clo net bnd frm too amt pri wai fst ldr bor lnt rat plg opn small price cut proc 0 mk lm 2 ) (cwV 1 C.2.2.2.2.1 gX5_setFloor_X5_fails rfl rfl rfl (by decide +kernel) ⟨Nat.le_of_ble_eq_true rfl, Nat.le_of_ble_eq_true rfl⟩) 0 rfl rfl rfl (fun _ => zSub.full) zIn.full rfl (Nat.le_of_ble_eq_true rfl) ⟨Nat.le_of_ble_eq_true rfl, Nat.le_of_ble_eq_true rfl⟩ dX5_setFloor_35 (fun r_13 _ h_14 => ?_)
    obtain rfl : r_13 = 0 := h_14
    exact z_iret C () rfl rfl (by decide) (by decide) dX5_setFloor_38
set_option maxHeartbeats 4000000 in
set_option maxRecDepth 100000 in
theorem m_setBound_ok (l : Launch) (sa : Nat → Nat) (D : va_G) (cI cZ cL : ClassId) (md : Nat → Nat) (acc flo pap clo net bnd frm too amt pri wai fst ldr bor lnt rat plg opn : Nat → Int32) (small price cut proc thr : Int32) (mk lm : Nat) (b : Nat) (o : Nat) (x : Int32) (hb : b < 5) (ho : o < 5) (hft : b ≠ o) (h1 : ¬ x < 0) (h2 : ¬ 1000000 < x) (h3 : ¬ x < net (b * 5 + o)) : zMi (T := Unit) sa D vwCl (zty cI cZ cL) l yX5_setBound wsX5_setBound ({ frames := 1, cells := 0, slots := 0, locals := 22 } : Room) [.ref (md 0), .int (nI b), .int (nI o), .int x] (wM md cI cZ acc flo pap clo net bnd frm too amt pri wai fst ldr bor lnt rat plg opn (nI mk) small (nI lm) price cut proc thr) (fun r9 _ => r9 = (bnd (b * 5 + o))) (fun _ => (wM md cI cZ acc flo pap clo net (upd bnd (b * 5 + o) x) frm too amt pri wai fst ldr bor lnt rat plg opn (nI mk) small (nI lm) price cut proc 0)) 0 0 := by
  refine zMi.of (ret := (some .int)) (cc := cX5_setBound) (nL := 6) (own := RX5) (by decide +kernel) rfl [(0, .ref (md 0)), (1, .int (nI b)), (2, .int (nI o)), (3, .int x)] rfl (Nat.le_of_ble_eq_true rfl) rfl ?_
  intro A p e s m args below meth c C hmn
  refine z_aload_n C dX5_setBound_0 rfl 0 rfl ?_
  refine z_iload_n C dX5_setBound_1 rfl 1 rfl ?_
  refine z_callSi C (T := Unit) (As := [.int (nI b)]) (rest := [.ref (md 0)]) (ws' := fun _ => (wM md cI cZ acc flo pap clo net bnd frm too amt pri wai fst ldr bor lnt rat plg opn (nI mk) small (nI lm) price cut proc thr)) (m_isBank_y l sa D cI cZ cL  b (by first | assumption | omega)) (va_cwS 1 C.2.2.2.2.1 gX5_setBound_X5_isBank rfl rfl rfl (by decide +kernel) ⟨Nat.le_of_ble_eq_true rfl, Nat.le_of_ble_eq_true rfl⟩) (fun _ => zSub.none) zIn.none rfl (Nat.le_of_ble_eq_true rfl) ⟨Nat.le_of_ble_eq_true rfl, Nat.le_of_ble_eq_true rfl⟩ dX5_setBound_2 (fun r_1 _ h_2 => ?_)
  obtain rfl : r_1 = 1 := h_2
  refine z_if_eq C (tgt := 19) dX5_setBound_5 (by decide) (fun h => absurd h (by decide)) (fun _ => ?_)
  refine z_iload_n C dX5_setBound_8 rfl 2 rfl ?_
  refine z_callSi C (T := Unit) (As := [.int (nI o)]) (rest := [.ref (md 0)]) (ws' := fun _ => (wM md cI cZ acc flo pap clo net bnd frm too amt pri wai fst ldr bor lnt rat plg opn (nI mk) small (nI lm) price cut proc thr)) (m_isBank_y l sa D cI cZ cL  o (by first | assumption | omega)) (va_cwS 1 C.2.2.2.2.1 gX5_setBound_X5_isBank rfl rfl rfl (by decide +kernel) ⟨Nat.le_of_ble_eq_true rfl, Nat.le_of_ble_eq_true rfl⟩) (fun _ => zSub.none) zIn.none rfl (Nat.le_of_ble_eq_true rfl) ⟨Nat.le_of_ble_eq_true rfl, Nat.le_of_ble_eq_true rfl⟩ dX5_setBound_9 (fun r_3 _ h_4 => ?_)
  obtain rfl : r_3 = 1 := h_4
  refine z_if_eq C (tgt := 19) dX5_setBound_12 (by decide) (fun h => absurd h (by decide)) (fun _ => ?_)
  refine z_iconst C (v := 1) dX5_setBound_15 (by decide) ?_
  refine z_goto C (tgt := 20) dX5_setBound_16 (by decide) ?_
  refine z_callVi C (T := Unit) (As := [.int 1]) (rest := []) (ws' := fun _ => (wM md cI cZ acc flo pap clo net bnd frm too amt pri wai fst ldr bor lnt rat plg opn (nI mk) small (nI lm) price cut proc 0)) (m_asks_y l sa D cI cZ cL md acc flo pap clo net bnd frm too amt pri wai fst ldr bor lnt rat plg opn small price cut proc thr mk lm  ) (cwV 1 C.2.2.2.2.1 gX5_setBound_X5_asks rfl rfl rfl (by decide +kernel) ⟨Nat.le_of_ble_eq_true rfl, Nat.le_of_ble_eq_true rfl⟩) 0 rfl rfl rfl (fun _ => zSub.full) zIn.full rfl (Nat.le_of_ble_eq_true rfl) ⟨Nat.le_of_ble_eq_true rfl, Nat.le_of_ble_eq_true rfl⟩ dX5_setBound_20 (fun r_5 _ h_6 => ?_)
  obtain rfl : r_5 = 1 := h_6
  refine z_if_ne C (tgt := 28) dX5_setBound_23 (by decide) (fun _ => ?_) (fun h => absurd h (by decide))
  refine z_iconst C (v := 5) dX5_setBound_28 (by decide) ?_
  refine z_iload_n C dX5_setBound_29 rfl 1 rfl ?_
  refine z_imul C (v := (nI (b * 5))) dX5_setBound_30 (z_mulc 5 b) ?_
  refine z_iload_n C dX5_setBound_31 rfl 2 rfl ?_
  refine z_iadd C (v := (nI ((b * 5) + o))) dX5_setBound_32 (nI_add (b * 5) o) ?_
  refine z_istore C dX5_setBound_33 (by decide) [(0, .ref (md 0)), (1, .int (nI b)), (2, .int (nI o)), (3, .int x), (4, .int (nI ((b * 5) + o)))] [1, 2, 3, 4, 0] rfl ?_
  refine z_iload_n C dX5_setBound_35 rfl 1 rfl ?_
  refine z_iload_n C dX5_setBound_36 rfl 2 rfl ?_
  refine z_icmp_eq C (tgt := 61) dX5_setBound_37 (by decide) (fun c37_7 => ?_) (fun c37_7 => ?_)
  · skip
    have n_8 : b = o := (nI_eq (a := b) (b := o) (by omega) (by omega)).mp c37_7
    refine z_aload_n C dX5_setBound_61 rfl 0 rfl ?_
    refine z_iconst C (v := 2) dX5_setBound_62 (by decide) ?_
    exfalso
    first | omega | exact h3 (Int32.not_le.mp (by assumption))
  · skip
    have n_9 : ¬ b = o := fun q => c37_7 ((nI_eq (a := b) (b := o) (by omega) (by omega)).mpr q)
    refine z_iload_n C dX5_setBound_40 rfl 3 rfl ?_
    refine z_iconst C (v := 0) dX5_setBound_41 (by decide) ?_
    refine z_ldc C m_X5_setBound_k75 dX5_setBound_42 ?_
    refine z_callSi C (T := Unit) (As := [.int x, .int 0, .int 1000000]) (rest := []) (ws' := fun _ => (wM md cI cZ acc flo pap clo net bnd frm too amt pri wai fst ldr bor lnt rat plg opn (nI mk) small (nI lm) price cut proc 0)) (m_in_y l sa D cI cZ cL  x 0 1000000 (by first | assumption | omega) (by first | assumption | omega)) (va_cwS 3 C.2.2.2.2.1 gX5_setBound_X5_in rfl rfl rfl (by decide +kernel) ⟨Nat.le_of_ble_eq_true rfl, Nat.le_of_ble_eq_true rfl⟩) (fun _ => zSub.none) zIn.none rfl (Nat.le_of_ble_eq_true rfl) ⟨Nat.le_of_ble_eq_true rfl, Nat.le_of_ble_eq_true rfl⟩ dX5_setBound_44 (fun r_10 _ h_11 => ?_)
    obtain rfl : r_10 = 1 := h_11
    refine z_if_eq C (tgt := 61) dX5_setBound_47 (by decide) (fun h => absurd h (by decide)) (fun _ => ?_)
    refine z_iload_n C dX5_setBound_50 rfl 3 rfl ?_
    refine z_aload_n C dX5_setBound_51 rfl 0 rfl ?_
    refine z_get C 0 rfl i_X5_setBound_X5 rfl 4 (by decide) m_X5_setBound_f23 rfl rfl dX5_setBound_52 ?_
    refine z_iload C dX5_setBound_55 4 rfl ?_
    refine z_iald C 5 0 rfl rfl ((b * 5) + o) (nI_clamp (by omega)) (vp_in_nI (by omega) (by omega)) (net ((b * 5) + o)) rfl dX5_setBound_57 ?_
    refine z_icmp_ge C (tgt := 67) dX5_setBound_58 (by decide) (fun c58_12 => ?_) (fun c58_12 => ?_)
    · skip
      refine z_aload_n C dX5_setBound_67 rfl 0 rfl ?_
      refine z_get C 0 rfl i_X5_setBound_X5 rfl 5 (by decide) m_X5_setBound_f26 rfl rfl dX5_setBound_68 ?_
      refine z_iload C dX5_setBound_71 4 rfl ?_
      refine z_iald C 6 0 rfl rfl ((b * 5) + o) (nI_clamp (by omega)) (vp_in_nI (by omega) (by omega)) (bnd ((b * 5) + o)) rfl dX5_setBound_73 ?_
      refine z_istore C dX5_setBound_74 (by decide) [(0, .ref (md 0)), (1, .int (nI b)), (2, .int (nI o)), (3, .int x), (4, .int (nI ((b * 5) + o))), (5, .int (bnd ((b * 5) + o)))] [1, 2, 3, 4, 5, 0] rfl ?_
      refine z_aload_n C dX5_setBound_76 rfl 0 rfl ?_
      refine z_get C 0 rfl i_X5_setBound_X5 rfl 5 (by decide) m_X5_setBound_f26 rfl rfl dX5_setBound_77 ?_
      refine z_iload C dX5_setBound_80 4 rfl ?_
      refine z_iload_n C dX5_setBound_82 rfl 3 rfl ?_
      refine z_iast C 6 0 rfl rfl ((b * 5) + o) (nI_clamp (by omega)) (vp_in_nI (by omega) (by omega)) x rfl dX5_setBound_83 (wM md cI cZ acc flo pap clo net (upd bnd ((b * 5) + o) x) frm too amt pri wai fst ldr bor lnt rat plg opn (nI mk) small (nI lm) price cut proc 0) rfl ?_
      refine z_iload C dX5_setBound_84 5 rfl ?_
      exact z_iret C () rfl rfl (by decide) (by decide) dX5_setBound_86
    · skip
      refine z_aload_n C dX5_setBound_61 rfl 0 rfl ?_
      refine z_iconst C (v := 2) dX5_setBound_62 (by decide) ?_
      exfalso
      first | omega | exact h3 (Int32.not_le.mp (by assumption))
set_option maxHeartbeats 4000000 in
set_option maxRecDepth 100000 in
theorem m_setBound_b1 (l : Launch) (sa : Nat → Nat) (D : va_G) (cI cZ cL : ClassId) (md : Nat → Nat) (acc flo pap clo net bnd frm too amt pri wai fst ldr bor lnt rat plg opn : Nat → Int32) (small price cut proc thr : Int32) (mk lm : Nat) (b : Int32) (o : Int32) (x : Int32) (hb : b < 0 ∨ 5 ≤ b) : zMi (T := Unit) sa D vwCl (zty cI cZ cL) l yX5_setBound wsX5_setBound ({ frames := 1, cells := 0, slots := 0, locals := 21 } : Room) [.ref (md 0), .int b, .int o, .int x] (wM md cI cZ acc flo pap clo net bnd frm too amt pri wai fst ldr bor lnt rat plg opn (nI mk) small (nI lm) price cut proc thr) (fun r9 _ => r9 = 0) (fun _ => (wM md cI cZ acc flo pap clo net bnd frm too amt pri wai fst ldr bor lnt rat plg opn (nI mk) small (nI lm) price cut proc 1)) 0 0 := by
  refine zMi.of (ret := (some .int)) (cc := cX5_setBound) (nL := 6) (own := RX5) (by decide +kernel) rfl [(0, .ref (md 0)), (1, .int b), (2, .int o), (3, .int x)] rfl (Nat.le_of_ble_eq_true rfl) rfl ?_
  intro A p e s m args below meth c C hmn
  refine z_aload_n C dX5_setBound_0 rfl 0 rfl ?_
  refine z_iload_n C dX5_setBound_1 rfl 1 rfl ?_
  refine z_callSi C (T := Unit) (As := [.int b]) (rest := [.ref (md 0)]) (ws' := fun _ => (wM md cI cZ acc flo pap clo net bnd frm too amt pri wai fst ldr bor lnt rat plg opn (nI mk) small (nI lm) price cut proc thr)) (m_isBank_n l sa D cI cZ cL  b (by first | assumption | omega)) (va_cwS 1 C.2.2.2.2.1 gX5_setBound_X5_isBank rfl rfl rfl (by decide +kernel) ⟨Nat.le_of_ble_eq_true rfl, Nat.le_of_ble_eq_true rfl⟩) (fun _ => zSub.none) zIn.none rfl (Nat.le_of_ble_eq_true rfl) ⟨Nat.le_of_ble_eq_true rfl, Nat.le_of_ble_eq_true rfl⟩ dX5_setBound_2 (fun r_1 _ h_2 => ?_)
  obtain rfl : r_1 = 0 := h_2
  refine z_if_eq C (tgt := 19) dX5_setBound_5 (by decide) (fun _ => ?_) (fun h => absurd h (by decide))
  refine z_iconst C (v := 0) dX5_setBound_19 (by decide) ?_
  refine z_callVi C (T := Unit) (As := [.int 0]) (rest := []) (ws' := fun _ => (wM md cI cZ acc flo pap clo net bnd frm too amt pri wai fst ldr bor lnt rat plg opn (nI mk) small (nI lm) price cut proc 1)) (m_asks_n l sa D cI cZ cL md acc flo pap clo net bnd frm too amt pri wai fst ldr bor lnt rat plg opn small price cut proc thr mk lm  ) (cwV 1 C.2.2.2.2.1 gX5_setBound_X5_asks rfl rfl rfl (by decide +kernel) ⟨Nat.le_of_ble_eq_true rfl, Nat.le_of_ble_eq_true rfl⟩) 0 rfl rfl rfl (fun _ => zSub.full) zIn.full rfl (Nat.le_of_ble_eq_true rfl) ⟨Nat.le_of_ble_eq_true rfl, Nat.le_of_ble_eq_true rfl⟩ dX5_setBound_20 (fun r_3 _ h_4 => ?_)
  obtain rfl : r_3 = 0 := h_4
  refine z_if_ne C (tgt := 28) dX5_setBound_23 (by decide) (fun h => absurd h (by decide)) (fun _ => ?_)
  refine z_iconst C (v := 0) dX5_setBound_26 (by decide) ?_
  exact z_iret C () rfl rfl (by decide) (by decide) dX5_setBound_27
set_option maxHeartbeats 4000000 in
set_option maxRecDepth 100000 in
theorem m_setBound_b1b (l : Launch) (sa : Nat → Nat) (D : va_G) (cI cZ cL : ClassId) (md : Nat → Nat) (acc flo pap clo net bnd frm too amt pri wai fst ldr bor lnt rat plg opn : Nat → Int32) (small price cut proc thr : Int32) (mk lm : Nat) (b : Nat) (o : Int32) (x : Int32) (hb : b < 5) (ho : o < 0 ∨ 5 ≤ o) : zMi (T := Unit) sa D vwCl (zty cI cZ cL) l yX5_setBound wsX5_setBound ({ frames := 1, cells := 0, slots := 0, locals := 21 } : Room) [.ref (md 0), .int (nI b), .int o, .int x] (wM md cI cZ acc flo pap clo net bnd frm too amt pri wai fst ldr bor lnt rat plg opn (nI mk) small (nI lm) price cut proc thr) (fun r9 _ => r9 = 0) (fun _ => (wM md cI cZ acc flo pap clo net bnd frm too amt pri wai fst ldr bor lnt rat plg opn (nI mk) small (nI lm) price cut proc 1)) 0 0 := by
  refine zMi.of (ret := (some .int)) (cc := cX5_setBound) (nL := 6) (own := RX5) (by decide +kernel) rfl [(0, .ref (md 0)), (1, .int (nI b)), (2, .int o), (3, .int x)] rfl (Nat.le_of_ble_eq_true rfl) rfl ?_
  intro A p e s m args below meth c C hmn
  refine z_aload_n C dX5_setBound_0 rfl 0 rfl ?_
  refine z_iload_n C dX5_setBound_1 rfl 1 rfl ?_
  refine z_callSi C (T := Unit) (As := [.int (nI b)]) (rest := [.ref (md 0)]) (ws' := fun _ => (wM md cI cZ acc flo pap clo net bnd frm too amt pri wai fst ldr bor lnt rat plg opn (nI mk) small (nI lm) price cut proc thr)) (m_isBank_y l sa D cI cZ cL  b (by first | assumption | omega)) (va_cwS 1 C.2.2.2.2.1 gX5_setBound_X5_isBank rfl rfl rfl (by decide +kernel) ⟨Nat.le_of_ble_eq_true rfl, Nat.le_of_ble_eq_true rfl⟩) (fun _ => zSub.none) zIn.none rfl (Nat.le_of_ble_eq_true rfl) ⟨Nat.le_of_ble_eq_true rfl, Nat.le_of_ble_eq_true rfl⟩ dX5_setBound_2 (fun r_1 _ h_2 => ?_)
  obtain rfl : r_1 = 1 := h_2
  refine z_if_eq C (tgt := 19) dX5_setBound_5 (by decide) (fun h => absurd h (by decide)) (fun _ => ?_)
  refine z_iload_n C dX5_setBound_8 rfl 2 rfl ?_
  refine z_callSi C (T := Unit) (As := [.int o]) (rest := [.ref (md 0)]) (ws' := fun _ => (wM md cI cZ acc flo pap clo net bnd frm too amt pri wai fst ldr bor lnt rat plg opn (nI mk) small (nI lm) price cut proc thr)) (m_isBank_n l sa D cI cZ cL  o (by first | assumption | omega)) (va_cwS 1 C.2.2.2.2.1 gX5_setBound_X5_isBank rfl rfl rfl (by decide +kernel) ⟨Nat.le_of_ble_eq_true rfl, Nat.le_of_ble_eq_true rfl⟩) (fun _ => zSub.none) zIn.none rfl (Nat.le_of_ble_eq_true rfl) ⟨Nat.le_of_ble_eq_true rfl, Nat.le_of_ble_eq_true rfl⟩ dX5_setBound_9 (fun r_3 _ h_4 => ?_)
  obtain rfl : r_3 = 0 := h_4
  refine z_if_eq C (tgt := 19) dX5_setBound_12 (by decide) (fun _ => ?_) (fun h => absurd h (by decide))
  refine z_iconst C (v := 0) dX5_setBound_19 (by decide) ?_
  refine z_callVi C (T := Unit) (As := [.int 0]) (rest := []) (ws' := fun _ => (wM md cI cZ acc flo pap clo net bnd frm too amt pri wai fst ldr bor lnt rat plg opn (nI mk) small (nI lm) price cut proc 1)) (m_asks_n l sa D cI cZ cL md acc flo pap clo net bnd frm too amt pri wai fst ldr bor lnt rat plg opn small price cut proc thr mk lm  ) (cwV 1 C.2.2.2.2.1 gX5_setBound_X5_asks rfl rfl rfl (by decide +kernel) ⟨Nat.le_of_ble_eq_true rfl, Nat.le_of_ble_eq_true rfl⟩) 0 rfl rfl rfl (fun _ => zSub.full) zIn.full rfl (Nat.le_of_ble_eq_true rfl) ⟨Nat.le_of_ble_eq_true rfl, Nat.le_of_ble_eq_true rfl⟩ dX5_setBound_20 (fun r_5 _ h_6 => ?_)
  obtain rfl : r_5 = 0 := h_6
  refine z_if_ne C (tgt := 28) dX5_setBound_23 (by decide) (fun h => absurd h (by decide)) (fun _ => ?_)
  refine z_iconst C (v := 0) dX5_setBound_26 (by decide) ?_
  exact z_iret C () rfl rfl (by decide) (by decide) dX5_setBound_27
set_option maxHeartbeats 4000000 in
set_option maxRecDepth 100000 in
theorem m_setBound_b2a (l : Launch) (sa : Nat → Nat) (D : va_G) (cI cZ cL : ClassId) (md : Nat → Nat) (acc flo pap clo net bnd frm too amt pri wai fst ldr bor lnt rat plg opn : Nat → Int32) (small price cut proc thr : Int32) (mk lm : Nat) (b : Nat) (o : Nat) (x : Int32) (hb : b < 5) (ho : o < 5) (hft : b = o) : zMi (T := Unit) sa D vwCl (zty cI cZ cL) l yX5_setBound wsX5_setBound ({ frames := 1, cells := 0, slots := 0, locals := 21 } : Room) [.ref (md 0), .int (nI b), .int (nI o), .int x] (wM md cI cZ acc flo pap clo net bnd frm too amt pri wai fst ldr bor lnt rat plg opn (nI mk) small (nI lm) price cut proc thr) (fun r9 _ => r9 = 0) (fun _ => (wM md cI cZ acc flo pap clo net bnd frm too amt pri wai fst ldr bor lnt rat plg opn (nI mk) small (nI lm) price cut proc 2)) 0 0 := by
  refine zMi.of (ret := (some .int)) (cc := cX5_setBound) (nL := 6) (own := RX5) (by decide +kernel) rfl [(0, .ref (md 0)), (1, .int (nI b)), (2, .int (nI o)), (3, .int x)] rfl (Nat.le_of_ble_eq_true rfl) rfl ?_
  intro A p e s m args below meth c C hmn
  refine z_aload_n C dX5_setBound_0 rfl 0 rfl ?_
  refine z_iload_n C dX5_setBound_1 rfl 1 rfl ?_
  refine z_callSi C (T := Unit) (As := [.int (nI b)]) (rest := [.ref (md 0)]) (ws' := fun _ => (wM md cI cZ acc flo pap clo net bnd frm too amt pri wai fst ldr bor lnt rat plg opn (nI mk) small (nI lm) price cut proc thr)) (m_isBank_y l sa D cI cZ cL  b (by first | assumption | omega)) (va_cwS 1 C.2.2.2.2.1 gX5_setBound_X5_isBank rfl rfl rfl (by decide +kernel) ⟨Nat.le_of_ble_eq_true rfl, Nat.le_of_ble_eq_true rfl⟩) (fun _ => zSub.none) zIn.none rfl (Nat.le_of_ble_eq_true rfl) ⟨Nat.le_of_ble_eq_true rfl, Nat.le_of_ble_eq_true rfl⟩ dX5_setBound_2 (fun r_1 _ h_2 => ?_)
  obtain rfl : r_1 = 1 := h_2
  refine z_if_eq C (tgt := 19) dX5_setBound_5 (by decide) (fun h => absurd h (by decide)) (fun _ => ?_)
  refine z_iload_n C dX5_setBound_8 rfl 2 rfl ?_
  refine z_callSi C (T := Unit) (As := [.int (nI o)]) (rest := [.ref (md 0)]) (ws' := fun _ => (wM md cI cZ acc flo pap clo net bnd frm too amt pri wai fst ldr bor lnt rat plg opn (nI mk) small (nI lm) price cut proc thr)) (m_isBank_y l sa D cI cZ cL  o (by first | assumption | omega)) (va_cwS 1 C.2.2.2.2.1 gX5_setBound_X5_isBank rfl rfl rfl (by decide +kernel) ⟨Nat.le_of_ble_eq_true rfl, Nat.le_of_ble_eq_true rfl⟩) (fun _ => zSub.none) zIn.none rfl (Nat.le_of_ble_eq_true rfl) ⟨Nat.le_of_ble_eq_true rfl, Nat.le_of_ble_eq_true rfl⟩ dX5_setBound_9 (fun r_3 _ h_4 => ?_)
  obtain rfl : r_3 = 1 := h_4
  refine z_if_eq C (tgt := 19) dX5_setBound_12 (by decide) (fun h => absurd h (by decide)) (fun _ => ?_)
  refine z_iconst C (v := 1) dX5_setBound_15 (by decide) ?_
  refine z_goto C (tgt := 20) dX5_setBound_16 (by decide) ?_
  refine z_callVi C (T := Unit) (As := [.int 1]) (rest := []) (ws' := fun _ => (wM md cI cZ acc flo pap clo net bnd frm too amt pri wai fst ldr bor lnt rat plg opn (nI mk) small (nI lm) price cut proc 0)) (m_asks_y l sa D cI cZ cL md acc flo pap clo net bnd frm too amt pri wai fst ldr bor lnt rat plg opn small price cut proc thr mk lm  ) (cwV 1 C.2.2.2.2.1 gX5_setBound_X5_asks rfl rfl rfl (by decide +kernel) ⟨Nat.le_of_ble_eq_true rfl, Nat.le_of_ble_eq_true rfl⟩) 0 rfl rfl rfl (fun _ => zSub.full) zIn.full rfl (Nat.le_of_ble_eq_true rfl) ⟨Nat.le_of_ble_eq_true rfl, Nat.le_of_ble_eq_true rfl⟩ dX5_setBound_20 (fun r_5 _ h_6 => ?_)
  obtain rfl : r_5 = 1 := h_6
  refine z_if_ne C (tgt := 28) dX5_setBound_23 (by decide) (fun _ => ?_) (fun h => absurd h (by decide))
  refine z_iconst C (v := 5) dX5_setBound_28 (by decide) ?_
  refine z_iload_n C dX5_setBound_29 rfl 1 rfl ?_
  refine z_imul C (v := (nI (b * 5))) dX5_setBound_30 (z_mulc 5 b) ?_
  refine z_iload_n C dX5_setBound_31 rfl 2 rfl ?_
  refine z_iadd C (v := (nI ((b * 5) + o))) dX5_setBound_32 (nI_add (b * 5) o) ?_
  refine z_istore C dX5_setBound_33 (by decide) [(0, .ref (md 0)), (1, .int (nI b)), (2, .int (nI o)), (3, .int x), (4, .int (nI ((b * 5) + o)))] [1, 2, 3, 4, 0] rfl ?_
  refine z_iload_n C dX5_setBound_35 rfl 1 rfl ?_
  refine z_iload_n C dX5_setBound_36 rfl 2 rfl ?_
  refine z_icmp_eq C (tgt := 61) dX5_setBound_37 (by decide) (fun c37_7 => ?_) (fun c37_7 => ?_)
  · skip
    have n_8 : b = o := (nI_eq (a := b) (b := o) (by omega) (by omega)).mp c37_7
    refine z_aload_n C dX5_setBound_61 rfl 0 rfl ?_
    refine z_iconst C (v := 2) dX5_setBound_62 (by decide) ?_
    refine z_callVi C (T := Unit) (As := [.int 2]) (rest := []) (ws' := fun _ => (wM md cI cZ acc flo pap clo net bnd frm too amt pri wai fst ldr bor lnt rat plg opn (nI mk) small (nI lm) price cut proc 2)) (m_fails l sa D cI cZ cL md acc flo pap clo net bnd frm too amt pri wai fst ldr bor lnt rat plg opn small price cut proc 0 mk lm 2 ) (cwV 1 C.2.2.2.2.1 gX5_setBound_X5_fails rfl rfl rfl (by decide +kernel) ⟨Nat.le_of_ble_eq_true rfl, Nat.le_of_ble_eq_true rfl⟩) 0 rfl rfl rfl (fun _ => zSub.full) zIn.full rfl (Nat.le_of_ble_eq_true rfl) ⟨Nat.le_of_ble_eq_true rfl, Nat.le_of_ble_eq_true rfl⟩ dX5_setBound_63 (fun r_9 _ h_10 => ?_)
    obtain rfl : r_9 = 0 := h_10
    exact z_iret C () rfl rfl (by decide) (by decide) dX5_setBound_66
  · skip
    have n_11 : ¬ b = o := fun q => c37_7 ((nI_eq (a := b) (b := o) (by omega) (by omega)).mpr q)
    exfalso
    omega
set_option maxHeartbeats 4000000 in
set_option maxRecDepth 100000 in
theorem m_setBound_b2b (l : Launch) (sa : Nat → Nat) (D : va_G) (cI cZ cL : ClassId) (md : Nat → Nat) (acc flo pap clo net bnd frm too amt pri wai fst ldr bor lnt rat plg opn : Nat → Int32) (small price cut proc thr : Int32) (mk lm : Nat) (b : Nat) (o : Nat) (x : Int32) (hb : b < 5) (ho : o < 5) (hft : b ≠ o) (hbad : x < 0 ∨ 1000000 < x ∨ x < net (b * 5 + o)) : zMi (T := Unit) sa D vwCl (zty cI cZ cL) l yX5_setBound wsX5_setBound ({ frames := 1, cells := 0, slots := 0, locals := 22 } : Room) [.ref (md 0), .int (nI b), .int (nI o), .int x] (wM md cI cZ acc flo pap clo net bnd frm too amt pri wai fst ldr bor lnt rat plg opn (nI mk) small (nI lm) price cut proc thr) (fun r9 _ => r9 = 0) (fun _ => (wM md cI cZ acc flo pap clo net bnd frm too amt pri wai fst ldr bor lnt rat plg opn (nI mk) small (nI lm) price cut proc 2)) 0 0 := by
  refine zMi.of (ret := (some .int)) (cc := cX5_setBound) (nL := 6) (own := RX5) (by decide +kernel) rfl [(0, .ref (md 0)), (1, .int (nI b)), (2, .int (nI o)), (3, .int x)] rfl (Nat.le_of_ble_eq_true rfl) rfl ?_
  intro A p e s m args below meth c C hmn
  refine z_aload_n C dX5_setBound_0 rfl 0 rfl ?_
  refine z_iload_n C dX5_setBound_1 rfl 1 rfl ?_
  refine z_callSi C (T := Unit) (As := [.int (nI b)]) (rest := [.ref (md 0)]) (ws' := fun _ => (wM md cI cZ acc flo pap clo net bnd frm too amt pri wai fst ldr bor lnt rat plg opn (nI mk) small (nI lm) price cut proc thr)) (m_isBank_y l sa D cI cZ cL  b (by first | assumption | omega)) (va_cwS 1 C.2.2.2.2.1 gX5_setBound_X5_isBank rfl rfl rfl (by decide +kernel) ⟨Nat.le_of_ble_eq_true rfl, Nat.le_of_ble_eq_true rfl⟩) (fun _ => zSub.none) zIn.none rfl (Nat.le_of_ble_eq_true rfl) ⟨Nat.le_of_ble_eq_true rfl, Nat.le_of_ble_eq_true rfl⟩ dX5_setBound_2 (fun r_1 _ h_2 => ?_)
  obtain rfl : r_1 = 1 := h_2
  refine z_if_eq C (tgt := 19) dX5_setBound_5 (by decide) (fun h => absurd h (by decide)) (fun _ => ?_)
  refine z_iload_n C dX5_setBound_8 rfl 2 rfl ?_
  refine z_callSi C (T := Unit) (As := [.int (nI o)]) (rest := [.ref (md 0)]) (ws' := fun _ => (wM md cI cZ acc flo pap clo net bnd frm too amt pri wai fst ldr bor lnt rat plg opn (nI mk) small (nI lm) price cut proc thr)) (m_isBank_y l sa D cI cZ cL  o (by first | assumption | omega)) (va_cwS 1 C.2.2.2.2.1 gX5_setBound_X5_isBank rfl rfl rfl (by decide +kernel) ⟨Nat.le_of_ble_eq_true rfl, Nat.le_of_ble_eq_true rfl⟩) (fun _ => zSub.none) zIn.none rfl (Nat.le_of_ble_eq_true rfl) ⟨Nat.le_of_ble_eq_true rfl, Nat.le_of_ble_eq_true rfl⟩ dX5_setBound_9 (fun r_3 _ h_4 => ?_)
  obtain rfl : r_3 = 1 := h_4
  refine z_if_eq C (tgt := 19) dX5_setBound_12 (by decide) (fun h => absurd h (by decide)) (fun _ => ?_)
  refine z_iconst C (v := 1) dX5_setBound_15 (by decide) ?_
  refine z_goto C (tgt := 20) dX5_setBound_16 (by decide) ?_
  refine z_callVi C (T := Unit) (As := [.int 1]) (rest := []) (ws' := fun _ => (wM md cI cZ acc flo pap clo net bnd frm too amt pri wai fst ldr bor lnt rat plg opn (nI mk) small (nI lm) price cut proc 0)) (m_asks_y l sa D cI cZ cL md acc flo pap clo net bnd frm too amt pri wai fst ldr bor lnt rat plg opn small price cut proc thr mk lm  ) (cwV 1 C.2.2.2.2.1 gX5_setBound_X5_asks rfl rfl rfl (by decide +kernel) ⟨Nat.le_of_ble_eq_true rfl, Nat.le_of_ble_eq_true rfl⟩) 0 rfl rfl rfl (fun _ => zSub.full) zIn.full rfl (Nat.le_of_ble_eq_true rfl) ⟨Nat.le_of_ble_eq_true rfl, Nat.le_of_ble_eq_true rfl⟩ dX5_setBound_20 (fun r_5 _ h_6 => ?_)
  obtain rfl : r_5 = 1 := h_6
  refine z_if_ne C (tgt := 28) dX5_setBound_23 (by decide) (fun _ => ?_) (fun h => absurd h (by decide))
  refine z_iconst C (v := 5) dX5_setBound_28 (by decide) ?_
  refine z_iload_n C dX5_setBound_29 rfl 1 rfl ?_
  refine z_imul C (v := (nI (b * 5))) dX5_setBound_30 (z_mulc 5 b) ?_
  refine z_iload_n C dX5_setBound_31 rfl 2 rfl ?_
  refine z_iadd C (v := (nI ((b * 5) + o))) dX5_setBound_32 (nI_add (b * 5) o) ?_
  refine z_istore C dX5_setBound_33 (by decide) [(0, .ref (md 0)), (1, .int (nI b)), (2, .int (nI o)), (3, .int x), (4, .int (nI ((b * 5) + o)))] [1, 2, 3, 4, 0] rfl ?_
  refine z_iload_n C dX5_setBound_35 rfl 1 rfl ?_
  refine z_iload_n C dX5_setBound_36 rfl 2 rfl ?_
  refine z_icmp_eq C (tgt := 61) dX5_setBound_37 (by decide) (fun c37_7 => ?_) (fun c37_7 => ?_)
  · skip
    have n_8 : b = o := (nI_eq (a := b) (b := o) (by omega) (by omega)).mp c37_7
    refine z_aload_n C dX5_setBound_61 rfl 0 rfl ?_
    refine z_iconst C (v := 2) dX5_setBound_62 (by decide) ?_
    refine z_callVi C (T := Unit) (As := [.int 2]) (rest := []) (ws' := fun _ => (wM md cI cZ acc flo pap clo net bnd frm too amt pri wai fst ldr bor lnt rat plg opn (nI mk) small (nI lm) price cut proc 2)) (m_fails l sa D cI cZ cL md acc flo pap clo net bnd frm too amt pri wai fst ldr bor lnt rat plg opn small price cut proc 0 mk lm 2 ) (cwV 1 C.2.2.2.2.1 gX5_setBound_X5_fails rfl rfl rfl (by decide +kernel) ⟨Nat.le_of_ble_eq_true rfl, Nat.le_of_ble_eq_true rfl⟩) 0 rfl rfl rfl (fun _ => zSub.full) zIn.full rfl (Nat.le_of_ble_eq_true rfl) ⟨Nat.le_of_ble_eq_true rfl, Nat.le_of_ble_eq_true rfl⟩ dX5_setBound_63 (fun r_9 _ h_10 => ?_)
    obtain rfl : r_9 = 0 := h_10
    exact z_iret C () rfl rfl (by decide) (by decide) dX5_setBound_66
  · skip
    have n_11 : ¬ b = o := fun q => c37_7 ((nI_eq (a := b) (b := o) (by omega) (by omega)).mpr q)
    refine z_iload_n C dX5_setBound_40 rfl 3 rfl ?_
    refine z_iconst C (v := 0) dX5_setBound_41 (by decide) ?_
    refine z_ldc C m_X5_setBound_k75 dX5_setBound_42 ?_
    refine z_case (¬ x < 0 ∧ ¬ 1000000 < x) (fun hp_12 => ?_) (fun hp_12 => ?_)
    · skip
      obtain ⟨_, _⟩ := hp_12
      refine z_callSi C (T := Unit) (As := [.int x, .int 0, .int 1000000]) (rest := []) (ws' := fun _ => (wM md cI cZ acc flo pap clo net bnd frm too amt pri wai fst ldr bor lnt rat plg opn (nI mk) small (nI lm) price cut proc 0)) (m_in_y l sa D cI cZ cL  x 0 1000000 (by first | assumption | omega) (by first | assumption | omega)) (va_cwS 3 C.2.2.2.2.1 gX5_setBound_X5_in rfl rfl rfl (by decide +kernel) ⟨Nat.le_of_ble_eq_true rfl, Nat.le_of_ble_eq_true rfl⟩) (fun _ => zSub.none) zIn.none rfl (Nat.le_of_ble_eq_true rfl) ⟨Nat.le_of_ble_eq_true rfl, Nat.le_of_ble_eq_true rfl⟩ dX5_setBound_44 (fun r_13 _ h_14 => ?_)
      obtain rfl : r_13 = 1 := h_14
      refine z_if_eq C (tgt := 61) dX5_setBound_47 (by decide) (fun h => absurd h (by decide)) (fun _ => ?_)
      refine z_iload_n C dX5_setBound_50 rfl 3 rfl ?_
      refine z_aload_n C dX5_setBound_51 rfl 0 rfl ?_
      refine z_get C 0 rfl i_X5_setBound_X5 rfl 4 (by decide) m_X5_setBound_f23 rfl rfl dX5_setBound_52 ?_
      refine z_iload C dX5_setBound_55 4 rfl ?_
      refine z_iald C 5 0 rfl rfl ((b * 5) + o) (nI_clamp (by omega)) (vp_in_nI (by omega) (by omega)) (net ((b * 5) + o)) rfl dX5_setBound_57 ?_
      refine z_icmp_ge C (tgt := 67) dX5_setBound_58 (by decide) (fun c58_15 => ?_) (fun c58_15 => ?_)
      · skip
        exfalso
        exact hbad.elim (fun h => by contradiction) (fun h => h.elim (fun h => by contradiction) (fun h => absurd (by assumption) (Int32.not_le.mpr h)))
      · skip
        refine z_aload_n C dX5_setBound_61 rfl 0 rfl ?_
        refine z_iconst C (v := 2) dX5_setBound_62 (by decide) ?_
        refine z_callVi C (T := Unit) (As := [.int 2]) (rest := []) (ws' := fun _ => (wM md cI cZ acc flo pap clo net bnd frm too amt pri wai fst ldr bor lnt rat plg opn (nI mk) small (nI lm) price cut proc 2)) (m_fails l sa D cI cZ cL md acc flo pap clo net bnd frm too amt pri wai fst ldr bor lnt rat plg opn small price cut proc 0 mk lm 2 ) (cwV 1 C.2.2.2.2.1 gX5_setBound_X5_fails rfl rfl rfl (by decide +kernel) ⟨Nat.le_of_ble_eq_true rfl, Nat.le_of_ble_eq_true rfl⟩) 0 rfl rfl rfl (fun _ => zSub.full) zIn.full rfl (Nat.le_of_ble_eq_true rfl) ⟨Nat.le_of_ble_eq_true rfl, Nat.le_of_ble_eq_true rfl⟩ dX5_setBound_63 (fun r_16 _ h_17 => ?_)
        obtain rfl : r_16 = 0 := h_17
        exact z_iret C () rfl rfl (by decide) (by decide) dX5_setBound_66
    · skip
      have := z_rng hp_12
      refine z_callSi C (T := Unit) (As := [.int x, .int 0, .int 1000000]) (rest := []) (ws' := fun _ => (wM md cI cZ acc flo pap clo net bnd frm too amt pri wai fst ldr bor lnt rat plg opn (nI mk) small (nI lm) price cut proc 0)) (m_in_n l sa D cI cZ cL  x 0 1000000 (by first | assumption | omega)) (va_cwS 3 C.2.2.2.2.1 gX5_setBound_X5_in rfl rfl rfl (by decide +kernel) ⟨Nat.le_of_ble_eq_true rfl, Nat.le_of_ble_eq_true rfl⟩) (fun _ => zSub.none) zIn.none rfl (Nat.le_of_ble_eq_true rfl) ⟨Nat.le_of_ble_eq_true rfl, Nat.le_of_ble_eq_true rfl⟩ dX5_setBound_44 (fun r_18 _ h_19 => ?_)
      obtain rfl : r_18 = 0 := h_19
      refine z_if_eq C (tgt := 61) dX5_setBound_47 (by decide) (fun _ => ?_) (fun h => absurd h (by decide))
      refine z_aload_n C dX5_setBound_61 rfl 0 rfl ?_
      refine z_iconst C (v := 2) dX5_setBound_62 (by decide) ?_
      refine z_callVi C (T := Unit) (As := [.int 2]) (rest := []) (ws' := fun _ => (wM md cI cZ acc flo pap clo net bnd frm too amt pri wai fst ldr bor lnt rat plg opn (nI mk) small (nI lm) price cut proc 2)) (m_fails l sa D cI cZ cL md acc flo pap clo net bnd frm too amt pri wai fst ldr bor lnt rat plg opn small price cut proc 0 mk lm 2 ) (cwV 1 C.2.2.2.2.1 gX5_setBound_X5_fails rfl rfl rfl (by decide +kernel) ⟨Nat.le_of_ble_eq_true rfl, Nat.le_of_ble_eq_true rfl⟩) 0 rfl rfl rfl (fun _ => zSub.full) zIn.full rfl (Nat.le_of_ble_eq_true rfl) ⟨Nat.le_of_ble_eq_true rfl, Nat.le_of_ble_eq_true rfl⟩ dX5_setBound_63 (fun r_20 _ h_21 => ?_)
      obtain rfl : r_20 = 0 := h_21
      exact z_iret C () rfl rfl (by decide) (by decide) dX5_setBound_66
set_option maxHeartbeats 4000000 in
set_option maxRecDepth 100000 in
theorem m_givePapers_ok (l : Launch) (sa : Nat → Nat) (D : va_G) (cI cZ cL : ClassId) (md : Nat → Nat) (acc flo pap clo net bnd frm too amt pri wai fst ldr bor lnt rat plg opn : Nat → Int32) (small price cut proc thr : Int32) (mk lm : Nat) (b : Nat) (x : Int32) (hb : b < 5) (h1 : ¬ x < 1) (h2 : ¬ 1000 < x) (hcl : clo b = 0) (h3 : pap b + x ≤ 100000) : zMi (T := Unit) sa D vwCl (zty cI cZ cL) l yX5_givePapers wsX5_givePapers ({ frames := 1, cells := 0, slots := 0, locals := 22 } : Room) [.ref (md 0), .int (nI b), .int x] (wM md cI cZ acc flo pap clo net bnd frm too amt pri wai fst ldr bor lnt rat plg opn (nI mk) small (nI lm) price cut proc thr) (fun r9 _ => r9 = (pap b + x)) (fun _ => (wM md cI cZ acc flo (upd pap b (pap b + x)) clo net bnd frm too amt pri wai fst ldr bor lnt rat plg opn (nI mk) small (nI lm) price cut proc 0)) 0 0 := by
  refine zMi.of (ret := (some .int)) (cc := cX5_givePapers) (nL := 3) (own := RX5) (by decide +kernel) rfl [(0, .ref (md 0)), (1, .int (nI b)), (2, .int x)] rfl (Nat.le_of_ble_eq_true rfl) rfl ?_
  intro A p e s m args below meth c C hmn
  refine z_aload_n C dX5_givePapers_0 rfl 0 rfl ?_
  refine z_iload_n C dX5_givePapers_1 rfl 1 rfl ?_
  refine z_callSi C (T := Unit) (As := [.int (nI b)]) (rest := [.ref (md 0)]) (ws' := fun _ => (wM md cI cZ acc flo pap clo net bnd frm too amt pri wai fst ldr bor lnt rat plg opn (nI mk) small (nI lm) price cut proc thr)) (m_isBank_y l sa D cI cZ cL  b (by first | assumption | omega)) (va_cwS 1 C.2.2.2.2.1 gX5_givePapers_X5_isBank rfl rfl rfl (by decide +kernel) ⟨Nat.le_of_ble_eq_true rfl, Nat.le_of_ble_eq_true rfl⟩) (fun _ => zSub.none) zIn.none rfl (Nat.le_of_ble_eq_true rfl) ⟨Nat.le_of_ble_eq_true rfl, Nat.le_of_ble_eq_true rfl⟩ dX5_givePapers_2 (fun r_1 _ h_2 => ?_)
  obtain rfl : r_1 = 1 := h_2
  refine z_callVi C (T := Unit) (As := [.int 1]) (rest := []) (ws' := fun _ => (wM md cI cZ acc flo pap clo net bnd frm too amt pri wai fst ldr bor lnt rat plg opn (nI mk) small (nI lm) price cut proc 0)) (m_asks_y l sa D cI cZ cL md acc flo pap clo net bnd frm too amt pri wai fst ldr bor lnt rat plg opn small price cut proc thr mk lm  ) (cwV 1 C.2.2.2.2.1 gX5_givePapers_X5_asks rfl rfl rfl (by decide +kernel) ⟨Nat.le_of_ble_eq_true rfl, Nat.le_of_ble_eq_true rfl⟩) 0 rfl rfl rfl (fun _ => zSub.full) zIn.full rfl (Nat.le_of_ble_eq_true rfl) ⟨Nat.le_of_ble_eq_true rfl, Nat.le_of_ble_eq_true rfl⟩ dX5_givePapers_5 (fun r_3 _ h_4 => ?_)
  obtain rfl : r_3 = 1 := h_4
  refine z_if_ne C (tgt := 13) dX5_givePapers_8 (by decide) (fun _ => ?_) (fun h => absurd h (by decide))
  refine z_iload_n C dX5_givePapers_13 rfl 2 rfl ?_
  refine z_iconst C (v := 1) dX5_givePapers_14 (by decide) ?_
  refine z_sipush C (v := 1000) dX5_givePapers_15 (by decide) ?_
  refine z_callSi C (T := Unit) (As := [.int x, .int 1, .int 1000]) (rest := []) (ws' := fun _ => (wM md cI cZ acc flo pap clo net bnd frm too amt pri wai fst ldr bor lnt rat plg opn (nI mk) small (nI lm) price cut proc 0)) (m_in_y l sa D cI cZ cL  x 1 1000 (by first | assumption | omega) (by first | assumption | omega)) (va_cwS 3 C.2.2.2.2.1 gX5_givePapers_X5_in rfl rfl rfl (by decide +kernel) ⟨Nat.le_of_ble_eq_true rfl, Nat.le_of_ble_eq_true rfl⟩) (fun _ => zSub.none) zIn.none rfl (Nat.le_of_ble_eq_true rfl) ⟨Nat.le_of_ble_eq_true rfl, Nat.le_of_ble_eq_true rfl⟩ dX5_givePapers_18 (fun r_5 _ h_6 => ?_)
  obtain rfl : r_5 = 1 := h_6
  refine z_if_ne C (tgt := 30) dX5_givePapers_21 (by decide) (fun _ => ?_) (fun h => absurd h (by decide))
  refine z_aload_n C dX5_givePapers_30 rfl 0 rfl ?_
  refine z_get C 0 rfl i_X5_givePapers_X5 rfl 3 (by decide) m_X5_givePapers_f19 rfl rfl dX5_givePapers_31 ?_
  refine z_iload_n C dX5_givePapers_34 rfl 1 rfl ?_
  refine z_zald C 4 1 rfl rfl b (nI_clamp (by omega)) (vp_in_nI (by omega) (by omega)) (clo b) rfl dX5_givePapers_35 ?_
  refine z_if_ne C (tgt := 52) dX5_givePapers_36 (by decide) (fun c36_7 => ?_) (fun c36_7 => ?_)
  · skip
    refine z_aload_n C dX5_givePapers_52 rfl 0 rfl ?_
    refine z_iconst C (v := 3) dX5_givePapers_53 (by decide) ?_
    exfalso
    first | omega | contradiction | exact absurd (by assumption) (Int32.not_le.mpr (by assumption)) | exact absurd (by assumption) (Int32.not_lt.mpr (by assumption))
  · skip
    refine z_aload_n C dX5_givePapers_39 rfl 0 rfl ?_
    refine z_get C 0 rfl i_X5_givePapers_X5 rfl 2 (by decide) m_X5_givePapers_f16 rfl rfl dX5_givePapers_40 ?_
    refine z_iload_n C dX5_givePapers_43 rfl 1 rfl ?_
    refine z_iald C 3 0 rfl rfl b (nI_clamp (by omega)) (vp_in_nI (by omega) (by omega)) (pap b) rfl dX5_givePapers_44 ?_
    refine z_iload_n C dX5_givePapers_45 rfl 2 rfl ?_
    refine z_iadd C (v := ((pap b) + x)) dX5_givePapers_46 rfl ?_
    refine z_ldc C m_X5_givePapers_k100 dX5_givePapers_47 ?_
    refine z_icmp_le C (tgt := 58) dX5_givePapers_49 (by decide) (fun c49_8 => ?_) (fun c49_8 => ?_)
    · skip
      refine z_aload_n C dX5_givePapers_58 rfl 0 rfl ?_
      refine z_get C 0 rfl i_X5_givePapers_X5 rfl 2 (by decide) m_X5_givePapers_f16 rfl rfl dX5_givePapers_59 ?_
      refine z_iload_n C dX5_givePapers_62 rfl 1 rfl ?_
      refine z_dup2 C dX5_givePapers_63 rfl rfl ?_
      refine z_iald C 3 0 rfl rfl b (nI_clamp (by omega)) (vp_in_nI (by omega) (by omega)) (pap b) rfl dX5_givePapers_64 ?_
      refine z_iload_n C dX5_givePapers_65 rfl 2 rfl ?_
      refine z_iadd C (v := ((pap b) + x)) dX5_givePapers_66 rfl ?_
      refine z_iast C 3 0 rfl rfl b (nI_clamp (by omega)) (vp_in_nI (by omega) (by omega)) ((pap b) + x) rfl dX5_givePapers_67 (wM md cI cZ acc flo (upd pap b ((pap b) + x)) clo net bnd frm too amt pri wai fst ldr bor lnt rat plg opn (nI mk) small (nI lm) price cut proc 0) rfl ?_
      refine z_aload_n C dX5_givePapers_68 rfl 0 rfl ?_
      refine z_get C 0 rfl i_X5_givePapers_X5 rfl 2 (by decide) m_X5_givePapers_f16 rfl rfl dX5_givePapers_69 ?_
      refine z_iload_n C dX5_givePapers_72 rfl 1 rfl ?_
      refine z_iald C 3 0 rfl rfl b (nI_clamp (by omega)) (vp_in_nI (by omega) (by omega)) ((upd pap b ((pap b) + x)) b) rfl dX5_givePapers_73 ?_
      exact z_iret C () (by simp [upd]) rfl (by decide) (by decide) dX5_givePapers_74
    · skip
      refine z_aload_n C dX5_givePapers_52 rfl 0 rfl ?_
      refine z_iconst C (v := 3) dX5_givePapers_53 (by decide) ?_
      exfalso
      first | omega | contradiction | exact absurd (by assumption) (Int32.not_le.mpr (by assumption)) | exact absurd (by assumption) (Int32.not_lt.mpr (by assumption))
set_option maxHeartbeats 4000000 in
set_option maxRecDepth 100000 in
theorem m_givePapers_b1 (l : Launch) (sa : Nat → Nat) (D : va_G) (cI cZ cL : ClassId) (md : Nat → Nat) (acc flo pap clo net bnd frm too amt pri wai fst ldr bor lnt rat plg opn : Nat → Int32) (small price cut proc thr : Int32) (mk lm : Nat) (b : Int32) (x : Int32) (hb : b < 0 ∨ 5 ≤ b) : zMi (T := Unit) sa D vwCl (zty cI cZ cL) l yX5_givePapers wsX5_givePapers ({ frames := 1, cells := 0, slots := 0, locals := 21 } : Room) [.ref (md 0), .int b, .int x] (wM md cI cZ acc flo pap clo net bnd frm too amt pri wai fst ldr bor lnt rat plg opn (nI mk) small (nI lm) price cut proc thr) (fun r9 _ => r9 = 0) (fun _ => (wM md cI cZ acc flo pap clo net bnd frm too amt pri wai fst ldr bor lnt rat plg opn (nI mk) small (nI lm) price cut proc 1)) 0 0 := by
  refine zMi.of (ret := (some .int)) (cc := cX5_givePapers) (nL := 3) (own := RX5) (by decide +kernel) rfl [(0, .ref (md 0)), (1, .int b), (2, .int x)] rfl (Nat.le_of_ble_eq_true rfl) rfl ?_
  intro A p e s m args below meth c C hmn
  refine z_aload_n C dX5_givePapers_0 rfl 0 rfl ?_
  refine z_iload_n C dX5_givePapers_1 rfl 1 rfl ?_
  refine z_callSi C (T := Unit) (As := [.int b]) (rest := [.ref (md 0)]) (ws' := fun _ => (wM md cI cZ acc flo pap clo net bnd frm too amt pri wai fst ldr bor lnt rat plg opn (nI mk) small (nI lm) price cut proc thr)) (m_isBank_n l sa D cI cZ cL  b (by first | assumption | omega)) (va_cwS 1 C.2.2.2.2.1 gX5_givePapers_X5_isBank rfl rfl rfl (by decide +kernel) ⟨Nat.le_of_ble_eq_true rfl, Nat.le_of_ble_eq_true rfl⟩) (fun _ => zSub.none) zIn.none rfl (Nat.le_of_ble_eq_true rfl) ⟨Nat.le_of_ble_eq_true rfl, Nat.le_of_ble_eq_true rfl⟩ dX5_givePapers_2 (fun r_1 _ h_2 => ?_)
  obtain rfl : r_1 = 0 := h_2
  refine z_callVi C (T := Unit) (As := [.int 0]) (rest := []) (ws' := fun _ => (wM md cI cZ acc flo pap clo net bnd frm too amt pri wai fst ldr bor lnt rat plg opn (nI mk) small (nI lm) price cut proc 1)) (m_asks_n l sa D cI cZ cL md acc flo pap clo net bnd frm too amt pri wai fst ldr bor lnt rat plg opn small price cut proc thr mk lm  ) (cwV 1 C.2.2.2.2.1 gX5_givePapers_X5_asks rfl rfl rfl (by decide +kernel) ⟨Nat.le_of_ble_eq_true rfl, Nat.le_of_ble_eq_true rfl⟩) 0 rfl rfl rfl (fun _ => zSub.full) zIn.full rfl (Nat.le_of_ble_eq_true rfl) ⟨Nat.le_of_ble_eq_true rfl, Nat.le_of_ble_eq_true rfl⟩ dX5_givePapers_5 (fun r_3 _ h_4 => ?_)
  obtain rfl : r_3 = 0 := h_4
  refine z_if_ne C (tgt := 13) dX5_givePapers_8 (by decide) (fun h => absurd h (by decide)) (fun _ => ?_)
  refine z_iconst C (v := 0) dX5_givePapers_11 (by decide) ?_
  exact z_iret C () rfl rfl (by decide) (by decide) dX5_givePapers_12
set_option maxHeartbeats 4000000 in
set_option maxRecDepth 100000 in
theorem m_givePapers_b2 (l : Launch) (sa : Nat → Nat) (D : va_G) (cI cZ cL : ClassId) (md : Nat → Nat) (acc flo pap clo net bnd frm too amt pri wai fst ldr bor lnt rat plg opn : Nat → Int32) (small price cut proc thr : Int32) (mk lm : Nat) (b : Nat) (x : Int32) (hb : b < 5) (hbad : x < 1 ∨ 1000 < x) : zMi (T := Unit) sa D vwCl (zty cI cZ cL) l yX5_givePapers wsX5_givePapers ({ frames := 1, cells := 0, slots := 0, locals := 22 } : Room) [.ref (md 0), .int (nI b), .int x] (wM md cI cZ acc flo pap clo net bnd frm too amt pri wai fst ldr bor lnt rat plg opn (nI mk) small (nI lm) price cut proc thr) (fun r9 _ => r9 = 0) (fun _ => (wM md cI cZ acc flo pap clo net bnd frm too amt pri wai fst ldr bor lnt rat plg opn (nI mk) small (nI lm) price cut proc 2)) 0 0 := by
  refine zMi.of (ret := (some .int)) (cc := cX5_givePapers) (nL := 3) (own := RX5) (by decide +kernel) rfl [(0, .ref (md 0)), (1, .int (nI b)), (2, .int x)] rfl (Nat.le_of_ble_eq_true rfl) rfl ?_
  intro A p e s m args below meth c C hmn
  refine z_aload_n C dX5_givePapers_0 rfl 0 rfl ?_
  refine z_iload_n C dX5_givePapers_1 rfl 1 rfl ?_
  refine z_callSi C (T := Unit) (As := [.int (nI b)]) (rest := [.ref (md 0)]) (ws' := fun _ => (wM md cI cZ acc flo pap clo net bnd frm too amt pri wai fst ldr bor lnt rat plg opn (nI mk) small (nI lm) price cut proc thr)) (m_isBank_y l sa D cI cZ cL  b (by first | assumption | omega)) (va_cwS 1 C.2.2.2.2.1 gX5_givePapers_X5_isBank rfl rfl rfl (by decide +kernel) ⟨Nat.le_of_ble_eq_true rfl, Nat.le_of_ble_eq_true rfl⟩) (fun _ => zSub.none) zIn.none rfl (Nat.le_of_ble_eq_true rfl) ⟨Nat.le_of_ble_eq_true rfl, Nat.le_of_ble_eq_true rfl⟩ dX5_givePapers_2 (fun r_1 _ h_2 => ?_)
  obtain rfl : r_1 = 1 := h_2
  refine z_callVi C (T := Unit) (As := [.int 1]) (rest := []) (ws' := fun _ => (wM md cI cZ acc flo pap clo net bnd frm too amt pri wai fst ldr bor lnt rat plg opn (nI mk) small (nI lm) price cut proc 0)) (m_asks_y l sa D cI cZ cL md acc flo pap clo net bnd frm too amt pri wai fst ldr bor lnt rat plg opn small price cut proc thr mk lm  ) (cwV 1 C.2.2.2.2.1 gX5_givePapers_X5_asks rfl rfl rfl (by decide +kernel) ⟨Nat.le_of_ble_eq_true rfl, Nat.le_of_ble_eq_true rfl⟩) 0 rfl rfl rfl (fun _ => zSub.full) zIn.full rfl (Nat.le_of_ble_eq_true rfl) ⟨Nat.le_of_ble_eq_true rfl, Nat.le_of_ble_eq_true rfl⟩ dX5_givePapers_5 (fun r_3 _ h_4 => ?_)
  obtain rfl : r_3 = 1 := h_4
  refine z_if_ne C (tgt := 13) dX5_givePapers_8 (by decide) (fun _ => ?_) (fun h => absurd h (by decide))
  refine z_iload_n C dX5_givePapers_13 rfl 2 rfl ?_
  refine z_iconst C (v := 1) dX5_givePapers_14 (by decide) ?_
  refine z_sipush C (v := 1000) dX5_givePapers_15 (by decide) ?_
  refine z_callSi C (T := Unit) (As := [.int x, .int 1, .int 1000]) (rest := []) (ws' := fun _ => (wM md cI cZ acc flo pap clo net bnd frm too amt pri wai fst ldr bor lnt rat plg opn (nI mk) small (nI lm) price cut proc 0)) (m_in_n l sa D cI cZ cL  x 1 1000 (by first | assumption | omega)) (va_cwS 3 C.2.2.2.2.1 gX5_givePapers_X5_in rfl rfl rfl (by decide +kernel) ⟨Nat.le_of_ble_eq_true rfl, Nat.le_of_ble_eq_true rfl⟩) (fun _ => zSub.none) zIn.none rfl (Nat.le_of_ble_eq_true rfl) ⟨Nat.le_of_ble_eq_true rfl, Nat.le_of_ble_eq_true rfl⟩ dX5_givePapers_18 (fun r_5 _ h_6 => ?_)
  obtain rfl : r_5 = 0 := h_6
  refine z_if_ne C (tgt := 30) dX5_givePapers_21 (by decide) (fun h => absurd h (by decide)) (fun _ => ?_)
  refine z_aload_n C dX5_givePapers_24 rfl 0 rfl ?_
  refine z_iconst C (v := 2) dX5_givePapers_25 (by decide) ?_
  refine z_callVi C (T := Unit) (As := [.int 2]) (rest := []) (ws' := fun _ => (wM md cI cZ acc flo pap clo net bnd frm too amt pri wai fst ldr bor lnt rat plg opn (nI mk) small (nI lm) price cut proc 2)) (m_fails l sa D cI cZ cL md acc flo pap clo net bnd frm too amt pri wai fst ldr bor lnt rat plg opn small price cut proc 0 mk lm 2 ) (cwV 1 C.2.2.2.2.1 gX5_givePapers_X5_fails rfl rfl rfl (by decide +kernel) ⟨Nat.le_of_ble_eq_true rfl, Nat.le_of_ble_eq_true rfl⟩) 0 rfl rfl rfl (fun _ => zSub.full) zIn.full rfl (Nat.le_of_ble_eq_true rfl) ⟨Nat.le_of_ble_eq_true rfl, Nat.le_of_ble_eq_true rfl⟩ dX5_givePapers_26 (fun r_7 _ h_8 => ?_)
  obtain rfl : r_7 = 0 := h_8
  exact z_iret C () rfl rfl (by decide) (by decide) dX5_givePapers_29
set_option maxHeartbeats 4000000 in
set_option maxRecDepth 100000 in
theorem m_givePapers_b3 (l : Launch) (sa : Nat → Nat) (D : va_G) (cI cZ cL : ClassId) (md : Nat → Nat) (acc flo pap clo net bnd frm too amt pri wai fst ldr bor lnt rat plg opn : Nat → Int32) (small price cut proc thr : Int32) (mk lm : Nat) (b : Nat) (x : Int32) (hb : b < 5) (h1 : ¬ x < 1) (h2 : ¬ 1000 < x) (hbad : ¬ (clo b = 0 ∧ pap b + x ≤ 100000)) : zMi (T := Unit) sa D vwCl (zty cI cZ cL) l yX5_givePapers wsX5_givePapers ({ frames := 1, cells := 0, slots := 0, locals := 22 } : Room) [.ref (md 0), .int (nI b), .int x] (wM md cI cZ acc flo pap clo net bnd frm too amt pri wai fst ldr bor lnt rat plg opn (nI mk) small (nI lm) price cut proc thr) (fun r9 _ => r9 = 0) (fun _ => (wM md cI cZ acc flo pap clo net bnd frm too amt pri wai fst ldr bor lnt rat plg opn (nI mk) small (nI lm) price cut proc 3)) 0 0 := by
  refine zMi.of (ret := (some .int)) (cc := cX5_givePapers) (nL := 3) (own := RX5) (by decide +kernel) rfl [(0, .ref (md 0)), (1, .int (nI b)), (2, .int x)] rfl (Nat.le_of_ble_eq_true rfl) rfl ?_
  intro A p e s m args below meth c C hmn
  refine z_aload_n C dX5_givePapers_0 rfl 0 rfl ?_
  refine z_iload_n C dX5_givePapers_1 rfl 1 rfl ?_
  refine z_callSi C (T := Unit) (As := [.int (nI b)]) (rest := [.ref (md 0)]) (ws' := fun _ => (wM md cI cZ acc flo pap clo net bnd frm too amt pri wai fst ldr bor lnt rat plg opn (nI mk) small (nI lm) price cut proc thr)) (m_isBank_y l sa D cI cZ cL  b (by first | assumption | omega)) (va_cwS 1 C.2.2.2.2.1 gX5_givePapers_X5_isBank rfl rfl rfl (by decide +kernel) ⟨Nat.le_of_ble_eq_true rfl, Nat.le_of_ble_eq_true rfl⟩) (fun _ => zSub.none) zIn.none rfl (Nat.le_of_ble_eq_true rfl) ⟨Nat.le_of_ble_eq_true rfl, Nat.le_of_ble_eq_true rfl⟩ dX5_givePapers_2 (fun r_1 _ h_2 => ?_)
  obtain rfl : r_1 = 1 := h_2
  refine z_callVi C (T := Unit) (As := [.int 1]) (rest := []) (ws' := fun _ => (wM md cI cZ acc flo pap clo net bnd frm too amt pri wai fst ldr bor lnt rat plg opn (nI mk) small (nI lm) price cut proc 0)) (m_asks_y l sa D cI cZ cL md acc flo pap clo net bnd frm too amt pri wai fst ldr bor lnt rat plg opn small price cut proc thr mk lm  ) (cwV 1 C.2.2.2.2.1 gX5_givePapers_X5_asks rfl rfl rfl (by decide +kernel) ⟨Nat.le_of_ble_eq_true rfl, Nat.le_of_ble_eq_true rfl⟩) 0 rfl rfl rfl (fun _ => zSub.full) zIn.full rfl (Nat.le_of_ble_eq_true rfl) ⟨Nat.le_of_ble_eq_true rfl, Nat.le_of_ble_eq_true rfl⟩ dX5_givePapers_5 (fun r_3 _ h_4 => ?_)
  obtain rfl : r_3 = 1 := h_4
  refine z_if_ne C (tgt := 13) dX5_givePapers_8 (by decide) (fun _ => ?_) (fun h => absurd h (by decide))
  refine z_iload_n C dX5_givePapers_13 rfl 2 rfl ?_
  refine z_iconst C (v := 1) dX5_givePapers_14 (by decide) ?_
  refine z_sipush C (v := 1000) dX5_givePapers_15 (by decide) ?_
  refine z_callSi C (T := Unit) (As := [.int x, .int 1, .int 1000]) (rest := []) (ws' := fun _ => (wM md cI cZ acc flo pap clo net bnd frm too amt pri wai fst ldr bor lnt rat plg opn (nI mk) small (nI lm) price cut proc 0)) (m_in_y l sa D cI cZ cL  x 1 1000 (by first | assumption | omega) (by first | assumption | omega)) (va_cwS 3 C.2.2.2.2.1 gX5_givePapers_X5_in rfl rfl rfl (by decide +kernel) ⟨Nat.le_of_ble_eq_true rfl, Nat.le_of_ble_eq_true rfl⟩) (fun _ => zSub.none) zIn.none rfl (Nat.le_of_ble_eq_true rfl) ⟨Nat.le_of_ble_eq_true rfl, Nat.le_of_ble_eq_true rfl⟩ dX5_givePapers_18 (fun r_5 _ h_6 => ?_)
  obtain rfl : r_5 = 1 := h_6
  refine z_if_ne C (tgt := 30) dX5_givePapers_21 (by decide) (fun _ => ?_) (fun h => absurd h (by decide))
  refine z_aload_n C dX5_givePapers_30 rfl 0 rfl ?_
  refine z_get C 0 rfl i_X5_givePapers_X5 rfl 3 (by decide) m_X5_givePapers_f19 rfl rfl dX5_givePapers_31 ?_
  refine z_iload_n C dX5_givePapers_34 rfl 1 rfl ?_
  refine z_zald C 4 1 rfl rfl b (nI_clamp (by omega)) (vp_in_nI (by omega) (by omega)) (clo b) rfl dX5_givePapers_35 ?_
  refine z_if_ne C (tgt := 52) dX5_givePapers_36 (by decide) (fun c36_7 => ?_) (fun c36_7 => ?_)
  · skip
    refine z_aload_n C dX5_givePapers_52 rfl 0 rfl ?_
    refine z_iconst C (v := 3) dX5_givePapers_53 (by decide) ?_
    refine z_callVi C (T := Unit) (As := [.int 3]) (rest := []) (ws' := fun _ => (wM md cI cZ acc flo pap clo net bnd frm too amt pri wai fst ldr bor lnt rat plg opn (nI mk) small (nI lm) price cut proc 3)) (m_fails l sa D cI cZ cL md acc flo pap clo net bnd frm too amt pri wai fst ldr bor lnt rat plg opn small price cut proc 0 mk lm 3 ) (cwV 1 C.2.2.2.2.1 gX5_givePapers_X5_fails rfl rfl rfl (by decide +kernel) ⟨Nat.le_of_ble_eq_true rfl, Nat.le_of_ble_eq_true rfl⟩) 0 rfl rfl rfl (fun _ => zSub.full) zIn.full rfl (Nat.le_of_ble_eq_true rfl) ⟨Nat.le_of_ble_eq_true rfl, Nat.le_of_ble_eq_true rfl⟩ dX5_givePapers_54 (fun r_8 _ h_9 => ?_)
    obtain rfl : r_8 = 0 := h_9
    exact z_iret C () rfl rfl (by decide) (by decide) dX5_givePapers_57
  · skip
    refine z_aload_n C dX5_givePapers_39 rfl 0 rfl ?_
    refine z_get C 0 rfl i_X5_givePapers_X5 rfl 2 (by decide) m_X5_givePapers_f16 rfl rfl dX5_givePapers_40 ?_
    refine z_iload_n C dX5_givePapers_43 rfl 1 rfl ?_
    refine z_iald C 3 0 rfl rfl b (nI_clamp (by omega)) (vp_in_nI (by omega) (by omega)) (pap b) rfl dX5_givePapers_44 ?_
    refine z_iload_n C dX5_givePapers_45 rfl 2 rfl ?_
    refine z_iadd C (v := ((pap b) + x)) dX5_givePapers_46 rfl ?_
    refine z_ldc C m_X5_givePapers_k100 dX5_givePapers_47 ?_
    refine z_icmp_le C (tgt := 58) dX5_givePapers_49 (by decide) (fun c49_10 => ?_) (fun c49_10 => ?_)
    · skip
      exfalso
      exact hbad ⟨by assumption, by assumption⟩
    · skip
      refine z_aload_n C dX5_givePapers_52 rfl 0 rfl ?_
      refine z_iconst C (v := 3) dX5_givePapers_53 (by decide) ?_
      refine z_callVi C (T := Unit) (As := [.int 3]) (rest := []) (ws' := fun _ => (wM md cI cZ acc flo pap clo net bnd frm too amt pri wai fst ldr bor lnt rat plg opn (nI mk) small (nI lm) price cut proc 3)) (m_fails l sa D cI cZ cL md acc flo pap clo net bnd frm too amt pri wai fst ldr bor lnt rat plg opn small price cut proc 0 mk lm 3 ) (cwV 1 C.2.2.2.2.1 gX5_givePapers_X5_fails rfl rfl rfl (by decide +kernel) ⟨Nat.le_of_ble_eq_true rfl, Nat.le_of_ble_eq_true rfl⟩) 0 rfl rfl rfl (fun _ => zSub.full) zIn.full rfl (Nat.le_of_ble_eq_true rfl) ⟨Nat.le_of_ble_eq_true rfl, Nat.le_of_ble_eq_true rfl⟩ dX5_givePapers_54 (fun r_11 _ h_12 => ?_)
      obtain rfl : r_11 = 0 := h_12
      exact z_iret C () rfl rfl (by decide) (by decide) dX5_givePapers_57
set_option maxHeartbeats 4000000 in
set_option maxRecDepth 100000 in
theorem m_account_ok (l : Launch) (sa : Nat → Nat) (D : va_G) (cI cZ cL : ClassId) (md : Nat → Nat) (acc flo pap clo net bnd frm too amt pri wai fst ldr bor lnt rat plg opn : Nat → Int32) (small price cut proc thr : Int32) (mk lm : Nat) (b : Nat) (hb : b < 5) : zMi (T := Unit) sa D vwCl (zty cI cZ cL) l yX5_account wsX5_account ({ frames := 1, cells := 0, slots := 0, locals := 21 } : Room) [.ref (md 0), .int (nI b)] (wM md cI cZ acc flo pap clo net bnd frm too amt pri wai fst ldr bor lnt rat plg opn (nI mk) small (nI lm) price cut proc thr) (fun r9 _ => r9 = (acc b)) (fun _ => (wM md cI cZ acc flo pap clo net bnd frm too amt pri wai fst ldr bor lnt rat plg opn (nI mk) small (nI lm) price cut proc 0)) 0 0 := by
  refine zMi.of (ret := (some .int)) (cc := cX5_account) (nL := 2) (own := RX5) (by decide +kernel) rfl [(0, .ref (md 0)), (1, .int (nI b))] rfl (Nat.le_of_ble_eq_true rfl) rfl ?_
  intro A p e s m args below meth c C hmn
  refine z_aload_n C dX5_account_0 rfl 0 rfl ?_
  refine z_iload_n C dX5_account_1 rfl 1 rfl ?_
  refine z_callSi C (T := Unit) (As := [.int (nI b)]) (rest := [.ref (md 0)]) (ws' := fun _ => (wM md cI cZ acc flo pap clo net bnd frm too amt pri wai fst ldr bor lnt rat plg opn (nI mk) small (nI lm) price cut proc thr)) (m_isBank_y l sa D cI cZ cL  b (by first | assumption | omega)) (va_cwS 1 C.2.2.2.2.1 gX5_account_X5_isBank rfl rfl rfl (by decide +kernel) ⟨Nat.le_of_ble_eq_true rfl, Nat.le_of_ble_eq_true rfl⟩) (fun _ => zSub.none) zIn.none rfl (Nat.le_of_ble_eq_true rfl) ⟨Nat.le_of_ble_eq_true rfl, Nat.le_of_ble_eq_true rfl⟩ dX5_account_2 (fun r_1 _ h_2 => ?_)
  obtain rfl : r_1 = 1 := h_2
  refine z_callVi C (T := Unit) (As := [.int 1]) (rest := []) (ws' := fun _ => (wM md cI cZ acc flo pap clo net bnd frm too amt pri wai fst ldr bor lnt rat plg opn (nI mk) small (nI lm) price cut proc 0)) (m_asks_y l sa D cI cZ cL md acc flo pap clo net bnd frm too amt pri wai fst ldr bor lnt rat plg opn small price cut proc thr mk lm  ) (cwV 1 C.2.2.2.2.1 gX5_account_X5_asks rfl rfl rfl (by decide +kernel) ⟨Nat.le_of_ble_eq_true rfl, Nat.le_of_ble_eq_true rfl⟩) 0 rfl rfl rfl (fun _ => zSub.full) zIn.full rfl (Nat.le_of_ble_eq_true rfl) ⟨Nat.le_of_ble_eq_true rfl, Nat.le_of_ble_eq_true rfl⟩ dX5_account_5 (fun r_3 _ h_4 => ?_)
  obtain rfl : r_3 = 1 := h_4
  refine z_if_eq C (tgt := 20) dX5_account_8 (by decide) (fun h => absurd h (by decide)) (fun _ => ?_)
  refine z_aload_n C dX5_account_11 rfl 0 rfl ?_
  refine z_get C 0 rfl i_X5_account_X5 rfl 0 (by decide) m_X5_account_f7 rfl rfl dX5_account_12 ?_
  refine z_iload_n C dX5_account_15 rfl 1 rfl ?_
  refine z_iald C 1 0 rfl rfl b (nI_clamp (by omega)) (vp_in_nI (by omega) (by omega)) (acc b) rfl dX5_account_16 ?_
  refine z_goto C (tgt := 21) dX5_account_17 (by decide) ?_
  exact z_iret C () rfl rfl (by decide) (by decide) dX5_account_21
set_option maxHeartbeats 4000000 in
set_option maxRecDepth 100000 in
theorem m_account_b1 (l : Launch) (sa : Nat → Nat) (D : va_G) (cI cZ cL : ClassId) (md : Nat → Nat) (acc flo pap clo net bnd frm too amt pri wai fst ldr bor lnt rat plg opn : Nat → Int32) (small price cut proc thr : Int32) (mk lm : Nat) (b : Int32) (hb : b < 0 ∨ 5 ≤ b) : zMi (T := Unit) sa D vwCl (zty cI cZ cL) l yX5_account wsX5_account ({ frames := 1, cells := 0, slots := 0, locals := 21 } : Room) [.ref (md 0), .int b] (wM md cI cZ acc flo pap clo net bnd frm too amt pri wai fst ldr bor lnt rat plg opn (nI mk) small (nI lm) price cut proc thr) (fun r9 _ => r9 = 0) (fun _ => (wM md cI cZ acc flo pap clo net bnd frm too amt pri wai fst ldr bor lnt rat plg opn (nI mk) small (nI lm) price cut proc 1)) 0 0 := by
  refine zMi.of (ret := (some .int)) (cc := cX5_account) (nL := 2) (own := RX5) (by decide +kernel) rfl [(0, .ref (md 0)), (1, .int b)] rfl (Nat.le_of_ble_eq_true rfl) rfl ?_
  intro A p e s m args below meth c C hmn
  refine z_aload_n C dX5_account_0 rfl 0 rfl ?_
  refine z_iload_n C dX5_account_1 rfl 1 rfl ?_
  refine z_callSi C (T := Unit) (As := [.int b]) (rest := [.ref (md 0)]) (ws' := fun _ => (wM md cI cZ acc flo pap clo net bnd frm too amt pri wai fst ldr bor lnt rat plg opn (nI mk) small (nI lm) price cut proc thr)) (m_isBank_n l sa D cI cZ cL  b (by first | assumption | omega)) (va_cwS 1 C.2.2.2.2.1 gX5_account_X5_isBank rfl rfl rfl (by decide +kernel) ⟨Nat.le_of_ble_eq_true rfl, Nat.le_of_ble_eq_true rfl⟩) (fun _ => zSub.none) zIn.none rfl (Nat.le_of_ble_eq_true rfl) ⟨Nat.le_of_ble_eq_true rfl, Nat.le_of_ble_eq_true rfl⟩ dX5_account_2 (fun r_1 _ h_2 => ?_)
  obtain rfl : r_1 = 0 := h_2
  refine z_callVi C (T := Unit) (As := [.int 0]) (rest := []) (ws' := fun _ => (wM md cI cZ acc flo pap clo net bnd frm too amt pri wai fst ldr bor lnt rat plg opn (nI mk) small (nI lm) price cut proc 1)) (m_asks_n l sa D cI cZ cL md acc flo pap clo net bnd frm too amt pri wai fst ldr bor lnt rat plg opn small price cut proc thr mk lm  ) (cwV 1 C.2.2.2.2.1 gX5_account_X5_asks rfl rfl rfl (by decide +kernel) ⟨Nat.le_of_ble_eq_true rfl, Nat.le_of_ble_eq_true rfl⟩) 0 rfl rfl rfl (fun _ => zSub.full) zIn.full rfl (Nat.le_of_ble_eq_true rfl) ⟨Nat.le_of_ble_eq_true rfl, Nat.le_of_ble_eq_true rfl⟩ dX5_account_5 (fun r_3 _ h_4 => ?_)
  obtain rfl : r_3 = 0 := h_4
  refine z_if_eq C (tgt := 20) dX5_account_8 (by decide) (fun _ => ?_) (fun h => absurd h (by decide))
  refine z_iconst C (v := 0) dX5_account_20 (by decide) ?_
  exact z_iret C () rfl rfl (by decide) (by decide) dX5_account_21
set_option maxHeartbeats 4000000 in
set_option maxRecDepth 100000 in
theorem m_papers_ok (l : Launch) (sa : Nat → Nat) (D : va_G) (cI cZ cL : ClassId) (md : Nat → Nat) (acc flo pap clo net bnd frm too amt pri wai fst ldr bor lnt rat plg opn : Nat → Int32) (small price cut proc thr : Int32) (mk lm : Nat) (b : Nat) (hb : b < 5) : zMi (T := Unit) sa D vwCl (zty cI cZ cL) l yX5_papers wsX5_papers ({ frames := 1, cells := 0, slots := 0, locals := 21 } : Room) [.ref (md 0), .int (nI b)] (wM md cI cZ acc flo pap clo net bnd frm too amt pri wai fst ldr bor lnt rat plg opn (nI mk) small (nI lm) price cut proc thr) (fun r9 _ => r9 = (pap b)) (fun _ => (wM md cI cZ acc flo pap clo net bnd frm too amt pri wai fst ldr bor lnt rat plg opn (nI mk) small (nI lm) price cut proc 0)) 0 0 := by
  refine zMi.of (ret := (some .int)) (cc := cX5_papers) (nL := 2) (own := RX5) (by decide +kernel) rfl [(0, .ref (md 0)), (1, .int (nI b))] rfl (Nat.le_of_ble_eq_true rfl) rfl ?_
  intro A p e s m args below meth c C hmn
  refine z_aload_n C dX5_papers_0 rfl 0 rfl ?_
  refine z_iload_n C dX5_papers_1 rfl 1 rfl ?_
  refine z_callSi C (T := Unit) (As := [.int (nI b)]) (rest := [.ref (md 0)]) (ws' := fun _ => (wM md cI cZ acc flo pap clo net bnd frm too amt pri wai fst ldr bor lnt rat plg opn (nI mk) small (nI lm) price cut proc thr)) (m_isBank_y l sa D cI cZ cL  b (by first | assumption | omega)) (va_cwS 1 C.2.2.2.2.1 gX5_papers_X5_isBank rfl rfl rfl (by decide +kernel) ⟨Nat.le_of_ble_eq_true rfl, Nat.le_of_ble_eq_true rfl⟩) (fun _ => zSub.none) zIn.none rfl (Nat.le_of_ble_eq_true rfl) ⟨Nat.le_of_ble_eq_true rfl, Nat.le_of_ble_eq_true rfl⟩ dX5_papers_2 (fun r_1 _ h_2 => ?_)
  obtain rfl : r_1 = 1 := h_2
  refine z_callVi C (T := Unit) (As := [.int 1]) (rest := []) (ws' := fun _ => (wM md cI cZ acc flo pap clo net bnd frm too amt pri wai fst ldr bor lnt rat plg opn (nI mk) small (nI lm) price cut proc 0)) (m_asks_y l sa D cI cZ cL md acc flo pap clo net bnd frm too amt pri wai fst ldr bor lnt rat plg opn small price cut proc thr mk lm  ) (cwV 1 C.2.2.2.2.1 gX5_papers_X5_asks rfl rfl rfl (by decide +kernel) ⟨Nat.le_of_ble_eq_true rfl, Nat.le_of_ble_eq_true rfl⟩) 0 rfl rfl rfl (fun _ => zSub.full) zIn.full rfl (Nat.le_of_ble_eq_true rfl) ⟨Nat.le_of_ble_eq_true rfl, Nat.le_of_ble_eq_true rfl⟩ dX5_papers_5 (fun r_3 _ h_4 => ?_)
  obtain rfl : r_3 = 1 := h_4
  refine z_if_eq C (tgt := 20) dX5_papers_8 (by decide) (fun h => absurd h (by decide)) (fun _ => ?_)
  refine z_aload_n C dX5_papers_11 rfl 0 rfl ?_
  refine z_get C 0 rfl i_X5_papers_X5 rfl 2 (by decide) m_X5_papers_f16 rfl rfl dX5_papers_12 ?_
  refine z_iload_n C dX5_papers_15 rfl 1 rfl ?_
  refine z_iald C 3 0 rfl rfl b (nI_clamp (by omega)) (vp_in_nI (by omega) (by omega)) (pap b) rfl dX5_papers_16 ?_
  refine z_goto C (tgt := 21) dX5_papers_17 (by decide) ?_
  exact z_iret C () rfl rfl (by decide) (by decide) dX5_papers_21
set_option maxHeartbeats 4000000 in
set_option maxRecDepth 100000 in
theorem m_papers_b1 (l : Launch) (sa : Nat → Nat) (D : va_G) (cI cZ cL : ClassId) (md : Nat → Nat) (acc flo pap clo net bnd frm too amt pri wai fst ldr bor lnt rat plg opn : Nat → Int32) (small price cut proc thr : Int32) (mk lm : Nat) (b : Int32) (hb : b < 0 ∨ 5 ≤ b) : zMi (T := Unit) sa D vwCl (zty cI cZ cL) l yX5_papers wsX5_papers ({ frames := 1, cells := 0, slots := 0, locals := 21 } : Room) [.ref (md 0), .int b] (wM md cI cZ acc flo pap clo net bnd frm too amt pri wai fst ldr bor lnt rat plg opn (nI mk) small (nI lm) price cut proc thr) (fun r9 _ => r9 = 0) (fun _ => (wM md cI cZ acc flo pap clo net bnd frm too amt pri wai fst ldr bor lnt rat plg opn (nI mk) small (nI lm) price cut proc 1)) 0 0 := by
  refine zMi.of (ret := (some .int)) (cc := cX5_papers) (nL := 2) (own := RX5) (by decide +kernel) rfl [(0, .ref (md 0)), (1, .int b)] rfl (Nat.le_of_ble_eq_true rfl) rfl ?_
  intro A p e s m args below meth c C hmn
  refine z_aload_n C dX5_papers_0 rfl 0 rfl ?_
  refine z_iload_n C dX5_papers_1 rfl 1 rfl ?_
  refine z_callSi C (T := Unit) (As := [.int b]) (rest := [.ref (md 0)]) (ws' := fun _ => (wM md cI cZ acc flo pap clo net bnd frm too amt pri wai fst ldr bor lnt rat plg opn (nI mk) small (nI lm) price cut proc thr)) (m_isBank_n l sa D cI cZ cL  b (by first | assumption | omega)) (va_cwS 1 C.2.2.2.2.1 gX5_papers_X5_isBank rfl rfl rfl (by decide +kernel) ⟨Nat.le_of_ble_eq_true rfl, Nat.le_of_ble_eq_true rfl⟩) (fun _ => zSub.none) zIn.none rfl (Nat.le_of_ble_eq_true rfl) ⟨Nat.le_of_ble_eq_true rfl, Nat.le_of_ble_eq_true rfl⟩ dX5_papers_2 (fun r_1 _ h_2 => ?_)
  obtain rfl : r_1 = 0 := h_2
  refine z_callVi C (T := Unit) (As := [.int 0]) (rest := []) (ws' := fun _ => (wM md cI cZ acc flo pap clo net bnd frm too amt pri wai fst ldr bor lnt rat plg opn (nI mk) small (nI lm) price cut proc 1)) (m_asks_n l sa D cI cZ cL md acc flo pap clo net bnd frm too amt pri wai fst ldr bor lnt rat plg opn small price cut proc thr mk lm  ) (cwV 1 C.2.2.2.2.1 gX5_papers_X5_asks rfl rfl rfl (by decide +kernel) ⟨Nat.le_of_ble_eq_true rfl, Nat.le_of_ble_eq_true rfl⟩) 0 rfl rfl rfl (fun _ => zSub.full) zIn.full rfl (Nat.le_of_ble_eq_true rfl) ⟨Nat.le_of_ble_eq_true rfl, Nat.le_of_ble_eq_true rfl⟩ dX5_papers_5 (fun r_3 _ h_4 => ?_)
  obtain rfl : r_3 = 0 := h_4
  refine z_if_eq C (tgt := 20) dX5_papers_8 (by decide) (fun _ => ?_) (fun h => absurd h (by decide))
  refine z_iconst C (v := 0) dX5_papers_20 (by decide) ?_
  exact z_iret C () rfl rfl (by decide) (by decide) dX5_papers_21
set_option maxHeartbeats 4000000 in
set_option maxRecDepth 100000 in
theorem m_isOpen_ok (l : Launch) (sa : Nat → Nat) (D : va_G) (cI cZ cL : ClassId) (md : Nat → Nat) (acc flo pap clo net bnd frm too amt pri wai fst ldr bor lnt rat plg opn : Nat → Int32) (small price cut proc thr : Int32) (mk lm : Nat) (b : Nat) (hb : b < 5) : zMi (T := Unit) sa D vwCl (zty cI cZ cL) l yX5_isOpen wsX5_isOpen ({ frames := 1, cells := 0, slots := 0, locals := 21 } : Room) [.ref (md 0), .int (nI b)] (wM md cI cZ acc flo pap clo net bnd frm too amt pri wai fst ldr bor lnt rat plg opn (nI mk) small (nI lm) price cut proc thr) (fun r9 _ => r9 = if clo b = 0 then 1 else 0) (fun _ => (wM md cI cZ acc flo pap clo net bnd frm too amt pri wai fst ldr bor lnt rat plg opn (nI mk) small (nI lm) price cut proc 0)) 0 0 := by
  refine zMi.of (ret := (some .boolean)) (cc := cX5_isOpen) (nL := 2) (own := RX5) (by decide +kernel) rfl [(0, .ref (md 0)), (1, .int (nI b))] rfl (Nat.le_of_ble_eq_true rfl) rfl ?_
  intro A p e s m args below meth c C hmn
  refine z_aload_n C dX5_isOpen_0 rfl 0 rfl ?_
  refine z_iload_n C dX5_isOpen_1 rfl 1 rfl ?_
  refine z_callSi C (T := Unit) (As := [.int (nI b)]) (rest := [.ref (md 0)]) (ws' := fun _ => (wM md cI cZ acc flo pap clo net bnd frm too amt pri wai fst ldr bor lnt rat plg opn (nI mk) small (nI lm) price cut proc thr)) (m_isBank_y l sa D cI cZ cL  b (by first | assumption | omega)) (va_cwS 1 C.2.2.2.2.1 gX5_isOpen_X5_isBank rfl rfl rfl (by decide +kernel) ⟨Nat.le_of_ble_eq_true rfl, Nat.le_of_ble_eq_true rfl⟩) (fun _ => zSub.none) zIn.none rfl (Nat.le_of_ble_eq_true rfl) ⟨Nat.le_of_ble_eq_true rfl, Nat.le_of_ble_eq_true rfl⟩ dX5_isOpen_2 (fun r_1 _ h_2 => ?_)
  obtain rfl : r_1 = 1 := h_2
  refine z_callVi C (T := Unit) (As := [.int 1]) (rest := []) (ws' := fun _ => (wM md cI cZ acc flo pap clo net bnd frm too amt pri wai fst ldr bor lnt rat plg opn (nI mk) small (nI lm) price cut proc 0)) (m_asks_y l sa D cI cZ cL md acc flo pap clo net bnd frm too amt pri wai fst ldr bor lnt rat plg opn small price cut proc thr mk lm  ) (cwV 1 C.2.2.2.2.1 gX5_isOpen_X5_asks rfl rfl rfl (by decide +kernel) ⟨Nat.le_of_ble_eq_true rfl, Nat.le_of_ble_eq_true rfl⟩) 0 rfl rfl rfl (fun _ => zSub.full) zIn.full rfl (Nat.le_of_ble_eq_true rfl) ⟨Nat.le_of_ble_eq_true rfl, Nat.le_of_ble_eq_true rfl⟩ dX5_isOpen_5 (fun r_3 _ h_4 => ?_)
  obtain rfl : r_3 = 1 := h_4
  refine z_if_eq C (tgt := 24) dX5_isOpen_8 (by decide) (fun h => absurd h (by decide)) (fun _ => ?_)
  refine z_aload_n C dX5_isOpen_11 rfl 0 rfl ?_
  refine z_get C 0 rfl i_X5_isOpen_X5 rfl 3 (by decide) m_X5_isOpen_f19 rfl rfl dX5_isOpen_12 ?_
  refine z_iload_n C dX5_isOpen_15 rfl 1 rfl ?_
  refine z_zald C 4 1 rfl rfl b (nI_clamp (by omega)) (vp_in_nI (by omega) (by omega)) (clo b) rfl dX5_isOpen_16 ?_
  refine z_if_ne C (tgt := 24) dX5_isOpen_17 (by decide) (fun c17_5 => ?_) (fun c17_5 => ?_)
  · skip
    refine z_iconst C (v := 0) dX5_isOpen_24 (by decide) ?_
    exact z_zret C () (by simp [c17_5]) rfl (by decide) (by decide) (by decide) dX5_isOpen_25
  · skip
    refine z_iconst C (v := 1) dX5_isOpen_20 (by decide) ?_
    refine z_goto C (tgt := 25) dX5_isOpen_21 (by decide) ?_
    exact z_zret C () (by simp [c17_5]) rfl (by decide) (by decide) (by decide) dX5_isOpen_25
set_option maxHeartbeats 4000000 in
set_option maxRecDepth 100000 in
theorem m_isOpen_b1 (l : Launch) (sa : Nat → Nat) (D : va_G) (cI cZ cL : ClassId) (md : Nat → Nat) (acc flo pap clo net bnd frm too amt pri wai fst ldr bor lnt rat plg opn : Nat → Int32) (small price cut proc thr : Int32) (mk lm : Nat) (b : Int32) (hb : b < 0 ∨ 5 ≤ b) : zMi (T := Unit) sa D vwCl (zty cI cZ cL) l yX5_isOpen wsX5_isOpen ({ frames := 1, cells := 0, slots := 0, locals := 21 } : Room) [.ref (md 0), .int b] (wM md cI cZ acc flo pap clo net bnd frm too amt pri wai fst ldr bor lnt rat plg opn (nI mk) small (nI lm) price cut proc thr) (fun r9 _ => r9 = 0) (fun _ => (wM md cI cZ acc flo pap clo net bnd frm too amt pri wai fst ldr bor lnt rat plg opn (nI mk) small (nI lm) price cut proc 1)) 0 0 := by
  refine zMi.of (ret := (some .boolean)) (cc := cX5_isOpen) (nL := 2) (own := RX5) (by decide +kernel) rfl [(0, .ref (md 0)), (1, .int b)] rfl (Nat.le_of_ble_eq_true rfl) rfl ?_
  intro A p e s m args below meth c C hmn
  refine z_aload_n C dX5_isOpen_0 rfl 0 rfl ?_
  refine z_iload_n C dX5_isOpen_1 rfl 1 rfl ?_
  refine z_callSi C (T := Unit) (As := [.int b]) (rest := [.ref (md 0)]) (ws' := fun _ => (wM md cI cZ acc flo pap clo net bnd frm too amt pri wai fst ldr bor lnt rat plg opn (nI mk) small (nI lm) price cut proc thr)) (m_isBank_n l sa D cI cZ cL  b (by first | assumption | omega)) (va_cwS 1 C.2.2.2.2.1 gX5_isOpen_X5_isBank rfl rfl rfl (by decide +kernel) ⟨Nat.le_of_ble_eq_true rfl, Nat.le_of_ble_eq_true rfl⟩) (fun _ => zSub.none) zIn.none rfl (Nat.le_of_ble_eq_true rfl) ⟨Nat.le_of_ble_eq_true rfl, Nat.le_of_ble_eq_true rfl⟩ dX5_isOpen_2 (fun r_1 _ h_2 => ?_)
  obtain rfl : r_1 = 0 := h_2
  refine z_callVi C (T := Unit) (As := [.int 0]) (rest := []) (ws' := fun _ => (wM md cI cZ acc flo pap clo net bnd frm too amt pri wai fst ldr bor lnt rat plg opn (nI mk) small (nI lm) price cut proc 1)) (m_asks_n l sa D cI cZ cL md acc flo pap clo net bnd frm too amt pri wai fst ldr bor lnt rat plg opn small price cut proc thr mk lm  ) (cwV 1 C.2.2.2.2.1 gX5_isOpen_X5_asks rfl rfl rfl (by decide +kernel) ⟨Nat.le_of_ble_eq_true rfl, Nat.le_of_ble_eq_true rfl⟩) 0 rfl rfl rfl (fun _ => zSub.full) zIn.full rfl (Nat.le_of_ble_eq_true rfl) ⟨Nat.le_of_ble_eq_true rfl, Nat.le_of_ble_eq_true rfl⟩ dX5_isOpen_5 (fun r_3 _ h_4 => ?_)
  obtain rfl : r_3 = 0 := h_4
  refine z_if_eq C (tgt := 24) dX5_isOpen_8 (by decide) (fun _ => ?_) (fun h => absurd h (by decide))
  refine z_iconst C (v := 0) dX5_isOpen_24 (by decide) ?_
  exact z_zret C () rfl rfl (by decide) (by decide) (by decide) dX5_isOpen_25
set_option maxHeartbeats 4000000 in
set_option maxRecDepth 100000 in
theorem m_paid_ok (l : Launch) (sa : Nat → Nat) (D : va_G) (cI cZ cL : ClassId) (md : Nat → Nat) (acc flo pap clo net bnd frm too amt pri wai fst ldr bor lnt rat plg opn : Nat → Int32) (small price cut proc thr : Int32) (mk lm : Nat) (b : Nat) (o : Nat) (hb : b < 5) (ho : o < 5) : zMi (T := Unit) sa D vwCl (zty cI cZ cL) l yX5_paid wsX5_paid ({ frames := 1, cells := 0, slots := 0, locals := 21 } : Room) [.ref (md 0), .int (nI b), .int (nI o)] (wM md cI cZ acc flo pap clo net bnd frm too amt pri wai fst ldr bor lnt rat plg opn (nI mk) small (nI lm) price cut proc thr) (fun r9 _ => r9 = (net (b * 5 + o))) (fun _ => (wM md cI cZ acc flo pap clo net bnd frm too amt pri wai fst ldr bor lnt rat plg opn (nI mk) small (nI lm) price cut proc 0)) 0 0 := by
  refine zMi.of (ret := (some .int)) (cc := cX5_paid) (nL := 3) (own := RX5) (by decide +kernel) rfl [(0, .ref (md 0)), (1, .int (nI b)), (2, .int (nI o))] rfl (Nat.le_of_ble_eq_true rfl) rfl ?_
  intro A p e s m args below meth c C hmn
  refine z_aload_n C dX5_paid_0 rfl 0 rfl ?_
  refine z_iload_n C dX5_paid_1 rfl 1 rfl ?_
  refine z_callSi C (T := Unit) (As := [.int (nI b)]) (rest := [.ref (md 0)]) (ws' := fun _ => (wM md cI cZ acc flo pap clo net bnd frm too amt pri wai fst ldr bor lnt rat plg opn (nI mk) small (nI lm) price cut proc thr)) (m_isBank_y l sa D cI cZ cL  b (by first | assumption | omega)) (va_cwS 1 C.2.2.2.2.1 gX5_paid_X5_isBank rfl rfl rfl (by decide +kernel) ⟨Nat.le_of_ble_eq_true rfl, Nat.le_of_ble_eq_true rfl⟩) (fun _ => zSub.none) zIn.none rfl (Nat.le_of_ble_eq_true rfl) ⟨Nat.le_of_ble_eq_true rfl, Nat.le_of_ble_eq_true rfl⟩ dX5_paid_2 (fun r_1 _ h_2 => ?_)
  obtain rfl : r_1 = 1 := h_2
  refine z_if_eq C (tgt := 19) dX5_paid_5 (by decide) (fun h => absurd h (by decide)) (fun _ => ?_)
  refine z_iload_n C dX5_paid_8 rfl 2 rfl ?_
  refine z_callSi C (T := Unit) (As := [.int (nI o)]) (rest := [.ref (md 0)]) (ws' := fun _ => (wM md cI cZ acc flo pap clo net bnd frm too amt pri wai fst ldr bor lnt rat plg opn (nI mk) small (nI lm) price cut proc thr)) (m_isBank_y l sa D cI cZ cL  o (by first | assumption | omega)) (va_cwS 1 C.2.2.2.2.1 gX5_paid_X5_isBank rfl rfl rfl (by decide +kernel) ⟨Nat.le_of_ble_eq_true rfl, Nat.le_of_ble_eq_true rfl⟩) (fun _ => zSub.none) zIn.none rfl (Nat.le_of_ble_eq_true rfl) ⟨Nat.le_of_ble_eq_true rfl, Nat.le_of_ble_eq_true rfl⟩ dX5_paid_9 (fun r_3 _ h_4 => ?_)
  obtain rfl : r_3 = 1 := h_4
  refine z_if_eq C (tgt := 19) dX5_paid_12 (by decide) (fun h => absurd h (by decide)) (fun _ => ?_)
  refine z_iconst C (v := 1) dX5_paid_15 (by decide) ?_
  refine z_goto C (tgt := 20) dX5_paid_16 (by decide) ?_
  refine z_callVi C (T := Unit) (As := [.int 1]) (rest := []) (ws' := fun _ => (wM md cI cZ acc flo pap clo net bnd frm too amt pri wai fst ldr bor lnt rat plg opn (nI mk) small (nI lm) price cut proc 0)) (m_asks_y l sa D cI cZ cL md acc flo pap clo net bnd frm too amt pri wai fst ldr bor lnt rat plg opn small price cut proc thr mk lm  ) (cwV 1 C.2.2.2.2.1 gX5_paid_X5_asks rfl rfl rfl (by decide +kernel) ⟨Nat.le_of_ble_eq_true rfl, Nat.le_of_ble_eq_true rfl⟩) 0 rfl rfl rfl (fun _ => zSub.full) zIn.full rfl (Nat.le_of_ble_eq_true rfl) ⟨Nat.le_of_ble_eq_true rfl, Nat.le_of_ble_eq_true rfl⟩ dX5_paid_20 (fun r_5 _ h_6 => ?_)
  obtain rfl : r_5 = 1 := h_6
  refine z_if_eq C (tgt := 39) dX5_paid_23 (by decide) (fun h => absurd h (by decide)) (fun _ => ?_)
  refine z_aload_n C dX5_paid_26 rfl 0 rfl ?_
  refine z_get C 0 rfl i_X5_paid_X5 rfl 4 (by decide) m_X5_paid_f23 rfl rfl dX5_paid_27 ?_
  refine z_iconst C (v := 5) dX5_paid_30 (by decide) ?_
  refine z_iload_n C dX5_paid_31 rfl 1 rfl ?_
  refine z_imul C (v := (nI (b * 5))) dX5_paid_32 (z_mulc 5 b) ?_
  refine z_iload_n C dX5_paid_33 rfl 2 rfl ?_
  refine z_iadd C (v := (nI ((b * 5) + o))) dX5_paid_34 (nI_add (b * 5) o) ?_
  refine z_iald C 5 0 rfl rfl ((b * 5) + o) (nI_clamp (by omega)) (vp_in_nI (by omega) (by omega)) (net ((b * 5) + o)) rfl dX5_paid_35 ?_
  refine z_goto C (tgt := 40) dX5_paid_36 (by decide) ?_
  exact z_iret C () rfl rfl (by decide) (by decide) dX5_paid_40
set_option maxHeartbeats 4000000 in
set_option maxRecDepth 100000 in
theorem m_paid_b1 (l : Launch) (sa : Nat → Nat) (D : va_G) (cI cZ cL : ClassId) (md : Nat → Nat) (acc flo pap clo net bnd frm too amt pri wai fst ldr bor lnt rat plg opn : Nat → Int32) (small price cut proc thr : Int32) (mk lm : Nat) (b : Int32) (o : Int32) (hb : b < 0 ∨ 5 ≤ b) : zMi (T := Unit) sa D vwCl (zty cI cZ cL) l yX5_paid wsX5_paid ({ frames := 1, cells := 0, slots := 0, locals := 21 } : Room) [.ref (md 0), .int b, .int o] (wM md cI cZ acc flo pap clo net bnd frm too amt pri wai fst ldr bor lnt rat plg opn (nI mk) small (nI lm) price cut proc thr) (fun r9 _ => r9 = 0) (fun _ => (wM md cI cZ acc flo pap clo net bnd frm too amt pri wai fst ldr bor lnt rat plg opn (nI mk) small (nI lm) price cut proc 1)) 0 0 := by
  refine zMi.of (ret := (some .int)) (cc := cX5_paid) (nL := 3) (own := RX5) (by decide +kernel) rfl [(0, .ref (md 0)), (1, .int b), (2, .int o)] rfl (Nat.le_of_ble_eq_true rfl) rfl ?_
  intro A p e s m args below meth c C hmn
  refine z_aload_n C dX5_paid_0 rfl 0 rfl ?_
  refine z_iload_n C dX5_paid_1 rfl 1 rfl ?_
  refine z_callSi C (T := Unit) (As := [.int b]) (rest := [.ref (md 0)]) (ws' := fun _ => (wM md cI cZ acc flo pap clo net bnd frm too amt pri wai fst ldr bor lnt rat plg opn (nI mk) small (nI lm) price cut proc thr)) (m_isBank_n l sa D cI cZ cL  b (by first | assumption | omega)) (va_cwS 1 C.2.2.2.2.1 gX5_paid_X5_isBank rfl rfl rfl (by decide +kernel) ⟨Nat.le_of_ble_eq_true rfl, Nat.le_of_ble_eq_true rfl⟩) (fun _ => zSub.none) zIn.none rfl (Nat.le_of_ble_eq_true rfl) ⟨Nat.le_of_ble_eq_true rfl, Nat.le_of_ble_eq_true rfl⟩ dX5_paid_2 (fun r_1 _ h_2 => ?_)
  obtain rfl : r_1 = 0 := h_2
  refine z_if_eq C (tgt := 19) dX5_paid_5 (by decide) (fun _ => ?_) (fun h => absurd h (by decide))
  refine z_iconst C (v := 0) dX5_paid_19 (by decide) ?_
  refine z_callVi C (T := Unit) (As := [.int 0]) (rest := []) (ws' := fun _ => (wM md cI cZ acc flo pap clo net bnd frm too amt pri wai fst ldr bor lnt rat plg opn (nI mk) small (nI lm) price cut proc 1)) (m_asks_n l sa D cI cZ cL md acc flo pap clo net bnd frm too amt pri wai fst ldr bor lnt rat plg opn small price cut proc thr mk lm  ) (cwV 1 C.2.2.2.2.1 gX5_paid_X5_asks rfl rfl rfl (by decide +kernel) ⟨Nat.le_of_ble_eq_true rfl, Nat.le_of_ble_eq_true rfl⟩) 0 rfl rfl rfl (fun _ => zSub.full) zIn.full rfl (Nat.le_of_ble_eq_true rfl) ⟨Nat.le_of_ble_eq_true rfl, Nat.le_of_ble_eq_true rfl⟩ dX5_paid_20 (fun r_3 _ h_4 => ?_)
  obtain rfl : r_3 = 0 := h_4
  refine z_if_eq C (tgt := 39) dX5_paid_23 (by decide) (fun _ => ?_) (fun h => absurd h (by decide))
  refine z_iconst C (v := 0) dX5_paid_39 (by decide) ?_
  exact z_iret C () rfl rfl (by decide) (by decide) dX5_paid_40
set_option maxHeartbeats 4000000 in
set_option maxRecDepth 100000 in
theorem m_paid_b1b (l : Launch) (sa : Nat → Nat) (D : va_G) (cI cZ cL : ClassId) (md : Nat → Nat) (acc flo pap clo net bnd frm too amt pri wai fst ldr bor lnt rat plg opn : Nat → Int32) (small price cut proc thr : Int32) (mk lm : Nat) (b : Nat) (o : Int32) (hb : b < 5) (ho : o < 0 ∨ 5 ≤ o) : zMi (T := Unit) sa D vwCl (zty cI cZ cL) l yX5_paid wsX5_paid ({ frames := 1, cells := 0, slots := 0, locals := 21 } : Room) [.ref (md 0), .int (nI b), .int o] (wM md cI cZ acc flo pap clo net bnd frm too amt pri wai fst ldr bor lnt rat plg opn (nI mk) small (nI lm) price cut proc thr) (fun r9 _ => r9 = 0) (fun _ => (wM md cI cZ acc flo pap clo net bnd frm too amt pri wai fst ldr bor lnt rat plg opn (nI mk) small (nI lm) price cut proc 1)) 0 0 := by
  refine zMi.of (ret := (some .int)) (cc := cX5_paid) (nL := 3) (own := RX5) (by decide +kernel) rfl [(0, .ref (md 0)), (1, .int (nI b)), (2, .int o)] rfl (Nat.le_of_ble_eq_true rfl) rfl ?_
  intro A p e s m args below meth c C hmn
  refine z_aload_n C dX5_paid_0 rfl 0 rfl ?_
  refine z_iload_n C dX5_paid_1 rfl 1 rfl ?_
  refine z_callSi C (T := Unit) (As := [.int (nI b)]) (rest := [.ref (md 0)]) (ws' := fun _ => (wM md cI cZ acc flo pap clo net bnd frm too amt pri wai fst ldr bor lnt rat plg opn (nI mk) small (nI lm) price cut proc thr)) (m_isBank_y l sa D cI cZ cL  b (by first | assumption | omega)) (va_cwS 1 C.2.2.2.2.1 gX5_paid_X5_isBank rfl rfl rfl (by decide +kernel) ⟨Nat.le_of_ble_eq_true rfl, Nat.le_of_ble_eq_true rfl⟩) (fun _ => zSub.none) zIn.none rfl (Nat.le_of_ble_eq_true rfl) ⟨Nat.le_of_ble_eq_true rfl, Nat.le_of_ble_eq_true rfl⟩ dX5_paid_2 (fun r_1 _ h_2 => ?_)
  obtain rfl : r_1 = 1 := h_2
  refine z_if_eq C (tgt := 19) dX5_paid_5 (by decide) (fun h => absurd h (by decide)) (fun _ => ?_)
  refine z_iload_n C dX5_paid_8 rfl 2 rfl ?_
  refine z_callSi C (T := Unit) (As := [.int o]) (rest := [.ref (md 0)]) (ws' := fun _ => (wM md cI cZ acc flo pap clo net bnd frm too amt pri wai fst ldr bor lnt rat plg opn (nI mk) small (nI lm) price cut proc thr)) (m_isBank_n l sa D cI cZ cL  o (by first | assumption | omega)) (va_cwS 1 C.2.2.2.2.1 gX5_paid_X5_isBank rfl rfl rfl (by decide +kernel) ⟨Nat.le_of_ble_eq_true rfl, Nat.le_of_ble_eq_true rfl⟩) (fun _ => zSub.none) zIn.none rfl (Nat.le_of_ble_eq_true rfl) ⟨Nat.le_of_ble_eq_true rfl, Nat.le_of_ble_eq_true rfl⟩ dX5_paid_9 (fun r_3 _ h_4 => ?_)
  obtain rfl : r_3 = 0 := h_4
  refine z_if_eq C (tgt := 19) dX5_paid_12 (by decide) (fun _ => ?_) (fun h => absurd h (by decide))
  refine z_iconst C (v := 0) dX5_paid_19 (by decide) ?_
  refine z_callVi C (T := Unit) (As := [.int 0]) (rest := []) (ws' := fun _ => (wM md cI cZ acc flo pap clo net bnd frm too amt pri wai fst ldr bor lnt rat plg opn (nI mk) small (nI lm) price cut proc 1)) (m_asks_n l sa D cI cZ cL md acc flo pap clo net bnd frm too amt pri wai fst ldr bor lnt rat plg opn small price cut proc thr mk lm  ) (cwV 1 C.2.2.2.2.1 gX5_paid_X5_asks rfl rfl rfl (by decide +kernel) ⟨Nat.le_of_ble_eq_true rfl, Nat.le_of_ble_eq_true rfl⟩) 0 rfl rfl rfl (fun _ => zSub.full) zIn.full rfl (Nat.le_of_ble_eq_true rfl) ⟨Nat.le_of_ble_eq_true rfl, Nat.le_of_ble_eq_true rfl⟩ dX5_paid_20 (fun r_5 _ h_6 => ?_)
  obtain rfl : r_5 = 0 := h_6
  refine z_if_eq C (tgt := 39) dX5_paid_23 (by decide) (fun _ => ?_) (fun h => absurd h (by decide))
  refine z_iconst C (v := 0) dX5_paid_39 (by decide) ?_
  exact z_iret C () rfl rfl (by decide) (by decide) dX5_paid_40
set_option maxHeartbeats 4000000 in
set_option maxRecDepth 100000 in
theorem m_pay_ok (l : Launch) (sa : Nat → Nat) (D : va_G) (cI cZ cL : ClassId) (md : Nat → Nat) (acc flo pap clo net bnd frm too amt pri wai fst ldr bor lnt rat plg opn : Nat → Int32) (small price cut proc thr : Int32) (mk lm : Nat) (b : Nat) (o : Nat) (x : Int32) (r : Nat) (hb : b < 5) (ho : o < 5) (hft : b ≠ o) (h1 : ¬ x < 1) (h2 : ¬ 100000 < x) (hr : r < 3) (hcb : clo b = 0) (hco : clo o = 0) (hmk : mk < 60) : zMi (T := Unit) sa D vwCl (zty cI cZ cL) l yX5_pay wsX5_pay ({ frames := 1, cells := 0, slots := 0, locals := 22 } : Room) [.ref (md 0), .int (nI b), .int (nI o), .int x, .int (nI r)] (wM md cI cZ acc flo pap clo net bnd frm too amt pri wai fst ldr bor lnt rat plg opn (nI mk) small (nI lm) price cut proc thr) (fun r9 _ => r9 = (nI mk)) (fun _ => (wM md cI cZ acc flo pap clo net bnd (upd frm mk (nI b)) (upd too mk (nI o)) (upd amt mk x) (upd pri mk (nI r)) (upd wai mk 1) fst ldr bor lnt rat plg opn (nI (mk + 1)) small (nI lm) price cut proc 0)) 0 0 := by
  refine zMi.of (ret := (some .int)) (cc := cX5_pay) (nL := 5) (own := RX5) (by decide +kernel) rfl [(0, .ref (md 0)), (1, .int (nI b)), (2, .int (nI o)), (3, .int x), (4, .int (nI r))] rfl (Nat.le_of_ble_eq_true rfl) rfl ?_
  intro A p e s m args below meth c C hmn
  refine z_aload_n C dX5_pay_0 rfl 0 rfl ?_
  refine z_iload_n C dX5_pay_1 rfl 1 rfl ?_
  refine z_callSi C (T := Unit) (As := [.int (nI b)]) (rest := [.ref (md 0)]) (ws' := fun _ => (wM md cI cZ acc flo pap clo net bnd frm too amt pri wai fst ldr bor lnt rat plg opn (nI mk) small (nI lm) price cut proc thr)) (m_isBank_y l sa D cI cZ cL  b (by first | assumption | omega)) (va_cwS 1 C.2.2.2.2.1 gX5_pay_X5_isBank rfl rfl rfl (by decide +kernel) ⟨Nat.le_of_ble_eq_true rfl, Nat.le_of_ble_eq_true rfl⟩) (fun _ => zSub.none) zIn.none rfl (Nat.le_of_ble_eq_true rfl) ⟨Nat.le_of_ble_eq_true rfl, Nat.le_of_ble_eq_true rfl⟩ dX5_pay_2 (fun r_1 _ h_2 => ?_)
  obtain rfl : r_1 = 1 := h_2
  refine z_if_eq C (tgt := 19) dX5_pay_5 (by decide) (fun h => absurd h (by decide)) (fun _ => ?_)
  refine z_iload_n C dX5_pay_8 rfl 2 rfl ?_
  refine z_callSi C (T := Unit) (As := [.int (nI o)]) (rest := [.ref (md 0)]) (ws' := fun _ => (wM md cI cZ acc flo pap clo net bnd frm too amt pri wai fst ldr bor lnt rat plg opn (nI mk) small (nI lm) price cut proc thr)) (m_isBank_y l sa D cI cZ cL  o (by first | assumption | omega)) (va_cwS 1 C.2.2.2.2.1 gX5_pay_X5_isBank rfl rfl rfl (by decide +kernel) ⟨Nat.le_of_ble_eq_true rfl, Nat.le_of_ble_eq_true rfl⟩) (fun _ => zSub.none) zIn.none rfl (Nat.le_of_ble_eq_true rfl) ⟨Nat.le_of_ble_eq_true rfl, Nat.le_of_ble_eq_true rfl⟩ dX5_pay_9 (fun r_3 _ h_4 => ?_)
  obtain rfl : r_3 = 1 := h_4
  refine z_if_eq C (tgt := 19) dX5_pay_12 (by decide) (fun h => absurd h (by decide)) (fun _ => ?_)
  refine z_iconst C (v := 1) dX5_pay_15 (by decide) ?_
  refine z_goto C (tgt := 20) dX5_pay_16 (by decide) ?_
  refine z_callVi C (T := Unit) (As := [.int 1]) (rest := []) (ws' := fun _ => (wM md cI cZ acc flo pap clo net bnd frm too amt pri wai fst ldr bor lnt rat plg opn (nI mk) small (nI lm) price cut proc 0)) (m_asks_y l sa D cI cZ cL md acc flo pap clo net bnd frm too amt pri wai fst ldr bor lnt rat plg opn small price cut proc thr mk lm  ) (cwV 1 C.2.2.2.2.1 gX5_pay_X5_asks rfl rfl rfl (by decide +kernel) ⟨Nat.le_of_ble_eq_true rfl, Nat.le_of_ble_eq_true rfl⟩) 0 rfl rfl rfl (fun _ => zSub.full) zIn.full rfl (Nat.le_of_ble_eq_true rfl) ⟨Nat.le_of_ble_eq_true rfl, Nat.le_of_ble_eq_true rfl⟩ dX5_pay_20 (fun r_5 _ h_6 => ?_)
  obtain rfl : r_5 = 1 := h_6
  refine z_if_ne C (tgt := 28) dX5_pay_23 (by decide) (fun _ => ?_) (fun h => absurd h (by decide))
  refine z_iload_n C dX5_pay_28 rfl 1 rfl ?_
  refine z_iload_n C dX5_pay_29 rfl 2 rfl ?_
  refine z_icmp_eq C (tgt := 53) dX5_pay_30 (by decide) (fun c30_7 => ?_) (fun c30_7 => ?_)
  · skip
    have n_8 : b = o := (nI_eq (a := b) (b := o) (by omega) (by omega)).mp c30_7
    refine z_aload_n C dX5_pay_53 rfl 0 rfl ?_
    refine z_iconst C (v := 2) dX5_pay_54 (by decide) ?_
    exfalso
    first | omega | contradiction | exact absurd (by assumption) (Int32.not_le.mpr (by assumption)) | exact absurd (by assumption) (Int32.not_lt.mpr (by assumption))
  · skip
    have n_9 : ¬ b = o := fun q => c30_7 ((nI_eq (a := b) (b := o) (by omega) (by omega)).mpr q)
    refine z_iload_n C dX5_pay_33 rfl 3 rfl ?_
    refine z_iconst C (v := 1) dX5_pay_34 (by decide) ?_
    refine z_ldc C m_X5_pay_k100 dX5_pay_35 ?_
    refine z_callSi C (T := Unit) (As := [.int x, .int 1, .int 100000]) (rest := []) (ws' := fun _ => (wM md cI cZ acc flo pap clo net bnd frm too amt pri wai fst ldr bor lnt rat plg opn (nI mk) small (nI lm) price cut proc 0)) (m_in_y l sa D cI cZ cL  x 1 100000 (by first | assumption | omega) (by first | assumption | omega)) (va_cwS 3 C.2.2.2.2.1 gX5_pay_X5_in rfl rfl rfl (by decide +kernel) ⟨Nat.le_of_ble_eq_true rfl, Nat.le_of_ble_eq_true rfl⟩) (fun _ => zSub.none) zIn.none rfl (Nat.le_of_ble_eq_true rfl) ⟨Nat.le_of_ble_eq_true rfl, Nat.le_of_ble_eq_true rfl⟩ dX5_pay_37 (fun r_10 _ h_11 => ?_)
    obtain rfl : r_10 = 1 := h_11
    refine z_if_eq C (tgt := 53) dX5_pay_40 (by decide) (fun h => absurd h (by decide)) (fun _ => ?_)
    refine z_iload C dX5_pay_43 4 rfl ?_
    refine z_iconst C (v := 0) dX5_pay_45 (by decide) ?_
    refine z_iconst C (v := 2) dX5_pay_46 (by decide) ?_
    refine z_callSi C (T := Unit) (As := [.int (nI r), .int 0, .int 2]) (rest := []) (ws' := fun _ => (wM md cI cZ acc flo pap clo net bnd frm too amt pri wai fst ldr bor lnt rat plg opn (nI mk) small (nI lm) price cut proc 0)) (m_in_y l sa D cI cZ cL  (nI r) 0 2 (by exact nI_pos (by omega)) (by exact nI_nlt (a := 2) (b := r) (by omega) (by decide))) (va_cwS 3 C.2.2.2.2.1 gX5_pay_X5_in rfl rfl rfl (by decide +kernel) ⟨Nat.le_of_ble_eq_true rfl, Nat.le_of_ble_eq_true rfl⟩) (fun _ => zSub.none) zIn.none rfl (Nat.le_of_ble_eq_true rfl) ⟨Nat.le_of_ble_eq_true rfl, Nat.le_of_ble_eq_true rfl⟩ dX5_pay_47 (fun r_12 _ h_13 => ?_)
    obtain rfl : r_12 = 1 := h_13
    refine z_if_ne C (tgt := 59) dX5_pay_50 (by decide) (fun _ => ?_) (fun h => absurd h (by decide))
    refine z_aload_n C dX5_pay_59 rfl 0 rfl ?_
    refine z_get C 0 rfl i_X5_pay_X5 rfl 3 (by decide) m_X5_pay_f19 rfl rfl dX5_pay_60 ?_
    refine z_iload_n C dX5_pay_63 rfl 1 rfl ?_
    refine z_zald C 4 1 rfl rfl b (nI_clamp (by omega)) (vp_in_nI (by omega) (by omega)) (clo b) rfl dX5_pay_64 ?_
    refine z_if_ne C (tgt := 86) dX5_pay_65 (by decide) (fun c65_14 => ?_) (fun c65_14 => ?_)
    · skip
      refine z_aload_n C dX5_pay_86 rfl 0 rfl ?_
      refine z_iconst C (v := 3) dX5_pay_87 (by decide) ?_
      exfalso
      first | omega | contradiction | exact absurd (by assumption) (Int32.not_le.mpr (by assumption)) | exact absurd (by assumption) (Int32.not_lt.mpr (by assumption))
    · skip
      refine z_aload_n C dX5_pay_68 rfl 0 rfl ?_
      refine z_get C 0 rfl i_X5_pay_X5 rfl 3 (by decide) m_X5_pay_f19 rfl rfl dX5_pay_69 ?_
      refine z_iload_n C dX5_pay_72 rfl 2 rfl ?_
      refine z_zald C 4 1 rfl rfl o (nI_clamp (by omega)) (vp_in_nI (by omega) (by omega)) (clo o) rfl dX5_pay_73 ?_
      refine z_if_ne C (tgt := 86) dX5_pay_74 (by decide) (fun c74_15 => ?_) (fun c74_15 => ?_)
      · skip
        refine z_aload_n C dX5_pay_86 rfl 0 rfl ?_
        refine z_iconst C (v := 3) dX5_pay_87 (by decide) ?_
        exfalso
        first | omega | contradiction | exact absurd (by assumption) (Int32.not_le.mpr (by assumption)) | exact absurd (by assumption) (Int32.not_lt.mpr (by assumption))
      · skip
        refine z_aload_n C dX5_pay_77 rfl 0 rfl ?_
        refine z_get C 0 rfl i_X5_pay_X5 rfl 6 (by decide) m_X5_pay_f79 rfl rfl dX5_pay_78 ?_
        refine z_bipush C (v := 60) dX5_pay_81 (by decide) ?_
        refine z_icmp_ne C (tgt := 92) dX5_pay_83 (by decide) (fun c83_16 => ?_) (fun c83_16 => ?_)
        · skip
          have n_17 : ¬ mk = 60 := fun q => c83_16 ((nI_eq (a := mk) (b := 60) (by omega) (by omega)).mpr q)
          refine z_aload_n C dX5_pay_92 rfl 0 rfl ?_
          refine z_get C 0 rfl i_X5_pay_X5 rfl 7 (by decide) m_X5_pay_f29 rfl rfl dX5_pay_93 ?_
          refine z_aload_n C dX5_pay_96 rfl 0 rfl ?_
          refine z_get C 0 rfl i_X5_pay_X5 rfl 6 (by decide) m_X5_pay_f79 rfl rfl dX5_pay_97 ?_
          refine z_iload_n C dX5_pay_100 rfl 1 rfl ?_
          refine z_iast C 7 0 rfl rfl mk (nI_clamp (by omega)) (vp_in_nI (by omega) (by omega)) (nI b) rfl dX5_pay_101 (wM md cI cZ acc flo pap clo net bnd (upd frm mk (nI b)) too amt pri wai fst ldr bor lnt rat plg opn (nI mk) small (nI lm) price cut proc 0) rfl ?_
          refine z_aload_n C dX5_pay_102 rfl 0 rfl ?_
          refine z_get C 0 rfl i_X5_pay_X5 rfl 8 (by decide) m_X5_pay_f32 rfl rfl dX5_pay_103 ?_
          refine z_aload_n C dX5_pay_106 rfl 0 rfl ?_
          refine z_get C 0 rfl i_X5_pay_X5 rfl 6 (by decide) m_X5_pay_f79 rfl rfl dX5_pay_107 ?_
          refine z_iload_n C dX5_pay_110 rfl 2 rfl ?_
          refine z_iast C 8 0 rfl rfl mk (nI_clamp (by omega)) (vp_in_nI (by omega) (by omega)) (nI o) rfl dX5_pay_111 (wM md cI cZ acc flo pap clo net bnd (upd frm mk (nI b)) (upd too mk (nI o)) amt pri wai fst ldr bor lnt rat plg opn (nI mk) small (nI lm) price cut proc 0) rfl ?_
          refine z_aload_n C dX5_pay_112 rfl 0 rfl ?_
          refine z_get C 0 rfl i_X5_pay_X5 rfl 9 (by decide) m_X5_pay_f35 rfl rfl dX5_pay_113 ?_
          refine z_aload_n C dX5_pay_116 rfl 0 rfl ?_
          refine z_get C 0 rfl i_X5_pay_X5 rfl 6 (by decide) m_X5_pay_f79 rfl rfl dX5_pay_117 ?_
          refine z_iload_n C dX5_pay_120 rfl 3 rfl ?_
          refine z_iast C 9 0 rfl rfl mk (nI_clamp (by omega)) (vp_in_nI (by omega) (by omega)) x rfl dX5_pay_121 (wM md cI cZ acc flo pap clo net bnd (upd frm mk (nI b)) (upd too mk (nI o)) (upd amt mk x) pri wai fst ldr bor lnt rat plg opn (nI mk) small (nI lm) price cut proc 0) rfl ?_
          refine z_aload_n C dX5_pay_122 rfl 0 rfl ?_
          refine z_get C 0 rfl i_X5_pay_X5 rfl 10 (by decide) m_X5_pay_f38 rfl rfl dX5_pay_123 ?_
          refine z_aload_n C dX5_pay_126 rfl 0 rfl ?_
          refine z_get C 0 rfl i_X5_pay_X5 rfl 6 (by decide) m_X5_pay_f79 rfl rfl dX5_pay_127 ?_
          refine z_iload C dX5_pay_130 4 rfl ?_
          refine z_iast C 10 0 rfl rfl mk (nI_clamp (by omega)) (vp_in_nI (by omega) (by omega)) (nI r) rfl dX5_pay_132 (wM md cI cZ acc flo pap clo net bnd (upd frm mk (nI b)) (upd too mk (nI o)) (upd amt mk x) (upd pri mk (nI r)) wai fst ldr bor lnt rat plg opn (nI mk) small (nI lm) price cut proc 0) rfl ?_
          refine z_aload_n C dX5_pay_133 rfl 0 rfl ?_
          refine z_get C 0 rfl i_X5_pay_X5 rfl 11 (by decide) m_X5_pay_f41 rfl rfl dX5_pay_134 ?_
          refine z_aload_n C dX5_pay_137 rfl 0 rfl ?_
          refine z_get C 0 rfl i_X5_pay_X5 rfl 6 (by decide) m_X5_pay_f79 rfl rfl dX5_pay_138 ?_
          refine z_iconst C (v := 1) dX5_pay_141 (by decide) ?_
          refine z_zast C 11 1 rfl rfl mk (nI_clamp (by omega)) (vp_in_nI (by omega) (by omega)) 1 (by decide) dX5_pay_142 (wM md cI cZ acc flo pap clo net bnd (upd frm mk (nI b)) (upd too mk (nI o)) (upd amt mk x) (upd pri mk (nI r)) (upd wai mk 1) fst ldr bor lnt rat plg opn (nI mk) small (nI lm) price cut proc 0) rfl ?_
          refine z_aload_n C dX5_pay_143 rfl 0 rfl ?_
          refine z_dup C dX5_pay_144 rfl ?_
          refine z_get C 0 rfl i_X5_pay_X5 rfl 6 (by decide) m_X5_pay_f79 rfl rfl dX5_pay_145 ?_
          refine z_iconst C (v := 1) dX5_pay_148 (by decide) ?_
          refine z_iadd C (v := (nI (mk + 1))) dX5_pay_149 (nI_add mk 1) ?_
          refine z_put C 0 rfl i_X5_pay_X5 rfl 6 (by decide) m_X5_pay_f79 rfl tyX5 tyX5_ok nmX5 rfl (ty := .int) (by decide +kernel) rfl rfl (Nat.le_of_ble_eq_true rfl) dX5_pay_150 (wM md cI cZ acc flo pap clo net bnd (upd frm mk (nI b)) (upd too mk (nI o)) (upd amt mk x) (upd pri mk (nI r)) (upd wai mk 1) fst ldr bor lnt rat plg opn (nI (mk + 1)) small (nI lm) price cut proc 0) rfl ?_
          refine z_aload_n C dX5_pay_153 rfl 0 rfl ?_
          refine z_get C 0 rfl i_X5_pay_X5 rfl 6 (by decide) m_X5_pay_f79 rfl rfl dX5_pay_154 ?_
          refine z_iconst C (v := 1) dX5_pay_157 (by decide) ?_
          refine z_isub C (v := (nI ((mk + 1) - 1))) dX5_pay_158 (pk_sub (a := mk + 1) (b := 1) (by omega)) ?_
          exact z_iret C () rfl rfl (by decide) (by decide) dX5_pay_159
        · skip
          have n_18 : mk = 60 := (nI_eq (a := mk) (b := 60) (by omega) (by omega)).mp c83_16
          refine z_aload_n C dX5_pay_86 rfl 0 rfl ?_
          refine z_iconst C (v := 3) dX5_pay_87 (by decide) ?_
          exfalso
          first | omega | contradiction | exact absurd (by assumption) (Int32.not_le.mpr (by assumption)) | exact absurd (by assumption) (Int32.not_lt.mpr (by assumption))
set_option maxHeartbeats 4000000 in
set_option maxRecDepth 100000 in
theorem m_pay_b1 (l : Launch) (sa : Nat → Nat) (D : va_G) (cI cZ cL : ClassId) (md : Nat → Nat) (acc flo pap clo net bnd frm too amt pri wai fst ldr bor lnt rat plg opn : Nat → Int32) (small price cut proc thr : Int32) (mk lm : Nat) (b : Int32) (o : Int32) (x : Int32) (r : Int32) (hb : b < 0 ∨ 5 ≤ b) : zMi (T := Unit) sa D vwCl (zty cI cZ cL) l yX5_pay wsX5_pay ({ frames := 1, cells := 0, slots := 0, locals := 21 } : Room) [.ref (md 0), .int b, .int o, .int x, .int r] (wM md cI cZ acc flo pap clo net bnd frm too amt pri wai fst ldr bor lnt rat plg opn (nI mk) small (nI lm) price cut proc thr) (fun r9 _ => r9 = 0) (fun _ => (wM md cI cZ acc flo pap clo net bnd frm too amt pri wai fst ldr bor lnt rat plg opn (nI mk) small (nI lm) price cut proc 1)) 0 0 := by
  refine zMi.of (ret := (some .int)) (cc := cX5_pay) (nL := 5) (own := RX5) (by decide +kernel) rfl [(0, .ref (md 0)), (1, .int b), (2, .int o), (3, .int x), (4, .int r)] rfl (Nat.le_of_ble_eq_true rfl) rfl ?_
  intro A p e s m args below meth c C hmn
  refine z_aload_n C dX5_pay_0 rfl 0 rfl ?_
  refine z_iload_n C dX5_pay_1 rfl 1 rfl ?_
  refine z_callSi C (T := Unit) (As := [.int b]) (rest := [.ref (md 0)]) (ws' := fun _ => (wM md cI cZ acc flo pap clo net bnd frm too amt pri wai fst ldr bor lnt rat plg opn (nI mk) small (nI lm) price cut proc thr)) (m_isBank_n l sa D cI cZ cL  b (by first | assumption | omega)) (va_cwS 1 C.2.2.2.2.1 gX5_pay_X5_isBank rfl rfl rfl (by decide +kernel) ⟨Nat.le_of_ble_eq_true rfl, Nat.le_of_ble_eq_true rfl⟩) (fun _ => zSub.none) zIn.none rfl (Nat.le_of_ble_eq_true rfl) ⟨Nat.le_of_ble_eq_true rfl, Nat.le_of_ble_eq_true rfl⟩ dX5_pay_2 (fun r_1 _ h_2 => ?_)
  obtain rfl : r_1 = 0 := h_2
  refine z_if_eq C (tgt := 19) dX5_pay_5 (by decide) (fun _ => ?_) (fun h => absurd h (by decide))
  refine z_iconst C (v := 0) dX5_pay_19 (by decide) ?_
  refine z_callVi C (T := Unit) (As := [.int 0]) (rest := []) (ws' := fun _ => (wM md cI cZ acc flo pap clo net bnd frm too amt pri wai fst ldr bor lnt rat plg opn (nI mk) small (nI lm) price cut proc 1)) (m_asks_n l sa D cI cZ cL md acc flo pap clo net bnd frm too amt pri wai fst ldr bor lnt rat plg opn small price cut proc thr mk lm  ) (cwV 1 C.2.2.2.2.1 gX5_pay_X5_asks rfl rfl rfl (by decide +kernel) ⟨Nat.le_of_ble_eq_true rfl, Nat.le_of_ble_eq_true rfl⟩) 0 rfl rfl rfl (fun _ => zSub.full) zIn.full rfl (Nat.le_of_ble_eq_true rfl) ⟨Nat.le_of_ble_eq_true rfl, Nat.le_of_ble_eq_true rfl⟩ dX5_pay_20 (fun r_3 _ h_4 => ?_)
  obtain rfl : r_3 = 0 := h_4
  refine z_if_ne C (tgt := 28) dX5_pay_23 (by decide) (fun h => absurd h (by decide)) (fun _ => ?_)
  refine z_iconst C (v := 0) dX5_pay_26 (by decide) ?_
  exact z_iret C () rfl rfl (by decide) (by decide) dX5_pay_27
set_option maxHeartbeats 4000000 in
set_option maxRecDepth 100000 in
theorem m_pay_b1b (l : Launch) (sa : Nat → Nat) (D : va_G) (cI cZ cL : ClassId) (md : Nat → Nat) (acc flo pap clo net bnd frm too amt pri wai fst ldr bor lnt rat plg opn : Nat → Int32) (small price cut proc thr : Int32) (mk lm : Nat) (b : Nat) (o : Int32) (x : Int32) (r : Int32) (hb : b < 5) (ho : o < 0 ∨ 5 ≤ o) : zMi (T := Unit) sa D vwCl (zty cI cZ cL) l yX5_pay wsX5_pay ({ frames := 1, cells := 0, slots := 0, locals := 21 } : Room) [.ref (md 0), .int (nI b), .int o, .int x, .int r] (wM md cI cZ acc flo pap clo net bnd frm too amt pri wai fst ldr bor lnt rat plg opn (nI mk) small (nI lm) price cut proc thr) (fun r9 _ => r9 = 0) (fun _ => (wM md cI cZ acc flo pap clo net bnd frm too amt pri wai fst ldr bor lnt rat plg opn (nI mk) small (nI lm) price cut proc 1)) 0 0 := by
  refine zMi.of (ret := (some .int)) (cc := cX5_pay) (nL := 5) (own := RX5) (by decide +kernel) rfl [(0, .ref (md 0)), (1, .int (nI b)), (2, .int o), (3, .int x), (4, .int r)] rfl (Nat.le_of_ble_eq_true rfl) rfl ?_
  intro A p e s m args below meth c C hmn
  refine z_aload_n C dX5_pay_0 rfl 0 rfl ?_
  refine z_iload_n C dX5_pay_1 rfl 1 rfl ?_
  refine z_callSi C (T := Unit) (As := [.int (nI b)]) (rest := [.ref (md 0)]) (ws' := fun _ => (wM md cI cZ acc flo pap clo net bnd frm too amt pri wai fst ldr bor lnt rat plg opn (nI mk) small (nI lm) price cut proc thr)) (m_isBank_y l sa D cI cZ cL  b (by first | assumption | omega)) (va_cwS 1 C.2.2.2.2.1 gX5_pay_X5_isBank rfl rfl rfl (by decide +kernel) ⟨Nat.le_of_ble_eq_true rfl, Nat.le_of_ble_eq_true rfl⟩) (fun _ => zSub.none) zIn.none rfl (Nat.le_of_ble_eq_true rfl) ⟨Nat.le_of_ble_eq_true rfl, Nat.le_of_ble_eq_true rfl⟩ dX5_pay_2 (fun r_1 _ h_2 => ?_)
  obtain rfl : r_1 = 1 := h_2
  refine z_if_eq C (tgt := 19) dX5_pay_5 (by decide) (fun h => absurd h (by decide)) (fun _ => ?_)
  refine z_iload_n C dX5_pay_8 rfl 2 rfl ?_
  refine z_callSi C (T := Unit) (As := [.int o]) (rest := [.ref (md 0)]) (ws' := fun _ => (wM md cI cZ acc flo pap clo net bnd frm too amt pri wai fst ldr bor lnt rat plg opn (nI mk) small (nI lm) price cut proc thr)) (m_isBank_n l sa D cI cZ cL  o (by first | assumption | omega)) (va_cwS 1 C.2.2.2.2.1 gX5_pay_X5_isBank rfl rfl rfl (by decide +kernel) ⟨Nat.le_of_ble_eq_true rfl, Nat.le_of_ble_eq_true rfl⟩) (fun _ => zSub.none) zIn.none rfl (Nat.le_of_ble_eq_true rfl) ⟨Nat.le_of_ble_eq_true rfl, Nat.le_of_ble_eq_true rfl⟩ dX5_pay_9 (fun r_3 _ h_4 => ?_)
  obtain rfl : r_3 = 0 := h_4
  refine z_if_eq C (tgt := 19) dX5_pay_12 (by decide) (fun _ => ?_) (fun h => absurd h (by decide))
  refine z_iconst C (v := 0) dX5_pay_19 (by decide) ?_
  refine z_callVi C (T := Unit) (As := [.int 0]) (rest := []) (ws' := fun _ => (wM md cI cZ acc flo pap clo net bnd frm too amt pri wai fst ldr bor lnt rat plg opn (nI mk) small (nI lm) price cut proc 1)) (m_asks_n l sa D cI cZ cL md acc flo pap clo net bnd frm too amt pri wai fst ldr bor lnt rat plg opn small price cut proc thr mk lm  ) (cwV 1 C.2.2.2.2.1 gX5_pay_X5_asks rfl rfl rfl (by decide +kernel) ⟨Nat.le_of_ble_eq_true rfl, Nat.le_of_ble_eq_true rfl⟩) 0 rfl rfl rfl (fun _ => zSub.full) zIn.full rfl (Nat.le_of_ble_eq_true rfl) ⟨Nat.le_of_ble_eq_true rfl, Nat.le_of_ble_eq_true rfl⟩ dX5_pay_20 (fun r_5 _ h_6 => ?_)
  obtain rfl : r_5 = 0 := h_6
  refine z_if_ne C (tgt := 28) dX5_pay_23 (by decide) (fun h => absurd h (by decide)) (fun _ => ?_)
  refine z_iconst C (v := 0) dX5_pay_26 (by decide) ?_
  exact z_iret C () rfl rfl (by decide) (by decide) dX5_pay_27
set_option maxHeartbeats 4000000 in
set_option maxRecDepth 100000 in
theorem m_pay_b2a (l : Launch) (sa : Nat → Nat) (D : va_G) (cI cZ cL : ClassId) (md : Nat → Nat) (acc flo pap clo net bnd frm too amt pri wai fst ldr bor lnt rat plg opn : Nat → Int32) (small price cut proc thr : Int32) (mk lm : Nat) (b : Nat) (o : Nat) (x : Int32) (r : Int32) (hb : b < 5) (ho : o < 5) (hft : b = o) : zMi (T := Unit) sa D vwCl (zty cI cZ cL) l yX5_pay wsX5_pay ({ frames := 1, cells := 0, slots := 0, locals := 21 } : Room) [.ref (md 0), .int (nI b), .int (nI o), .int x, .int r] (wM md cI cZ acc flo pap clo net bnd frm too amt pri wai fst ldr bor lnt rat plg opn (nI mk) small (nI lm) price cut proc thr) (fun r9 _ => r9 = 0) (fun _ => (wM md cI cZ acc flo pap clo net bnd frm too amt pri wai fst ldr bor lnt rat plg opn (nI mk) small (nI lm) price cut proc 2)) 0 0 := by
  refine zMi.of (ret := (some .int)) (cc := cX5_pay) (nL := 5) (own := RX5) (by decide +kernel) rfl [(0, .ref (md 0)), (1, .int (nI b)), (2, .int (nI o)), (3, .int x), (4, .int r)] rfl (Nat.le_of_ble_eq_true rfl) rfl ?_
  intro A p e s m args below meth c C hmn
  refine z_aload_n C dX5_pay_0 rfl 0 rfl ?_
  refine z_iload_n C dX5_pay_1 rfl 1 rfl ?_
  refine z_callSi C (T := Unit) (As := [.int (nI b)]) (rest := [.ref (md 0)]) (ws' := fun _ => (wM md cI cZ acc flo pap clo net bnd frm too amt pri wai fst ldr bor lnt rat plg opn (nI mk) small (nI lm) price cut proc thr)) (m_isBank_y l sa D cI cZ cL  b (by first | assumption | omega)) (va_cwS 1 C.2.2.2.2.1 gX5_pay_X5_isBank rfl rfl rfl (by decide +kernel) ⟨Nat.le_of_ble_eq_true rfl, Nat.le_of_ble_eq_true rfl⟩) (fun _ => zSub.none) zIn.none rfl (Nat.le_of_ble_eq_true rfl) ⟨Nat.le_of_ble_eq_true rfl, Nat.le_of_ble_eq_true rfl⟩ dX5_pay_2 (fun r_1 _ h_2 => ?_)
  obtain rfl : r_1 = 1 := h_2
  refine z_if_eq C (tgt := 19) dX5_pay_5 (by decide) (fun h => absurd h (by decide)) (fun _ => ?_)
  refine z_iload_n C dX5_pay_8 rfl 2 rfl ?_
  refine z_callSi C (T := Unit) (As := [.int (nI o)]) (rest := [.ref (md 0)]) (ws' := fun _ => (wM md cI cZ acc flo pap clo net bnd frm too amt pri wai fst ldr bor lnt rat plg opn (nI mk) small (nI lm) price cut proc thr)) (m_isBank_y l sa D cI cZ cL  o (by first | assumption | omega)) (va_cwS 1 C.2.2.2.2.1 gX5_pay_X5_isBank rfl rfl rfl (by decide +kernel) ⟨Nat.le_of_ble_eq_true rfl, Nat.le_of_ble_eq_true rfl⟩) (fun _ => zSub.none) zIn.none rfl (Nat.le_of_ble_eq_true rfl) ⟨Nat.le_of_ble_eq_true rfl, Nat.le_of_ble_eq_true rfl⟩ dX5_pay_9 (fun r_3 _ h_4 => ?_)
  obtain rfl : r_3 = 1 := h_4
  refine z_if_eq C (tgt := 19) dX5_pay_12 (by decide) (fun h => absurd h (by decide)) (fun _ => ?_)
  refine z_iconst C (v := 1) dX5_pay_15 (by decide) ?_
  refine z_goto C (tgt := 20) dX5_pay_16 (by decide) ?_
  refine z_callVi C (T := Unit) (As := [.int 1]) (rest := []) (ws' := fun _ => (wM md cI cZ acc flo pap clo net bnd frm too amt pri wai fst ldr bor lnt rat plg opn (nI mk) small (nI lm) price cut proc 0)) (m_asks_y l sa D cI cZ cL md acc flo pap clo net bnd frm too amt pri wai fst ldr bor lnt rat plg opn small price cut proc thr mk lm  ) (cwV 1 C.2.2.2.2.1 gX5_pay_X5_asks rfl rfl rfl (by decide +kernel) ⟨Nat.le_of_ble_eq_true rfl, Nat.le_of_ble_eq_true rfl⟩) 0 rfl rfl rfl (fun _ => zSub.full) zIn.full rfl (Nat.le_of_ble_eq_true rfl) ⟨Nat.le_of_ble_eq_true rfl, Nat.le_of_ble_eq_true rfl⟩ dX5_pay_20 (fun r_5 _ h_6 => ?_)
  obtain rfl : r_5 = 1 := h_6
  refine z_if_ne C (tgt := 28) dX5_pay_23 (by decide) (fun _ => ?_) (fun h => absurd h (by decide))
  refine z_iload_n C dX5_pay_28 rfl 1 rfl ?_
  refine z_iload_n C dX5_pay_29 rfl 2 rfl ?_
  refine z_icmp_eq C (tgt := 53) dX5_pay_30 (by decide) (fun c30_7 => ?_) (fun c30_7 => ?_)
  · skip
    have n_8 : b = o := (nI_eq (a := b) (b := o) (by omega) (by omega)).mp c30_7
    refine z_aload_n C dX5_pay_53 rfl 0 rfl ?_
    refine z_iconst C (v := 2) dX5_pay_54 (by decide) ?_
    refine z_callVi C (T := Unit) (As := [.int 2]) (rest := []) (ws' := fun _ => (wM md cI cZ acc flo pap clo net bnd frm too amt pri wai fst ldr bor lnt rat plg opn (nI mk) small (nI lm) price cut proc 2)) (m_fails l sa D cI cZ cL md acc flo pap clo net bnd frm too amt pri wai fst ldr bor lnt rat plg opn small price cut proc 0 mk lm 2 ) (cwV 1 C.2.2.2.2.1 gX5_pay_X5_fails rfl rfl rfl (by decide +kernel) ⟨Nat.le_of_ble_eq_true rfl, Nat.le_of_ble_eq_true rfl⟩) 0 rfl rfl rfl (fun _ => zSub.full) zIn.full rfl (Nat.le_of_ble_eq_true rfl) ⟨Nat.le_of_ble_eq_true rfl, Nat.le_of_ble_eq_true rfl⟩ dX5_pay_55 (fun r_9 _ h_10 => ?_)
    obtain rfl : r_9 = 0 := h_10
    exact z_iret C () rfl rfl (by decide) (by decide) dX5_pay_58
  · skip
    have n_11 : ¬ b = o := fun q => c30_7 ((nI_eq (a := b) (b := o) (by omega) (by omega)).mpr q)
    exfalso
    omega
set_option maxHeartbeats 4000000 in
set_option maxRecDepth 100000 in
theorem m_pay_b2b (l : Launch) (sa : Nat → Nat) (D : va_G) (cI cZ cL : ClassId) (md : Nat → Nat) (acc flo pap clo net bnd frm too amt pri wai fst ldr bor lnt rat plg opn : Nat → Int32) (small price cut proc thr : Int32) (mk lm : Nat) (b : Nat) (o : Nat) (x : Int32) (r : Int32) (hb : b < 5) (ho : o < 5) (hft : b ≠ o) (hbad : x < 1 ∨ 100000 < x ∨ r < 0 ∨ 2 < r) : zMi (T := Unit) sa D vwCl (zty cI cZ cL) l yX5_pay wsX5_pay ({ frames := 1, cells := 0, slots := 0, locals := 22 } : Room) [.ref (md 0), .int (nI b), .int (nI o), .int x, .int r] (wM md cI cZ acc flo pap clo net bnd frm too amt pri wai fst ldr bor lnt rat plg opn (nI mk) small (nI lm) price cut proc thr) (fun r9 _ => r9 = 0) (fun _ => (wM md cI cZ acc flo pap clo net bnd frm too amt pri wai fst ldr bor lnt rat plg opn (nI mk) small (nI lm) price cut proc 2)) 0 0 := by
  refine zMi.of (ret := (some .int)) (cc := cX5_pay) (nL := 5) (own := RX5) (by decide +kernel) rfl [(0, .ref (md 0)), (1, .int (nI b)), (2, .int (nI o)), (3, .int x), (4, .int r)] rfl (Nat.le_of_ble_eq_true rfl) rfl ?_
  intro A p e s m args below meth c C hmn
  refine z_aload_n C dX5_pay_0 rfl 0 rfl ?_
  refine z_iload_n C dX5_pay_1 rfl 1 rfl ?_
  refine z_callSi C (T := Unit) (As := [.int (nI b)]) (rest := [.ref (md 0)]) (ws' := fun _ => (wM md cI cZ acc flo pap clo net bnd frm too amt pri wai fst ldr bor lnt rat plg opn (nI mk) small (nI lm) price cut proc thr)) (m_isBank_y l sa D cI cZ cL  b (by first | assumption | omega)) (va_cwS 1 C.2.2.2.2.1 gX5_pay_X5_isBank rfl rfl rfl (by decide +kernel) ⟨Nat.le_of_ble_eq_true rfl, Nat.le_of_ble_eq_true rfl⟩) (fun _ => zSub.none) zIn.none rfl (Nat.le_of_ble_eq_true rfl) ⟨Nat.le_of_ble_eq_true rfl, Nat.le_of_ble_eq_true rfl⟩ dX5_pay_2 (fun r_1 _ h_2 => ?_)
  obtain rfl : r_1 = 1 := h_2
  refine z_if_eq C (tgt := 19) dX5_pay_5 (by decide) (fun h => absurd h (by decide)) (fun _ => ?_)
  refine z_iload_n C dX5_pay_8 rfl 2 rfl ?_
  refine z_callSi C (T := Unit) (As := [.int (nI o)]) (rest := [.ref (md 0)]) (ws' := fun _ => (wM md cI cZ acc flo pap clo net bnd frm too amt pri wai fst ldr bor lnt rat plg opn (nI mk) small (nI lm) price cut proc thr)) (m_isBank_y l sa D cI cZ cL  o (by first | assumption | omega)) (va_cwS 1 C.2.2.2.2.1 gX5_pay_X5_isBank rfl rfl rfl (by decide +kernel) ⟨Nat.le_of_ble_eq_true rfl, Nat.le_of_ble_eq_true rfl⟩) (fun _ => zSub.none) zIn.none rfl (Nat.le_of_ble_eq_true rfl) ⟨Nat.le_of_ble_eq_true rfl, Nat.le_of_ble_eq_true rfl⟩ dX5_pay_9 (fun r_3 _ h_4 => ?_)
  obtain rfl : r_3 = 1 := h_4
  refine z_if_eq C (tgt := 19) dX5_pay_12 (by decide) (fun h => absurd h (by decide)) (fun _ => ?_)
  refine z_iconst C (v := 1) dX5_pay_15 (by decide) ?_
  refine z_goto C (tgt := 20) dX5_pay_16 (by decide) ?_
  refine z_callVi C (T := Unit) (As := [.int 1]) (rest := []) (ws' := fun _ => (wM md cI cZ acc flo pap clo net bnd frm too amt pri wai fst ldr bor lnt rat plg opn (nI mk) small (nI lm) price cut proc 0)) (m_asks_y l sa D cI cZ cL md acc flo pap clo net bnd frm too amt pri wai fst ldr bor lnt rat plg opn small price cut proc thr mk lm  ) (cwV 1 C.2.2.2.2.1 gX5_pay_X5_asks rfl rfl rfl (by decide +kernel) ⟨Nat.le_of_ble_eq_true rfl, Nat.le_of_ble_eq_true rfl⟩) 0 rfl rfl rfl (fun _ => zSub.full) zIn.full rfl (Nat.le_of_ble_eq_true rfl) ⟨Nat.le_of_ble_eq_true rfl, Nat.le_of_ble_eq_true rfl⟩ dX5_pay_20 (fun r_5 _ h_6 => ?_)
  obtain rfl : r_5 = 1 := h_6
  refine z_if_ne C (tgt := 28) dX5_pay_23 (by decide) (fun _ => ?_) (fun h => absurd h (by decide))
  refine z_iload_n C dX5_pay_28 rfl 1 rfl ?_
  refine z_iload_n C dX5_pay_29 rfl 2 rfl ?_
  refine z_icmp_eq C (tgt := 53) dX5_pay_30 (by decide) (fun c30_7 => ?_) (fun c30_7 => ?_)
  · skip
    have n_8 : b = o := (nI_eq (a := b) (b := o) (by omega) (by omega)).mp c30_7
    refine z_aload_n C dX5_pay_53 rfl 0 rfl ?_
    refine z_iconst C (v := 2) dX5_pay_54 (by decide) ?_
    refine z_callVi C (T := Unit) (As := [.int 2]) (rest := []) (ws' := fun _ => (wM md cI cZ acc flo pap clo net bnd frm too amt pri wai fst ldr bor lnt rat plg opn (nI mk) small (nI lm) price cut proc 2)) (m_fails l sa D cI cZ cL md acc flo pap clo net bnd frm too amt pri wai fst ldr bor lnt rat plg opn small price cut proc 0 mk lm 2 ) (cwV 1 C.2.2.2.2.1 gX5_pay_X5_fails rfl rfl rfl (by decide +kernel) ⟨Nat.le_of_ble_eq_true rfl, Nat.le_of_ble_eq_true rfl⟩) 0 rfl rfl rfl (fun _ => zSub.full) zIn.full rfl (Nat.le_of_ble_eq_true rfl) ⟨Nat.le_of_ble_eq_true rfl, Nat.le_of_ble_eq_true rfl⟩ dX5_pay_55 (fun r_9 _ h_10 => ?_)
    obtain rfl : r_9 = 0 := h_10
    exact z_iret C () rfl rfl (by decide) (by decide) dX5_pay_58
  · skip
    have n_11 : ¬ b = o := fun q => c30_7 ((nI_eq (a := b) (b := o) (by omega) (by omega)).mpr q)
    refine z_iload_n C dX5_pay_33 rfl 3 rfl ?_
    refine z_iconst C (v := 1) dX5_pay_34 (by decide) ?_
    refine z_ldc C m_X5_pay_k100 dX5_pay_35 ?_
    refine z_case (¬ x < 1 ∧ ¬ 100000 < x) (fun hp_12 => ?_) (fun hp_12 => ?_)
    · skip
      obtain ⟨_, _⟩ := hp_12
      refine z_callSi C (T := Unit) (As := [.int x, .int 1, .int 100000]) (rest := []) (ws' := fun _ => (wM md cI cZ acc flo pap clo net bnd frm too amt pri wai fst ldr bor lnt rat plg opn (nI mk) small (nI lm) price cut proc 0)) (m_in_y l sa D cI cZ cL  x 1 100000 (by first | assumption | omega) (by first | assumption | omega)) (va_cwS 3 C.2.2.2.2.1 gX5_pay_X5_in rfl rfl rfl (by decide +kernel) ⟨Nat.le_of_ble_eq_true rfl, Nat.le_of_ble_eq_true rfl⟩) (fun _ => zSub.none) zIn.none rfl (Nat.le_of_ble_eq_true rfl) ⟨Nat.le_of_ble_eq_true rfl, Nat.le_of_ble_eq_true rfl⟩ dX5_pay_37 (fun r_13 _ h_14 => ?_)
      obtain rfl : r_13 = 1 := h_14
      refine z_if_eq C (tgt := 53) dX5_pay_40 (by decide) (fun h => absurd h (by decide)) (fun _ => ?_)
      refine z_iload C dX5_pay_43 4 rfl ?_
      refine z_iconst C (v := 0) dX5_pay_45 (by decide) ?_
      refine z_iconst C (v := 2) dX5_pay_46 (by decide) ?_
      refine z_callSi C (T := Unit) (As := [.int r, .int 0, .int 2]) (rest := []) (ws' := fun _ => (wM md cI cZ acc flo pap clo net bnd frm too amt pri wai fst ldr bor lnt rat plg opn (nI mk) small (nI lm) price cut proc 0)) (m_in_n l sa D cI cZ cL  r 0 2 (by rcases hbad with h | h | h | h <;> first | contradiction | exact Or.inl h | exact Or.inr h)) (va_cwS 3 C.2.2.2.2.1 gX5_pay_X5_in rfl rfl rfl (by decide +kernel) ⟨Nat.le_of_ble_eq_true rfl, Nat.le_of_ble_eq_true rfl⟩) (fun _ => zSub.none) zIn.none rfl (Nat.le_of_ble_eq_true rfl) ⟨Nat.le_of_ble_eq_true rfl, Nat.le_of_ble_eq_true rfl⟩ dX5_pay_47 (fun r_15 _ h_16 => ?_)
      obtain rfl : r_15 = 0 := h_16
      refine z_if_ne C (tgt := 59) dX5_pay_50 (by decide) (fun h => absurd h (by decide)) (fun _ => ?_)
      refine z_aload_n C dX5_pay_53 rfl 0 rfl ?_
      refine z_iconst C (v := 2) dX5_pay_54 (by decide) ?_
      refine z_callVi C (T := Unit) (As := [.int 2]) (rest := []) (ws' := fun _ => (wM md cI cZ acc flo pap clo net bnd frm too amt pri wai fst ldr bor lnt rat plg opn (nI mk) small (nI lm) price cut proc 2)) (m_fails l sa D cI cZ cL md acc flo pap clo net bnd frm too amt pri wai fst ldr bor lnt rat plg opn small price cut proc 0 mk lm 2 ) (cwV 1 C.2.2.2.2.1 gX5_pay_X5_fails rfl rfl rfl (by decide +kernel) ⟨Nat.le_of_ble_eq_true rfl, Nat.le_of_ble_eq_true rfl⟩) 0 rfl rfl rfl (fun _ => zSub.full) zIn.full rfl (Nat.le_of_ble_eq_true rfl) ⟨Nat.le_of_ble_eq_true rfl, Nat.le_of_ble_eq_true rfl⟩ dX5_pay_55 (fun r_17 _ h_18 => ?_)
      obtain rfl : r_17 = 0 := h_18
      exact z_iret C () rfl rfl (by decide) (by decide) dX5_pay_58
    · skip
      have := z_rng hp_12
      refine z_callSi C (T := Unit) (As := [.int x, .int 1, .int 100000]) (rest := []) (ws' := fun _ => (wM md cI cZ acc flo pap clo net bnd frm too amt pri wai fst ldr bor lnt rat plg opn (nI mk) small (nI lm) price cut proc 0)) (m_in_n l sa D cI cZ cL  x 1 100000 (by first | assumption | omega)) (va_cwS 3 C.2.2.2.2.1 gX5_pay_X5_in rfl rfl rfl (by decide +kernel) ⟨Nat.le_of_ble_eq_true rfl, Nat.le_of_ble_eq_true rfl⟩) (fun _ => zSub.none) zIn.none rfl (Nat.le_of_ble_eq_true rfl) ⟨Nat.le_of_ble_eq_true rfl, Nat.le_of_ble_eq_true rfl⟩ dX5_pay_37 (fun r_19 _ h_20 => ?_)
      obtain rfl : r_19 = 0 := h_20
      refine z_if_eq C (tgt := 53) dX5_pay_40 (by decide) (fun _ => ?_) (fun h => absurd h (by decide))
      refine z_aload_n C dX5_pay_53 rfl 0 rfl ?_
      refine z_iconst C (v := 2) dX5_pay_54 (by decide) ?_
      refine z_callVi C (T := Unit) (As := [.int 2]) (rest := []) (ws' := fun _ => (wM md cI cZ acc flo pap clo net bnd frm too amt pri wai fst ldr bor lnt rat plg opn (nI mk) small (nI lm) price cut proc 2)) (m_fails l sa D cI cZ cL md acc flo pap clo net bnd frm too amt pri wai fst ldr bor lnt rat plg opn small price cut proc 0 mk lm 2 ) (cwV 1 C.2.2.2.2.1 gX5_pay_X5_fails rfl rfl rfl (by decide +kernel) ⟨Nat.le_of_ble_eq_true rfl, Nat.le_of_ble_eq_true rfl⟩) 0 rfl rfl rfl (fun _ => zSub.full) zIn.full rfl (Nat.le_of_ble_eq_true rfl) ⟨Nat.le_of_ble_eq_true rfl, Nat.le_of_ble_eq_true rfl⟩ dX5_pay_55 (fun r_21 _ h_22 => ?_)
      obtain rfl : r_21 = 0 := h_22
      exact z_iret C () rfl rfl (by decide) (by decide) dX5_pay_58
set_option maxHeartbeats 4000000 in
set_option maxRecDepth 100000 in
theorem m_pay_b3 (l : Launch) (sa : Nat → Nat) (D : va_G) (cI cZ cL : ClassId) (md : Nat → Nat) (acc flo pap clo net bnd frm too amt pri wai fst ldr bor lnt rat plg opn : Nat → Int32) (small price cut proc thr : Int32) (mk lm : Nat) (b : Nat) (o : Nat) (x : Int32) (r : Nat) (hb : b < 5) (ho : o < 5) (hft : b ≠ o) (h1 : ¬ x < 1) (h2 : ¬ 100000 < x) (hr : r < 3) (hbad : ¬ (clo b = 0 ∧ clo o = 0 ∧ mk < 60)) (hmk : mk ≤ 60) : zMi (T := Unit) sa D vwCl (zty cI cZ cL) l yX5_pay wsX5_pay ({ frames := 1, cells := 0, slots := 0, locals := 22 } : Room) [.ref (md 0), .int (nI b), .int (nI o), .int x, .int (nI r)] (wM md cI cZ acc flo pap clo net bnd frm too amt pri wai fst ldr bor lnt rat plg opn (nI mk) small (nI lm) price cut proc thr) (fun r9 _ => r9 = 0) (fun _ => (wM md cI cZ acc flo pap clo net bnd frm too amt pri wai fst ldr bor lnt rat plg opn (nI mk) small (nI lm) price cut proc 3)) 0 0 := by
  refine zMi.of (ret := (some .int)) (cc := cX5_pay) (nL := 5) (own := RX5) (by decide +kernel) rfl [(0, .ref (md 0)), (1, .int (nI b)), (2, .int (nI o)), (3, .int x), (4, .int (nI r))] rfl (Nat.le_of_ble_eq_true rfl) rfl ?_
  intro A p e s m args below meth c C hmn
  refine z_aload_n C dX5_pay_0 rfl 0 rfl ?_
  refine z_iload_n C dX5_pay_1 rfl 1 rfl ?_
  refine z_callSi C (T := Unit) (As := [.int (nI b)]) (rest := [.ref (md 0)]) (ws' := fun _ => (wM md cI cZ acc flo pap clo net bnd frm too amt pri wai fst ldr bor lnt rat plg opn (nI mk) small (nI lm) price cut proc thr)) (m_isBank_y l sa D cI cZ cL  b (by first | assumption | omega)) (va_cwS 1 C.2.2.2.2.1 gX5_pay_X5_isBank rfl rfl rfl (by decide +kernel) ⟨Nat.le_of_ble_eq_true rfl, Nat.le_of_ble_eq_true rfl⟩) (fun _ => zSub.none) zIn.none rfl (Nat.le_of_ble_eq_true rfl) ⟨Nat.le_of_ble_eq_true rfl, Nat.le_of_ble_eq_true rfl⟩ dX5_pay_2 (fun r_1 _ h_2 => ?_)
  obtain rfl : r_1 = 1 := h_2
  refine z_if_eq C (tgt := 19) dX5_pay_5 (by decide) (fun h => absurd h (by decide)) (fun _ => ?_)
  refine z_iload_n C dX5_pay_8 rfl 2 rfl ?_
  refine z_callSi C (T := Unit) (As := [.int (nI o)]) (rest := [.ref (md 0)]) (ws' := fun _ => (wM md cI cZ acc flo pap clo net bnd frm too amt pri wai fst ldr bor lnt rat plg opn (nI mk) small (nI lm) price cut proc thr)) (m_isBank_y l sa D cI cZ cL  o (by first | assumption | omega)) (va_cwS 1 C.2.2.2.2.1 gX5_pay_X5_isBank rfl rfl rfl (by decide +kernel) ⟨Nat.le_of_ble_eq_true rfl, Nat.le_of_ble_eq_true rfl⟩) (fun _ => zSub.none) zIn.none rfl (Nat.le_of_ble_eq_true rfl) ⟨Nat.le_of_ble_eq_true rfl, Nat.le_of_ble_eq_true rfl⟩ dX5_pay_9 (fun r_3 _ h_4 => ?_)
  obtain rfl : r_3 = 1 := h_4
  refine z_if_eq C (tgt := 19) dX5_pay_12 (by decide) (fun h => absurd h (by decide)) (fun _ => ?_)
  refine z_iconst C (v := 1) dX5_pay_15 (by decide) ?_
  refine z_goto C (tgt := 20) dX5_pay_16 (by decide) ?_
  refine z_callVi C (T := Unit) (As := [.int 1]) (rest := []) (ws' := fun _ => (wM md cI cZ acc flo pap clo net bnd frm too amt pri wai fst ldr bor lnt rat plg opn (nI mk) small (nI lm) price cut proc 0)) (m_asks_y l sa D cI cZ cL md acc flo pap clo net bnd frm too amt pri wai fst ldr bor lnt rat plg opn small price cut proc thr mk lm  ) (cwV 1 C.2.2.2.2.1 gX5_pay_X5_asks rfl rfl rfl (by decide +kernel) ⟨Nat.le_of_ble_eq_true rfl, Nat.le_of_ble_eq_true rfl⟩) 0 rfl rfl rfl (fun _ => zSub.full) zIn.full rfl (Nat.le_of_ble_eq_true rfl) ⟨Nat.le_of_ble_eq_true rfl, Nat.le_of_ble_eq_true rfl⟩ dX5_pay_20 (fun r_5 _ h_6 => ?_)
  obtain rfl : r_5 = 1 := h_6
  refine z_if_ne C (tgt := 28) dX5_pay_23 (by decide) (fun _ => ?_) (fun h => absurd h (by decide))
  refine z_iload_n C dX5_pay_28 rfl 1 rfl ?_
  refine z_iload_n C dX5_pay_29 rfl 2 rfl ?_
  refine z_icmp_eq C (tgt := 53) dX5_pay_30 (by decide) (fun c30_7 => ?_) (fun c30_7 => ?_)
  · skip
    have n_8 : b = o := (nI_eq (a := b) (b := o) (by omega) (by omega)).mp c30_7
    exfalso
    omega
  · skip
    have n_9 : ¬ b = o := fun q => c30_7 ((nI_eq (a := b) (b := o) (by omega) (by omega)).mpr q)
    refine z_iload_n C dX5_pay_33 rfl 3 rfl ?_
    refine z_iconst C (v := 1) dX5_pay_34 (by decide) ?_
    refine z_ldc C m_X5_pay_k100 dX5_pay_35 ?_
    refine z_callSi C (T := Unit) (As := [.int x, .int 1, .int 100000]) (rest := []) (ws' := fun _ => (wM md cI cZ acc flo pap clo net bnd frm too amt pri wai fst ldr bor lnt rat plg opn (nI mk) small (nI lm) price cut proc 0)) (m_in_y l sa D cI cZ cL  x 1 100000 (by first | assumption | omega) (by first | assumption | omega)) (va_cwS 3 C.2.2.2.2.1 gX5_pay_X5_in rfl rfl rfl (by decide +kernel) ⟨Nat.le_of_ble_eq_true rfl, Nat.le_of_ble_eq_true rfl⟩) (fun _ => zSub.none) zIn.none rfl (Nat.le_of_ble_eq_true rfl) ⟨Nat.le_of_ble_eq_true rfl, Nat.le_of_ble_eq_true rfl⟩ dX5_pay_37 (fun r_10 _ h_11 => ?_)
    obtain rfl : r_10 = 1 := h_11
    refine z_if_eq C (tgt := 53) dX5_pay_40 (by decide) (fun h => absurd h (by decide)) (fun _ => ?_)
    refine z_iload C dX5_pay_43 4 rfl ?_
    refine z_iconst C (v := 0) dX5_pay_45 (by decide) ?_
    refine z_iconst C (v := 2) dX5_pay_46 (by decide) ?_
    refine z_callSi C (T := Unit) (As := [.int (nI r), .int 0, .int 2]) (rest := []) (ws' := fun _ => (wM md cI cZ acc flo pap clo net bnd frm too amt pri wai fst ldr bor lnt rat plg opn (nI mk) small (nI lm) price cut proc 0)) (m_in_y l sa D cI cZ cL  (nI r) 0 2 (by exact nI_pos (by omega)) (by exact nI_nlt (a := 2) (b := r) (by omega) (by decide))) (va_cwS 3 C.2.2.2.2.1 gX5_pay_X5_in rfl rfl rfl (by decide +kernel) ⟨Nat.le_of_ble_eq_true rfl, Nat.le_of_ble_eq_true rfl⟩) (fun _ => zSub.none) zIn.none rfl (Nat.le_of_ble_eq_true rfl) ⟨Nat.le_of_ble_eq_true rfl, Nat.le_of_ble_eq_true rfl⟩ dX5_pay_47 (fun r_12 _ h_13 => ?_)
    obtain rfl : r_12 = 1 := h_13
    refine z_if_ne C (tgt := 59) dX5_pay_50 (by decide) (fun _ => ?_) (fun h => absurd h (by decide))
    refine z_aload_n C dX5_pay_59 rfl 0 rfl ?_
    refine z_get C 0 rfl i_X5_pay_X5 rfl 3 (by decide) m_X5_pay_f19 rfl rfl dX5_pay_60 ?_
    refine z_iload_n C dX5_pay_63 rfl 1 rfl ?_
    refine z_zald C 4 1 rfl rfl b (nI_clamp (by omega)) (vp_in_nI (by omega) (by omega)) (clo b) rfl dX5_pay_64 ?_
    refine z_if_ne C (tgt := 86) dX5_pay_65 (by decide) (fun c65_14 => ?_) (fun c65_14 => ?_)
    · skip
      refine z_aload_n C dX5_pay_86 rfl 0 rfl ?_
      refine z_iconst C (v := 3) dX5_pay_87 (by decide) ?_
      refine z_callVi C (T := Unit) (As := [.int 3]) (rest := []) (ws' := fun _ => (wM md cI cZ acc flo pap clo net bnd frm too amt pri wai fst ldr bor lnt rat plg opn (nI mk) small (nI lm) price cut proc 3)) (m_fails l sa D cI cZ cL md acc flo pap clo net bnd frm too amt pri wai fst ldr bor lnt rat plg opn small price cut proc 0 mk lm 3 ) (cwV 1 C.2.2.2.2.1 gX5_pay_X5_fails rfl rfl rfl (by decide +kernel) ⟨Nat.le_of_ble_eq_true rfl, Nat.le_of_ble_eq_true rfl⟩) 0 rfl rfl rfl (fun _ => zSub.full) zIn.full rfl (Nat.le_of_ble_eq_true rfl) ⟨Nat.le_of_ble_eq_true rfl, Nat.le_of_ble_eq_true rfl⟩ dX5_pay_88 (fun r_15 _ h_16 => ?_)
      obtain rfl : r_15 = 0 := h_16
      exact z_iret C () rfl rfl (by decide) (by decide) dX5_pay_91
    · skip
      refine z_aload_n C dX5_pay_68 rfl 0 rfl ?_
      refine z_get C 0 rfl i_X5_pay_X5 rfl 3 (by decide) m_X5_pay_f19 rfl rfl dX5_pay_69 ?_
      refine z_iload_n C dX5_pay_72 rfl 2 rfl ?_
      refine z_zald C 4 1 rfl rfl o (nI_clamp (by omega)) (vp_in_nI (by omega) (by omega)) (clo o) rfl dX5_pay_73 ?_
      refine z_if_ne C (tgt := 86) dX5_pay_74 (by decide) (fun c74_17 => ?_) (fun c74_17 => ?_)
      · skip
        refine z_aload_n C dX5_pay_86 rfl 0 rfl ?_
        refine z_iconst C (v := 3) dX5_pay_87 (by decide) ?_
        refine z_callVi C (T := Unit) (As := [.int 3]) (rest := []) (ws' := fun _ => (wM md cI cZ acc flo pap clo net bnd frm too amt pri wai fst ldr bor lnt rat plg opn (nI mk) small (nI lm) price cut proc 3)) (m_fails l sa D cI cZ cL md acc flo pap clo net bnd frm too amt pri wai fst ldr bor lnt rat plg opn small price cut proc 0 mk lm 3 ) (cwV 1 C.2.2.2.2.1 gX5_pay_X5_fails rfl rfl rfl (by decide +kernel) ⟨Nat.le_of_ble_eq_true rfl, Nat.le_of_ble_eq_true rfl⟩) 0 rfl rfl rfl (fun _ => zSub.full) zIn.full rfl (Nat.le_of_ble_eq_true rfl) ⟨Nat.le_of_ble_eq_true rfl, Nat.le_of_ble_eq_true rfl⟩ dX5_pay_88 (fun r_18 _ h_19 => ?_)
        obtain rfl : r_18 = 0 := h_19
        exact z_iret C () rfl rfl (by decide) (by decide) dX5_pay_91
      · skip
        refine z_aload_n C dX5_pay_77 rfl 0 rfl ?_
        refine z_get C 0 rfl i_X5_pay_X5 rfl 6 (by decide) m_X5_pay_f79 rfl rfl dX5_pay_78 ?_
        refine z_bipush C (v := 60) dX5_pay_81 (by decide) ?_
        refine z_icmp_ne C (tgt := 92) dX5_pay_83 (by decide) (fun c83_20 => ?_) (fun c83_20 => ?_)
        · skip
          have n_21 : ¬ mk = 60 := fun q => c83_20 ((nI_eq (a := mk) (b := 60) (by omega) (by omega)).mpr q)
          exfalso
          exact hbad ⟨by assumption, by assumption, by omega⟩
        · skip
          have n_22 : mk = 60 := (nI_eq (a := mk) (b := 60) (by omega) (by omega)).mp c83_20
          refine z_aload_n C dX5_pay_86 rfl 0 rfl ?_
          refine z_iconst C (v := 3) dX5_pay_87 (by decide) ?_
          refine z_callVi C (T := Unit) (As := [.int 3]) (rest := []) (ws' := fun _ => (wM md cI cZ acc flo pap clo net bnd frm too amt pri wai fst ldr bor lnt rat plg opn (nI mk) small (nI lm) price cut proc 3)) (m_fails l sa D cI cZ cL md acc flo pap clo net bnd frm too amt pri wai fst ldr bor lnt rat plg opn small price cut proc 0 mk lm 3 ) (cwV 1 C.2.2.2.2.1 gX5_pay_X5_fails rfl rfl rfl (by decide +kernel) ⟨Nat.le_of_ble_eq_true rfl, Nat.le_of_ble_eq_true rfl⟩) 0 rfl rfl rfl (fun _ => zSub.full) zIn.full rfl (Nat.le_of_ble_eq_true rfl) ⟨Nat.le_of_ble_eq_true rfl, Nat.le_of_ble_eq_true rfl⟩ dX5_pay_88 (fun r_23 _ h_24 => ?_)
          obtain rfl : r_23 = 0 := h_24
          exact z_iret C () rfl rfl (by decide) (by decide) dX5_pay_91
set_option maxHeartbeats 4000000 in
set_option maxRecDepth 100000 in
theorem m_waiting (l : Launch) (sa : Nat → Nat) (D : va_G) (cI cZ cL : ClassId) (md : Nat → Nat) (acc flo pap clo net bnd frm too amt pri wai fst ldr bor lnt rat plg opn : Nat → Int32) (small price cut proc thr : Int32) (mk lm : Nat)  (hmk : mk ≤ 60) : zMi (T := Unit) sa D vwCl (zty cI cZ cL) l yX5_waiting wsX5_waiting ({ frames := 0, cells := 0, slots := 0, locals := 0 } : Room) [.ref (md 0)] (wM md cI cZ acc flo pap clo net bnd frm too amt pri wai fst ldr bor lnt rat plg opn (nI mk) small (nI lm) price cut proc thr) (fun r9 _ => r9 = (nI (cntW wai mk))) (fun _ => (wM md cI cZ acc flo pap clo net bnd frm too amt pri wai fst ldr bor lnt rat plg opn (nI mk) small (nI lm) price cut proc thr)) 0 0 := by
  refine zMi.of (ret := (some .int)) (cc := cX5_waiting) (nL := 3) (own := RX5) (by decide +kernel) rfl [(0, .ref (md 0))] rfl (Nat.le_of_ble_eq_true rfl) rfl ?_
  intro A p e s m args below meth c C hmn
  refine z_iconst C (v := 0) dX5_waiting_0 (by decide) ?_
  refine z_istore_n C dX5_waiting_1 rfl (by decide) [(0, .ref (md 0)), (1, .int 0)] [1, 0] rfl ?_
  refine z_iconst C (v := 0) dX5_waiting_2 (by decide) ?_
  refine z_istore_n C dX5_waiting_3 rfl (by decide) [(0, .ref (md 0)), (1, .int 0), (2, .int 0)] [1, 2, 0] rfl ?_
  have L4_k_1 : ∀ (n : Nat) (i : Nat), mk - i < n → (i ≤ mk) → zW p l e ({ frames := 0, cells := 0, slots := 0, locals := 0 } : Room) s m args below meth c (MQ below (zQi (T := Unit) D vwCl (zty cI cZ cL) A (fun r9 _ => r9 = (nI (cntW wai mk))) (fun _ => (wM md cI cZ acc flo pap clo net bnd frm too amt pri wai fst ldr bor lnt rat plg opn (nI mk) small (nI lm) price cut proc thr))) args s 0 0 A) D vwCl A 3 0 0 (wM md cI cZ acc flo pap clo net bnd frm too amt pri wai fst ldr bor lnt rat plg opn (nI mk) small (nI lm) price cut proc thr) [(0, .ref (md 0)), (1, .int (nI (cntW wai i))), (2, .int (nI i))] 4 [] := by
    intro n
    induction n with
    | zero => intros; omega
    | succ n ih =>
      intro i hm hi
      refine z_iload_n C dX5_waiting_4 rfl 2 rfl ?_
      refine z_aload_n C dX5_waiting_5 rfl 0 rfl ?_
      refine z_get C 0 rfl i_X5_waiting_X5 rfl 6 (by decide) m_X5_waiting_f79 rfl rfl dX5_waiting_6 ?_
      refine z_icmp_ge C (tgt := 35) dX5_waiting_9 (by decide) (fun c9_2 => ?_) (fun c9_2 => ?_)
      · skip
        have n_3 : mk ≤ i := (nI_leI (a := mk) (b := i) (by omega) (by omega)).mp c9_2
        refine z_iload_n C dX5_waiting_35 rfl 1 rfl ?_
        exact z_iret C () (by rw [show i = mk by omega]) rfl (by decide) (by decide) dX5_waiting_36
      · skip
        have n_4 : ¬ mk ≤ i := fun q => c9_2 ((nI_leI (a := mk) (b := i) (by omega) (by omega)).mpr q)
        refine z_iload_n C dX5_waiting_12 rfl 1 rfl ?_
        refine z_aload_n C dX5_waiting_13 rfl 0 rfl ?_
        refine z_get C 0 rfl i_X5_waiting_X5 rfl 11 (by decide) m_X5_waiting_f41 rfl rfl dX5_waiting_14 ?_
        refine z_iload_n C dX5_waiting_17 rfl 2 rfl ?_
        refine z_zald C 11 1 rfl rfl i (nI_clamp (by omega)) (vp_in_nI (by omega) (by omega)) (wai i) rfl dX5_waiting_18 ?_
        refine z_if_eq C (tgt := 26) dX5_waiting_19 (by decide) (fun c19_5 => ?_) (fun c19_5 => ?_)
        · skip
          refine z_iconst C (v := 0) dX5_waiting_26 (by decide) ?_
          refine z_iadd C (v := (nI (cntW wai i))) dX5_waiting_27 (z_add0 _) ?_
          refine z_istore_n C dX5_waiting_28 rfl (by decide) [(0, .ref (md 0)), (1, .int (nI (cntW wai i))), (2, .int (nI i))] [1, 0, 2] rfl ?_
          refine z_iinc C (v := (nI (i + 1))) dX5_waiting_29 2 rfl (nI_add i 1) (by decide) [(0, .ref (md 0)), (1, .int (nI (cntW wai i))), (2, .int (nI (i + 1)))] [1, 2, 0] rfl ?_
          refine z_goto C (tgt := 4) dX5_waiting_32 (by decide) ?_
          refine z_lveq [(0, .ref (md 0)), (1, .int (nI (cntW wai (i + 1)))), (2, .int (nI (i + 1)))] (by simp [cntW, c9_2, n_4, c19_5]) ?_
          exact ih (i + 1) (by omega) (by first | assumption | omega)
        · skip
          refine z_iconst C (v := 1) dX5_waiting_22 (by decide) ?_
          refine z_goto C (tgt := 27) dX5_waiting_23 (by decide) ?_
          refine z_iadd C (v := (nI ((cntW wai i) + 1))) dX5_waiting_27 (nI_add (cntW wai i) 1) ?_
          refine z_istore_n C dX5_waiting_28 rfl (by decide) [(0, .ref (md 0)), (1, .int (nI ((cntW wai i) + 1))), (2, .int (nI i))] [1, 0, 2] rfl ?_
          refine z_iinc C (v := (nI (i + 1))) dX5_waiting_29 2 rfl (nI_add i 1) (by decide) [(0, .ref (md 0)), (1, .int (nI ((cntW wai i) + 1))), (2, .int (nI (i + 1)))] [1, 2, 0] rfl ?_
          refine z_goto C (tgt := 4) dX5_waiting_32 (by decide) ?_
          refine z_lveq [(0, .ref (md 0)), (1, .int (nI (cntW wai (i + 1)))), (2, .int (nI (i + 1)))] (by simp [cntW, c9_2, n_4, c19_5]) ?_
          exact ih (i + 1) (by omega) (by first | assumption | omega)
  refine z_lveq [(0, .ref (md 0)), (1, .int (nI (cntW wai 0))), (2, .int (nI 0))] (by rfl) ?_
  exact L4_k_1 (mk - 0 + 1) 0 (Nat.lt_succ_self _) (by first | assumption | omega)
set_option maxHeartbeats 4000000 in
set_option maxRecDepth 100000 in
theorem m_drop_ok (l : Launch) (sa : Nat → Nat) (D : va_G) (cI cZ cL : ClassId) (md : Nat → Nat) (acc flo pap clo net bnd frm too amt pri wai fst ldr bor lnt rat plg opn : Nat → Int32) (small price cut proc thr : Int32) (mk lm : Nat) (p9 : Nat) (hp : p9 < mk) (hmk : mk ≤ 60) (hw : ¬ wai p9 = 0) : zMi (T := Unit) sa D vwCl (zty cI cZ cL) l yX5_drop wsX5_drop ({ frames := 1, cells := 0, slots := 0, locals := 22 } : Room) [.ref (md 0), .int (nI p9)] (wM md cI cZ acc flo pap clo net bnd frm too amt pri wai fst ldr bor lnt rat plg opn (nI mk) small (nI lm) price cut proc thr) (fun r9 _ => r9 = (nI (cntW (upd wai p9 0) mk))) (fun _ => (wM md cI cZ acc flo pap clo net bnd frm too amt pri (upd wai p9 0) fst ldr bor lnt rat plg opn (nI mk) small (nI lm) price cut proc 0)) 0 0 := by
  refine zMi.of (ret := (some .int)) (cc := cX5_drop) (nL := 2) (own := RX5) (by decide +kernel) rfl [(0, .ref (md 0)), (1, .int (nI p9))] rfl (Nat.le_of_ble_eq_true rfl) rfl ?_
  intro A p e s m args below meth c C hmn
  refine z_aload_n C dX5_drop_0 rfl 0 rfl ?_
  refine z_aload_n C dX5_drop_1 rfl 0 rfl ?_
  refine z_iload_n C dX5_drop_2 rfl 1 rfl ?_
  refine z_callVi C (T := Unit) (As := [.int (nI p9)]) (rest := [.ref (md 0)]) (ws' := fun _ => (wM md cI cZ acc flo pap clo net bnd frm too amt pri wai fst ldr bor lnt rat plg opn (nI mk) small (nI lm) price cut proc thr)) (m_isPayment_y l sa D cI cZ cL md acc flo pap clo net bnd frm too amt pri wai fst ldr bor lnt rat plg opn small price cut proc thr mk lm p9 (by first | assumption | omega) (by first | assumption | omega)) (cwV 1 C.2.2.2.2.1 gX5_drop_X5_isPayment rfl rfl rfl (by decide +kernel) ⟨Nat.le_of_ble_eq_true rfl, Nat.le_of_ble_eq_true rfl⟩) 0 rfl rfl rfl (fun _ => zSub.full) zIn.full rfl (Nat.le_of_ble_eq_true rfl) ⟨Nat.le_of_ble_eq_true rfl, Nat.le_of_ble_eq_true rfl⟩ dX5_drop_3 (fun r_1 _ h_2 => ?_)
  obtain rfl : r_1 = 1 := h_2
  refine z_callVi C (T := Unit) (As := [.int 1]) (rest := []) (ws' := fun _ => (wM md cI cZ acc flo pap clo net bnd frm too amt pri wai fst ldr bor lnt rat plg opn (nI mk) small (nI lm) price cut proc 0)) (m_asks_y l sa D cI cZ cL md acc flo pap clo net bnd frm too amt pri wai fst ldr bor lnt rat plg opn small price cut proc thr mk lm  ) (cwV 1 C.2.2.2.2.1 gX5_drop_X5_asks rfl rfl rfl (by decide +kernel) ⟨Nat.le_of_ble_eq_true rfl, Nat.le_of_ble_eq_true rfl⟩) 0 rfl rfl rfl (fun _ => zSub.full) zIn.full rfl (Nat.le_of_ble_eq_true rfl) ⟨Nat.le_of_ble_eq_true rfl, Nat.le_of_ble_eq_true rfl⟩ dX5_drop_6 (fun r_3 _ h_4 => ?_)
  obtain rfl : r_3 = 1 := h_4
  refine z_if_ne C (tgt := 14) dX5_drop_9 (by decide) (fun _ => ?_) (fun h => absurd h (by decide))
  refine z_aload_n C dX5_drop_14 rfl 0 rfl ?_
  refine z_get C 0 rfl i_X5_drop_X5 rfl 11 (by decide) m_X5_drop_f41 rfl rfl dX5_drop_15 ?_
  refine z_iload_n C dX5_drop_18 rfl 1 rfl ?_
  refine z_zald C 11 1 rfl rfl p9 (nI_clamp (by omega)) (vp_in_nI (by omega) (by omega)) (wai p9) rfl dX5_drop_19 ?_
  refine z_if_ne C (tgt := 29) dX5_drop_20 (by decide) (fun c20_5 => ?_) (fun c20_5 => ?_)
  · skip
    refine z_aload_n C dX5_drop_29 rfl 0 rfl ?_
    refine z_get C 0 rfl i_X5_drop_X5 rfl 11 (by decide) m_X5_drop_f41 rfl rfl dX5_drop_30 ?_
    refine z_iload_n C dX5_drop_33 rfl 1 rfl ?_
    refine z_iconst C (v := 0) dX5_drop_34 (by decide) ?_
    refine z_zast C 11 1 rfl rfl p9 (nI_clamp (by omega)) (vp_in_nI (by omega) (by omega)) 0 (by decide) dX5_drop_35 (wM md cI cZ acc flo pap clo net bnd frm too amt pri (upd wai p9 0) fst ldr bor lnt rat plg opn (nI mk) small (nI lm) price cut proc 0) rfl ?_
    refine z_aload_n C dX5_drop_36 rfl 0 rfl ?_
    refine z_callVi C (T := Unit) (As := []) (rest := []) (ws' := fun _ => (wM md cI cZ acc flo pap clo net bnd frm too amt pri (upd wai p9 0) fst ldr bor lnt rat plg opn (nI mk) small (nI lm) price cut proc 0)) (m_waiting l sa D cI cZ cL md acc flo pap clo net bnd frm too amt pri (upd wai p9 0) fst ldr bor lnt rat plg opn small price cut proc 0 mk lm  (by first | assumption | omega)) (cwV 0 C.2.2.2.2.1 gX5_drop_X5_waiting rfl rfl rfl (by decide +kernel) ⟨Nat.le_of_ble_eq_true rfl, Nat.le_of_ble_eq_true rfl⟩) 0 rfl rfl rfl (fun _ => zSub.full) zIn.full rfl (Nat.le_of_ble_eq_true rfl) ⟨Nat.le_of_ble_eq_true rfl, Nat.le_of_ble_eq_true rfl⟩ dX5_drop_37 (fun r_6 _ h_7 => ?_)
    obtain rfl : r_6 = (nI (cntW (upd wai p9 0) mk)) := h_7
    exact z_iret C () rfl rfl (by decide) (by decide) dX5_drop_40
  · skip
    refine z_aload_n C dX5_drop_23 rfl 0 rfl ?_
    refine z_iconst C (v := 2) dX5_drop_24 (by decide) ?_
    exfalso
    first | omega | contradiction | exact absurd (by assumption) (Int32.not_le.mpr (by assumption)) | exact absurd (by assumption) (Int32.not_lt.mpr (by assumption))
set_option maxHeartbeats 4000000 in
set_option maxRecDepth 100000 in
theorem m_drop_b1 (l : Launch) (sa : Nat → Nat) (D : va_G) (cI cZ cL : ClassId) (md : Nat → Nat) (acc flo pap clo net bnd frm too amt pri wai fst ldr bor lnt rat plg opn : Nat → Int32) (small price cut proc thr : Int32) (mk lm : Nat) (p9 : Int32) (hp : p9 < 0 ∨ nI mk ≤ p9) : zMi (T := Unit) sa D vwCl (zty cI cZ cL) l yX5_drop wsX5_drop ({ frames := 1, cells := 0, slots := 0, locals := 21 } : Room) [.ref (md 0), .int p9] (wM md cI cZ acc flo pap clo net bnd frm too amt pri wai fst ldr bor lnt rat plg opn (nI mk) small (nI lm) price cut proc thr) (fun r9 _ => r9 = 0) (fun _ => (wM md cI cZ acc flo pap clo net bnd frm too amt pri wai fst ldr bor lnt rat plg opn (nI mk) small (nI lm) price cut proc 1)) 0 0 := by
  refine zMi.of (ret := (some .int)) (cc := cX5_drop) (nL := 2) (own := RX5) (by decide +kernel) rfl [(0, .ref (md 0)), (1, .int p9)] rfl (Nat.le_of_ble_eq_true rfl) rfl ?_
  intro A p e s m args below meth c C hmn
  refine z_aload_n C dX5_drop_0 rfl 0 rfl ?_
  refine z_aload_n C dX5_drop_1 rfl 0 rfl ?_
  refine z_iload_n C dX5_drop_2 rfl 1 rfl ?_
  refine z_callVi C (T := Unit) (As := [.int p9]) (rest := [.ref (md 0)]) (ws' := fun _ => (wM md cI cZ acc flo pap clo net bnd frm too amt pri wai fst ldr bor lnt rat plg opn (nI mk) small (nI lm) price cut proc thr)) (m_isPayment_n l sa D cI cZ cL md acc flo pap clo net bnd frm too amt pri wai fst ldr bor lnt rat plg opn small price cut proc thr mk lm p9 (by first | assumption | omega)) (cwV 1 C.2.2.2.2.1 gX5_drop_X5_isPayment rfl rfl rfl (by decide +kernel) ⟨Nat.le_of_ble_eq_true rfl, Nat.le_of_ble_eq_true rfl⟩) 0 rfl rfl rfl (fun _ => zSub.full) zIn.full rfl (Nat.le_of_ble_eq_true rfl) ⟨Nat.le_of_ble_eq_true rfl, Nat.le_of_ble_eq_true rfl⟩ dX5_drop_3 (fun r_1 _ h_2 => ?_)
  obtain rfl : r_1 = 0 := h_2
  refine z_callVi C (T := Unit) (As := [.int 0]) (rest := []) (ws' := fun _ => (wM md cI cZ acc flo pap clo net bnd frm too amt pri wai fst ldr bor lnt rat plg opn (nI mk) small (nI lm) price cut proc 1)) (m_asks_n l sa D cI cZ cL md acc flo pap clo net bnd frm too amt pri wai fst ldr bor lnt rat plg opn small price cut proc thr mk lm  ) (cwV 1 C.2.2.2.2.1 gX5_drop_X5_asks rfl rfl rfl (by decide +kernel) ⟨Nat.le_of_ble_eq_true rfl, Nat.le_of_ble_eq_true rfl⟩) 0 rfl rfl rfl (fun _ => zSub.full) zIn.full rfl (Nat.le_of_ble_eq_true rfl) ⟨Nat.le_of_ble_eq_true rfl, Nat.le_of_ble_eq_true rfl⟩ dX5_drop_6 (fun r_3 _ h_4 => ?_)
  obtain rfl : r_3 = 0 := h_4
  refine z_if_ne C (tgt := 14) dX5_drop_9 (by decide) (fun h => absurd h (by decide)) (fun _ => ?_)
  refine z_iconst C (v := 0) dX5_drop_12 (by decide) ?_
  exact z_iret C () rfl rfl (by decide) (by decide) dX5_drop_13
set_option maxHeartbeats 4000000 in
set_option maxRecDepth 100000 in
theorem m_drop_b2 (l : Launch) (sa : Nat → Nat) (D : va_G) (cI cZ cL : ClassId) (md : Nat → Nat) (acc flo pap clo net bnd frm too amt pri wai fst ldr bor lnt rat plg opn : Nat → Int32) (small price cut proc thr : Int32) (mk lm : Nat) (p9 : Nat) (hp : p9 < mk) (hmk : mk ≤ 60) (hw : wai p9 = 0) : zMi (T := Unit) sa D vwCl (zty cI cZ cL) l yX5_drop wsX5_drop ({ frames := 1, cells := 0, slots := 0, locals := 21 } : Room) [.ref (md 0), .int (nI p9)] (wM md cI cZ acc flo pap clo net bnd frm too amt pri wai fst ldr bor lnt rat plg opn (nI mk) small (nI lm) price cut proc thr) (fun r9 _ => r9 = 0) (fun _ => (wM md cI cZ acc flo pap clo net bnd frm too amt pri wai fst ldr bor lnt rat plg opn (nI mk) small (nI lm) price cut proc 2)) 0 0 := by
  refine zMi.of (ret := (some .int)) (cc := cX5_drop) (nL := 2) (own := RX5) (by decide +kernel) rfl [(0, .ref (md 0)), (1, .int (nI p9))] rfl (Nat.le_of_ble_eq_true rfl) rfl ?_
  intro A p e s m args below meth c C hmn
  refine z_aload_n C dX5_drop_0 rfl 0 rfl ?_
  refine z_aload_n C dX5_drop_1 rfl 0 rfl ?_
  refine z_iload_n C dX5_drop_2 rfl 1 rfl ?_
  refine z_callVi C (T := Unit) (As := [.int (nI p9)]) (rest := [.ref (md 0)]) (ws' := fun _ => (wM md cI cZ acc flo pap clo net bnd frm too amt pri wai fst ldr bor lnt rat plg opn (nI mk) small (nI lm) price cut proc thr)) (m_isPayment_y l sa D cI cZ cL md acc flo pap clo net bnd frm too amt pri wai fst ldr bor lnt rat plg opn small price cut proc thr mk lm p9 (by first | assumption | omega) (by first | assumption | omega)) (cwV 1 C.2.2.2.2.1 gX5_drop_X5_isPayment rfl rfl rfl (by decide +kernel) ⟨Nat.le_of_ble_eq_true rfl, Nat.le_of_ble_eq_true rfl⟩) 0 rfl rfl rfl (fun _ => zSub.full) zIn.full rfl (Nat.le_of_ble_eq_true rfl) ⟨Nat.le_of_ble_eq_true rfl, Nat.le_of_ble_eq_true rfl⟩ dX5_drop_3 (fun r_1 _ h_2 => ?_)
  obtain rfl : r_1 = 1 := h_2
  refine z_callVi C (T := Unit) (As := [.int 1]) (rest := []) (ws' := fun _ => (wM md cI cZ acc flo pap clo net bnd frm too amt pri wai fst ldr bor lnt rat plg opn (nI mk) small (nI lm) price cut proc 0)) (m_asks_y l sa D cI cZ cL md acc flo pap clo net bnd frm too amt pri wai fst ldr bor lnt rat plg opn small price cut proc thr mk lm  ) (cwV 1 C.2.2.2.2.1 gX5_drop_X5_asks rfl rfl rfl (by decide +kernel) ⟨Nat.le_of_ble_eq_true rfl, Nat.le_of_ble_eq_true rfl⟩) 0 rfl rfl rfl (fun _ => zSub.full) zIn.full rfl (Nat.le_of_ble_eq_true rfl) ⟨Nat.le_of_ble_eq_true rfl, Nat.le_of_ble_eq_true rfl⟩ dX5_drop_6 (fun r_3 _ h_4 => ?_)
  obtain rfl : r_3 = 1 := h_4
  refine z_if_ne C (tgt := 14) dX5_drop_9 (by decide) (fun _ => ?_) (fun h => absurd h (by decide))
  refine z_aload_n C dX5_drop_14 rfl 0 rfl ?_
  refine z_get C 0 rfl i_X5_drop_X5 rfl 11 (by decide) m_X5_drop_f41 rfl rfl dX5_drop_15 ?_
  refine z_iload_n C dX5_drop_18 rfl 1 rfl ?_
  refine z_zald C 11 1 rfl rfl p9 (nI_clamp (by omega)) (vp_in_nI (by omega) (by omega)) (wai p9) rfl dX5_drop_19 ?_
  refine z_if_ne C (tgt := 29) dX5_drop_20 (by decide) (fun c20_5 => ?_) (fun c20_5 => ?_)
  · skip
    exfalso
    contradiction
  · skip
    refine z_aload_n C dX5_drop_23 rfl 0 rfl ?_
    refine z_iconst C (v := 2) dX5_drop_24 (by decide) ?_
    refine z_callVi C (T := Unit) (As := [.int 2]) (rest := []) (ws' := fun _ => (wM md cI cZ acc flo pap clo net bnd frm too amt pri wai fst ldr bor lnt rat plg opn (nI mk) small (nI lm) price cut proc 2)) (m_fails l sa D cI cZ cL md acc flo pap clo net bnd frm too amt pri wai fst ldr bor lnt rat plg opn small price cut proc 0 mk lm 2 ) (cwV 1 C.2.2.2.2.1 gX5_drop_X5_fails rfl rfl rfl (by decide +kernel) ⟨Nat.le_of_ble_eq_true rfl, Nat.le_of_ble_eq_true rfl⟩) 0 rfl rfl rfl (fun _ => zSub.full) zIn.full rfl (Nat.le_of_ble_eq_true rfl) ⟨Nat.le_of_ble_eq_true rfl, Nat.le_of_ble_eq_true rfl⟩ dX5_drop_25 (fun r_6 _ h_7 => ?_)
    obtain rfl : r_6 = 0 := h_7
    exact z_iret C () rfl rfl (by decide) (by decide) dX5_drop_28
set_option maxHeartbeats 4000000 in
set_option maxRecDepth 100000 in
theorem m_setSmall_ok (l : Launch) (sa : Nat → Nat) (D : va_G) (cI cZ cL : ClassId) (md : Nat → Nat) (acc flo pap clo net bnd frm too amt pri wai fst ldr bor lnt rat plg opn : Nat → Int32) (small price cut proc thr : Int32) (mk lm : Nat) (x : Int32) (h1 : ¬ x < 0) (h2 : ¬ 100000 < x) : zMi (T := Unit) sa D vwCl (zty cI cZ cL) l yX5_setSmall wsX5_setSmall ({ frames := 1, cells := 0, slots := 0, locals := 22 } : Room) [.ref (md 0), .int x] (wM md cI cZ acc flo pap clo net bnd frm too amt pri wai fst ldr bor lnt rat plg opn (nI mk) small (nI lm) price cut proc thr) (fun r9 _ => r9 = small) (fun _ => (wM md cI cZ acc flo pap clo net bnd frm too amt pri wai fst ldr bor lnt rat plg opn (nI mk) x (nI lm) price cut proc 0)) 0 0 := by
  refine zMi.of (ret := (some .int)) (cc := cX5_setSmall) (nL := 3) (own := RX5) (by decide +kernel) rfl [(0, .ref (md 0)), (1, .int x)] rfl (Nat.le_of_ble_eq_true rfl) rfl ?_
  intro A p e s m args below meth c C hmn
  refine z_aload_n C dX5_setSmall_0 rfl 0 rfl ?_
  refine z_iload_n C dX5_setSmall_1 rfl 1 rfl ?_
  refine z_iconst C (v := 0) dX5_setSmall_2 (by decide) ?_
  refine z_ldc C m_X5_setSmall_k100 dX5_setSmall_3 ?_
  refine z_callSi C (T := Unit) (As := [.int x, .int 0, .int 100000]) (rest := [.ref (md 0)]) (ws' := fun _ => (wM md cI cZ acc flo pap clo net bnd frm too amt pri wai fst ldr bor lnt rat plg opn (nI mk) small (nI lm) price cut proc thr)) (m_in_y l sa D cI cZ cL  x 0 100000 (by first | assumption | omega) (by first | assumption | omega)) (va_cwS 3 C.2.2.2.2.1 gX5_setSmall_X5_in rfl rfl rfl (by decide +kernel) ⟨Nat.le_of_ble_eq_true rfl, Nat.le_of_ble_eq_true rfl⟩) (fun _ => zSub.none) zIn.none rfl (Nat.le_of_ble_eq_true rfl) ⟨Nat.le_of_ble_eq_true rfl, Nat.le_of_ble_eq_true rfl⟩ dX5_setSmall_5 (fun r_1 _ h_2 => ?_)
  obtain rfl : r_1 = 1 := h_2
  refine z_callVi C (T := Unit) (As := [.int 1]) (rest := []) (ws' := fun _ => (wM md cI cZ acc flo pap clo net bnd frm too amt pri wai fst ldr bor lnt rat plg opn (nI mk) small (nI lm) price cut proc 0)) (m_asks_y l sa D cI cZ cL md acc flo pap clo net bnd frm too amt pri wai fst ldr bor lnt rat plg opn small price cut proc thr mk lm  ) (cwV 1 C.2.2.2.2.1 gX5_setSmall_X5_asks rfl rfl rfl (by decide +kernel) ⟨Nat.le_of_ble_eq_true rfl, Nat.le_of_ble_eq_true rfl⟩) 0 rfl rfl rfl (fun _ => zSub.full) zIn.full rfl (Nat.le_of_ble_eq_true rfl) ⟨Nat.le_of_ble_eq_true rfl, Nat.le_of_ble_eq_true rfl⟩ dX5_setSmall_8 (fun r_3 _ h_4 => ?_)
  obtain rfl : r_3 = 1 := h_4
  refine z_if_ne C (tgt := 16) dX5_setSmall_11 (by decide) (fun _ => ?_) (fun h => absurd h (by decide))
  refine z_aload_n C dX5_setSmall_16 rfl 0 rfl ?_
  refine z_get C 0 rfl i_X5_setSmall_X5 rfl 12 (by decide) m_X5_setSmall_f44 rfl rfl dX5_setSmall_17 ?_
  refine z_istore_n C dX5_setSmall_20 rfl (by decide) [(0, .ref (md 0)), (1, .int x), (2, .int small)] [1, 2, 0] rfl ?_
  refine z_aload_n C dX5_setSmall_21 rfl 0 rfl ?_
  refine z_iload_n C dX5_setSmall_22 rfl 1 rfl ?_
  refine z_put C 0 rfl i_X5_setSmall_X5 rfl 12 (by decide) m_X5_setSmall_f44 rfl tyX5 tyX5_ok nmX5 rfl (ty := .int) (by decide +kernel) rfl rfl (Nat.le_of_ble_eq_true rfl) dX5_setSmall_23 (wM md cI cZ acc flo pap clo net bnd frm too amt pri wai fst ldr bor lnt rat plg opn (nI mk) x (nI lm) price cut proc 0) rfl ?_
  refine z_iload_n C dX5_setSmall_26 rfl 2 rfl ?_
  exact z_iret C () rfl rfl (by decide) (by decide) dX5_setSmall_27
set_option maxHeartbeats 4000000 in
set_option maxRecDepth 100000 in
theorem m_setSmall_b1 (l : Launch) (sa : Nat → Nat) (D : va_G) (cI cZ cL : ClassId) (md : Nat → Nat) (acc flo pap clo net bnd frm too amt pri wai fst ldr bor lnt rat plg opn : Nat → Int32) (small price cut proc thr : Int32) (mk lm : Nat) (x : Int32) (hbad : x < 0 ∨ 100000 < x) : zMi (T := Unit) sa D vwCl (zty cI cZ cL) l yX5_setSmall wsX5_setSmall ({ frames := 1, cells := 0, slots := 0, locals := 22 } : Room) [.ref (md 0), .int x] (wM md cI cZ acc flo pap clo net bnd frm too amt pri wai fst ldr bor lnt rat plg opn (nI mk) small (nI lm) price cut proc thr) (fun r9 _ => r9 = 0) (fun _ => (wM md cI cZ acc flo pap clo net bnd frm too amt pri wai fst ldr bor lnt rat plg opn (nI mk) small (nI lm) price cut proc 1)) 0 0 := by
  refine zMi.of (ret := (some .int)) (cc := cX5_setSmall) (nL := 3) (own := RX5) (by decide +kernel) rfl [(0, .ref (md 0)), (1, .int x)] rfl (Nat.le_of_ble_eq_true rfl) rfl ?_
  intro A p e s m args below meth c C hmn
  refine z_aload_n C dX5_setSmall_0 rfl 0 rfl ?_
  refine z_iload_n C dX5_setSmall_1 rfl 1 rfl ?_
  refine z_iconst C (v := 0) dX5_setSmall_2 (by decide) ?_
  refine z_ldc C m_X5_setSmall_k100 dX5_setSmall_3 ?_
  refine z_callSi C (T := Unit) (As := [.int x, .int 0, .int 100000]) (rest := [.ref (md 0)]) (ws' := fun _ => (wM md cI cZ acc flo pap clo net bnd frm too amt pri wai fst ldr bor lnt rat plg opn (nI mk) small (nI lm) price cut proc thr)) (m_in_n l sa D cI cZ cL  x 0 100000 (by first | assumption | omega)) (va_cwS 3 C.2.2.2.2.1 gX5_setSmall_X5_in rfl rfl rfl (by decide +kernel) ⟨Nat.le_of_ble_eq_true rfl, Nat.le_of_ble_eq_true rfl⟩) (fun _ => zSub.none) zIn.none rfl (Nat.le_of_ble_eq_true rfl) ⟨Nat.le_of_ble_eq_true rfl, Nat.le_of_ble_eq_true rfl⟩ dX5_setSmall_5 (fun r_1 _ h_2 => ?_)
  obtain rfl : r_1 = 0 := h_2
  refine z_callVi C (T := Unit) (As := [.int 0]) (rest := []) (ws' := fun _ => (wM md cI cZ acc flo pap clo net bnd frm too amt pri wai fst ldr bor lnt rat plg opn (nI mk) small (nI lm) price cut proc 1)) (m_asks_n l sa D cI cZ cL md acc flo pap clo net bnd frm too amt pri wai fst ldr bor lnt rat plg opn small price cut proc thr mk lm  ) (cwV 1 C.2.2.2.2.1 gX5_setSmall_X5_asks rfl rfl rfl (by decide +kernel) ⟨Nat.le_of_ble_eq_true rfl, Nat.le_of_ble_eq_true rfl⟩) 0 rfl rfl rfl (fun _ => zSub.full) zIn.full rfl (Nat.le_of_ble_eq_true rfl) ⟨Nat.le_of_ble_eq_true rfl, Nat.le_of_ble_eq_true rfl⟩ dX5_setSmall_8 (fun r_3 _ h_4 => ?_)
  obtain rfl : r_3 = 0 := h_4
  refine z_if_ne C (tgt := 16) dX5_setSmall_11 (by decide) (fun h => absurd h (by decide)) (fun _ => ?_)
  refine z_iconst C (v := 0) dX5_setSmall_14 (by decide) ?_
  exact z_iret C () rfl rfl (by decide) (by decide) dX5_setSmall_15
set_option maxHeartbeats 4000000 in
set_option maxRecDepth 100000 in
theorem m_sold_ok (l : Launch) (sa : Nat → Nat) (D : va_G) (cI cZ cL : ClassId) (md : Nat → Nat) (acc flo pap clo net bnd frm too amt pri wai fst ldr bor lnt rat plg opn : Nat → Int32) (small price cut proc thr : Int32) (mk lm : Nat)   : zMi (T := Unit) sa D vwCl (zty cI cZ cL) l yX5_sold wsX5_sold ({ frames := 0, cells := 0, slots := 0, locals := 0 } : Room) [.ref (md 0)] (wM md cI cZ acc flo pap clo net bnd frm too amt pri wai fst ldr bor lnt rat plg opn (nI mk) small (nI lm) price cut proc thr) (fun r9 _ => r9 = proc) (fun _ => (wM md cI cZ acc flo pap clo net bnd frm too amt pri wai fst ldr bor lnt rat plg opn (nI mk) small (nI lm) price cut proc 0)) 0 0 := by
  refine zMi.of (ret := (some .int)) (cc := cX5_sold) (nL := 1) (own := RX5) (by decide +kernel) rfl [(0, .ref (md 0))] rfl (Nat.le_of_ble_eq_true rfl) rfl ?_
  intro A p e s m args below meth c C hmn
  refine z_aload_n C dX5_sold_0 rfl 0 rfl ?_
  refine z_iconst C (v := 0) dX5_sold_1 (by decide) ?_
  refine z_put C 0 rfl i_X5_sold_X5 rfl 24 (by decide) m_X5_sold_f76 rfl tyX5 tyX5_ok nmX5 rfl (ty := .int) (by decide +kernel) rfl rfl (Nat.le_of_ble_eq_true rfl) dX5_sold_2 (wM md cI cZ acc flo pap clo net bnd frm too amt pri wai fst ldr bor lnt rat plg opn (nI mk) small (nI lm) price cut proc 0) rfl ?_
  refine z_aload_n C dX5_sold_5 rfl 0 rfl ?_
  refine z_get C 0 rfl i_X5_sold_X5 rfl 23 (by decide) m_X5_sold_f147 rfl rfl dX5_sold_6 ?_
  exact z_iret C () rfl rfl (by decide) (by decide) dX5_sold_9
set_option maxHeartbeats 4000000 in
set_option maxRecDepth 100000 in
theorem m_setPrice_ok (l : Launch) (sa : Nat → Nat) (D : va_G) (cI cZ cL : ClassId) (md : Nat → Nat) (acc flo pap clo net bnd frm too amt pri wai fst ldr bor lnt rat plg opn : Nat → Int32) (small price cut proc thr : Int32) (mk lm : Nat) (p9 : Int32) (c9 : Int32) (h1 : ¬ p9 < 1) (h2 : ¬ 1000 < p9) (h3 : ¬ c9 < 0) (h4 : ¬ 1000 < c9) : zMv (T := Unit) sa D vwCl (zty cI cZ cL) l yX5_setPrice wsX5_setPrice ({ frames := 1, cells := 0, slots := 0, locals := 22 } : Room) [.ref (md 0), .int p9, .int c9] (wM md cI cZ acc flo pap clo net bnd frm too amt pri wai fst ldr bor lnt rat plg opn (nI mk) small (nI lm) price cut proc thr) (fun _ => True) (fun _ => (wM md cI cZ acc flo pap clo net bnd frm too amt pri wai fst ldr bor lnt rat plg opn (nI mk) small (nI lm) p9 c9 proc 0)) 0 0 := by
  refine zMv.of (ret := none) (cc := cX5_setPrice) (nL := 3) (own := RX5) (by decide +kernel) rfl [(0, .ref (md 0)), (1, .int p9), (2, .int c9)] rfl (Nat.le_of_ble_eq_true rfl) rfl ?_
  intro A p e s m args below meth c C hmn
  refine z_aload_n C dX5_setPrice_0 rfl 0 rfl ?_
  refine z_iload_n C dX5_setPrice_1 rfl 1 rfl ?_
  refine z_iconst C (v := 1) dX5_setPrice_2 (by decide) ?_
  refine z_sipush C (v := 1000) dX5_setPrice_3 (by decide) ?_
  refine z_callSi C (T := Unit) (As := [.int p9, .int 1, .int 1000]) (rest := [.ref (md 0)]) (ws' := fun _ => (wM md cI cZ acc flo pap clo net bnd frm too amt pri wai fst ldr bor lnt rat plg opn (nI mk) small (nI lm) price cut proc thr)) (m_in_y l sa D cI cZ cL  p9 1 1000 (by first | assumption | omega) (by first | assumption | omega)) (va_cwS 3 C.2.2.2.2.1 gX5_setPrice_X5_in rfl rfl rfl (by decide +kernel) ⟨Nat.le_of_ble_eq_true rfl, Nat.le_of_ble_eq_true rfl⟩) (fun _ => zSub.none) zIn.none rfl (Nat.le_of_ble_eq_true rfl) ⟨Nat.le_of_ble_eq_true rfl, Nat.le_of_ble_eq_true rfl⟩ dX5_setPrice_6 (fun r_1 _ h_2 => ?_)
  obtain rfl : r_1 = 1 := h_2
  refine z_if_eq C (tgt := 27) dX5_setPrice_9 (by decide) (fun h => absurd h (by decide)) (fun _ => ?_)
  refine z_iload_n C dX5_setPrice_12 rfl 2 rfl ?_
  refine z_iconst C (v := 0) dX5_setPrice_13 (by decide) ?_
  refine z_sipush C (v := 1000) dX5_setPrice_14 (by decide) ?_
  refine z_callSi C (T := Unit) (As := [.int c9, .int 0, .int 1000]) (rest := [.ref (md 0)]) (ws' := fun _ => (wM md cI cZ acc flo pap clo net bnd frm too amt pri wai fst ldr bor lnt rat plg opn (nI mk) small (nI lm) price cut proc thr)) (m_in_y l sa D cI cZ cL  c9 0 1000 (by first | assumption | omega) (by first | assumption | omega)) (va_cwS 3 C.2.2.2.2.1 gX5_setPrice_X5_in rfl rfl rfl (by decide +kernel) ⟨Nat.le_of_ble_eq_true rfl, Nat.le_of_ble_eq_true rfl⟩) (fun _ => zSub.none) zIn.none rfl (Nat.le_of_ble_eq_true rfl) ⟨Nat.le_of_ble_eq_true rfl, Nat.le_of_ble_eq_true rfl⟩ dX5_setPrice_17 (fun r_3 _ h_4 => ?_)
  obtain rfl : r_3 = 1 := h_4
  refine z_if_eq C (tgt := 27) dX5_setPrice_20 (by decide) (fun h => absurd h (by decide)) (fun _ => ?_)
  refine z_iconst C (v := 1) dX5_setPrice_23 (by decide) ?_
  refine z_goto C (tgt := 28) dX5_setPrice_24 (by decide) ?_
  refine z_callVi C (T := Unit) (As := [.int 1]) (rest := []) (ws' := fun _ => (wM md cI cZ acc flo pap clo net bnd frm too amt pri wai fst ldr bor lnt rat plg opn (nI mk) small (nI lm) price cut proc 0)) (m_asks_y l sa D cI cZ cL md acc flo pap clo net bnd frm too amt pri wai fst ldr bor lnt rat plg opn small price cut proc thr mk lm  ) (cwV 1 C.2.2.2.2.1 gX5_setPrice_X5_asks rfl rfl rfl (by decide +kernel) ⟨Nat.le_of_ble_eq_true rfl, Nat.le_of_ble_eq_true rfl⟩) 0 rfl rfl rfl (fun _ => zSub.full) zIn.full rfl (Nat.le_of_ble_eq_true rfl) ⟨Nat.le_of_ble_eq_true rfl, Nat.le_of_ble_eq_true rfl⟩ dX5_setPrice_28 (fun r_5 _ h_6 => ?_)
  obtain rfl : r_5 = 1 := h_6
  refine z_if_eq C (tgt := 44) dX5_setPrice_31 (by decide) (fun h => absurd h (by decide)) (fun _ => ?_)
  refine z_aload_n C dX5_setPrice_34 rfl 0 rfl ?_
  refine z_iload_n C dX5_setPrice_35 rfl 1 rfl ?_
  refine z_put C 0 rfl i_X5_setPrice_X5 rfl 21 (by decide) m_X5_setPrice_f69 rfl tyX5 tyX5_ok nmX5 rfl (ty := .int) (by decide +kernel) rfl rfl (Nat.le_of_ble_eq_true rfl) dX5_setPrice_36 (wM md cI cZ acc flo pap clo net bnd frm too amt pri wai fst ldr bor lnt rat plg opn (nI mk) small (nI lm) p9 cut proc 0) rfl ?_
  refine z_aload_n C dX5_setPrice_39 rfl 0 rfl ?_
  refine z_iload_n C dX5_setPrice_40 rfl 2 rfl ?_
  refine z_put C 0 rfl i_X5_setPrice_X5 rfl 22 (by decide) m_X5_setPrice_f72 rfl tyX5 tyX5_ok nmX5 rfl (ty := .int) (by decide +kernel) rfl rfl (Nat.le_of_ble_eq_true rfl) dX5_setPrice_41 (wM md cI cZ acc flo pap clo net bnd frm too amt pri wai fst ldr bor lnt rat plg opn (nI mk) small (nI lm) p9 c9 proc 0) rfl ?_
  exact z_vret C () (by exact trivial) rfl (by decide) (by decide) dX5_setPrice_44
set_option maxHeartbeats 4000000 in
set_option maxRecDepth 100000 in
theorem m_setPrice_b1 (l : Launch) (sa : Nat → Nat) (D : va_G) (cI cZ cL : ClassId) (md : Nat → Nat) (acc flo pap clo net bnd frm too amt pri wai fst ldr bor lnt rat plg opn : Nat → Int32) (small price cut proc thr : Int32) (mk lm : Nat) (p9 : Int32) (c9 : Int32) (hbad : p9 < 1 ∨ 1000 < p9 ∨ c9 < 0 ∨ 1000 < c9) : zMv (T := Unit) sa D vwCl (zty cI cZ cL) l yX5_setPrice wsX5_setPrice ({ frames := 1, cells := 0, slots := 0, locals := 22 } : Room) [.ref (md 0), .int p9, .int c9] (wM md cI cZ acc flo pap clo net bnd frm too amt pri wai fst ldr bor lnt rat plg opn (nI mk) small (nI lm) price cut proc thr) (fun _ => True) (fun _ => (wM md cI cZ acc flo pap clo net bnd frm too amt pri wai fst ldr bor lnt rat plg opn (nI mk) small (nI lm) price cut proc 1)) 0 0 := by
  refine zMv.of (ret := none) (cc := cX5_setPrice) (nL := 3) (own := RX5) (by decide +kernel) rfl [(0, .ref (md 0)), (1, .int p9), (2, .int c9)] rfl (Nat.le_of_ble_eq_true rfl) rfl ?_
  intro A p e s m args below meth c C hmn
  refine z_aload_n C dX5_setPrice_0 rfl 0 rfl ?_
  refine z_iload_n C dX5_setPrice_1 rfl 1 rfl ?_
  refine z_iconst C (v := 1) dX5_setPrice_2 (by decide) ?_
  refine z_sipush C (v := 1000) dX5_setPrice_3 (by decide) ?_
  refine z_case (¬ p9 < 1 ∧ ¬ 1000 < p9) (fun hp_1 => ?_) (fun hp_1 => ?_)
  · skip
    obtain ⟨_, _⟩ := hp_1
    refine z_callSi C (T := Unit) (As := [.int p9, .int 1, .int 1000]) (rest := [.ref (md 0)]) (ws' := fun _ => (wM md cI cZ acc flo pap clo net bnd frm too amt pri wai fst ldr bor lnt rat plg opn (nI mk) small (nI lm) price cut proc thr)) (m_in_y l sa D cI cZ cL  p9 1 1000 (by first | assumption | omega) (by first | assumption | omega)) (va_cwS 3 C.2.2.2.2.1 gX5_setPrice_X5_in rfl rfl rfl (by decide +kernel) ⟨Nat.le_of_ble_eq_true rfl, Nat.le_of_ble_eq_true rfl⟩) (fun _ => zSub.none) zIn.none rfl (Nat.le_of_ble_eq_true rfl) ⟨Nat.le_of_ble_eq_true rfl, Nat.le_of_ble_eq_true rfl⟩ dX5_setPrice_6 (fun r_2 _ h_3 => ?_)
    obtain rfl : r_2 = 1 := h_3
    refine z_if_eq C (tgt := 27) dX5_setPrice_9 (by decide) (fun h => absurd h (by decide)) (fun _ => ?_)
    refine z_iload_n C dX5_setPrice_12 rfl 2 rfl ?_
    refine z_iconst C (v := 0) dX5_setPrice_13 (by decide) ?_
    refine z_sipush C (v := 1000) dX5_setPrice_14 (by decide) ?_
    refine z_callSi C (T := Unit) (As := [.int c9, .int 0, .int 1000]) (rest := [.ref (md 0)]) (ws' := fun _ => (wM md cI cZ acc flo pap clo net bnd frm too amt pri wai fst ldr bor lnt rat plg opn (nI mk) small (nI lm) price cut proc thr)) (m_in_n l sa D cI cZ cL  c9 0 1000 (by rcases hbad with h | h | h | h <;> first | contradiction | exact Or.inl h | exact Or.inr h)) (va_cwS 3 C.2.2.2.2.1 gX5_setPrice_X5_in rfl rfl rfl (by decide +kernel) ⟨Nat.le_of_ble_eq_true rfl, Nat.le_of_ble_eq_true rfl⟩) (fun _ => zSub.none) zIn.none rfl (Nat.le_of_ble_eq_true rfl) ⟨Nat.le_of_ble_eq_true rfl, Nat.le_of_ble_eq_true rfl⟩ dX5_setPrice_17 (fun r_4 _ h_5 => ?_)
    obtain rfl : r_4 = 0 := h_5
    refine z_if_eq C (tgt := 27) dX5_setPrice_20 (by decide) (fun _ => ?_) (fun h => absurd h (by decide))
    refine z_iconst C (v := 0) dX5_setPrice_27 (by decide) ?_
    refine z_callVi C (T := Unit) (As := [.int 0]) (rest := []) (ws' := fun _ => (wM md cI cZ acc flo pap clo net bnd frm too amt pri wai fst ldr bor lnt rat plg opn (nI mk) small (nI lm) price cut proc 1)) (m_asks_n l sa D cI cZ cL md acc flo pap clo net bnd frm too amt pri wai fst ldr bor lnt rat plg opn small price cut proc thr mk lm  ) (cwV 1 C.2.2.2.2.1 gX5_setPrice_X5_asks rfl rfl rfl (by decide +kernel) ⟨Nat.le_of_ble_eq_true rfl, Nat.le_of_ble_eq_true rfl⟩) 0 rfl rfl rfl (fun _ => zSub.full) zIn.full rfl (Nat.le_of_ble_eq_true rfl) ⟨Nat.le_of_ble_eq_true rfl, Nat.le_of_ble_eq_true rfl⟩ dX5_setPrice_28 (fun r_6 _ h_7 => ?_)
    obtain rfl : r_6 = 0 := h_7
    refine z_if_eq C (tgt := 44) dX5_setPrice_31 (by decide) (fun _ => ?_) (fun h => absurd h (by decide))
    exact z_vret C () (by exact trivial) rfl (by decide) (by decide) dX5_setPrice_44
  · skip
    have := z_rng hp_1
    refine z_callSi C (T := Unit) (As := [.int p9, .int 1, .int 1000]) (rest := [.ref (md 0)]) (ws' := fun _ => (wM md cI cZ acc flo pap clo net bnd frm too amt pri wai fst ldr bor lnt rat plg opn (nI mk) small (nI lm) price cut proc thr)) (m_in_n l sa D cI cZ cL  p9 1 1000 (by first | assumption | omega)) (va_cwS 3 C.2.2.2.2.1 gX5_setPrice_X5_in rfl rfl rfl (by decide +kernel) ⟨Nat.le_of_ble_eq_true rfl, Nat.le_of_ble_eq_true rfl⟩) (fun _ => zSub.none) zIn.none rfl (Nat.le_of_ble_eq_true rfl) ⟨Nat.le_of_ble_eq_true rfl, Nat.le_of_ble_eq_true rfl⟩ dX5_setPrice_6 (fun r_8 _ h_9 => ?_)
    obtain rfl : r_8 = 0 := h_9
    refine z_if_eq C (tgt := 27) dX5_setPrice_9 (by decide) (fun _ => ?_) (fun h => absurd h (by decide))
    refine z_iconst C (v := 0) dX5_setPrice_27 (by decide) ?_
    refine z_callVi C (T := Unit) (As := [.int 0]) (rest := []) (ws' := fun _ => (wM md cI cZ acc flo pap clo net bnd frm too amt pri wai fst ldr bor lnt rat plg opn (nI mk) small (nI lm) price cut proc 1)) (m_asks_n l sa D cI cZ cL md acc flo pap clo net bnd frm too amt pri wai fst ldr bor lnt rat plg opn small price cut proc thr mk lm  ) (cwV 1 C.2.2.2.2.1 gX5_setPrice_X5_asks rfl rfl rfl (by decide +kernel) ⟨Nat.le_of_ble_eq_true rfl, Nat.le_of_ble_eq_true rfl⟩) 0 rfl rfl rfl (fun _ => zSub.full) zIn.full rfl (Nat.le_of_ble_eq_true rfl) ⟨Nat.le_of_ble_eq_true rfl, Nat.le_of_ble_eq_true rfl⟩ dX5_setPrice_28 (fun r_10 _ h_11 => ?_)
    obtain rfl : r_10 = 0 := h_11
    refine z_if_eq C (tgt := 44) dX5_setPrice_31 (by decide) (fun _ => ?_) (fun h => absurd h (by decide))
    exact z_vret C () (by exact trivial) rfl (by decide) (by decide) dX5_setPrice_44
set_option maxHeartbeats 4000000 in
set_option maxRecDepth 100000 in
theorem m_lend_ok (l : Launch) (sa : Nat → Nat) (D : va_G) (cI cZ cL : ClassId) (md : Nat → Nat) (acc flo pap clo net bnd frm too amt pri wai fst ldr bor lnt rat plg opn : Nat → Int32) (small price cut proc thr : Int32) (mk lm : Nat) (b : Nat) (o : Nat) (am : Int32) (rt : Int32) (x : Int32) (hb : b < 5) (ho : o < 5) (hft : b ≠ o) (g1 : ¬ am < 1) (g2 : ¬ 100000 < am) (g3 : ¬ rt < 0) (g4 : ¬ 200 < rt) (g5 : ¬ x < 0) (g6 : ¬ 1000 < x) (p1 : ¬ price < 1) (p2 : ¬ 1000 < price) (q1 : ¬ cut < 0) (q2 : ¬ 1000 < cut) (hcb : clo b = 0) (hco : clo o = 0) (hlm : lm < 40) (k1 : ¬ pap o < x) (k2 : ¬ x * price * (1000 - cut) / 1000 < am) (k3 : ¬ acc b - am < flo b) : zMi (T := Unit) sa D vwCl (zty cI cZ cL) l yX5_lend wsX5_lend ({ frames := 1, cells := 0, slots := 0, locals := 22 } : Room) [.ref (md 0), .int (nI b), .int (nI o), .int am, .int rt, .int x] (wM md cI cZ acc flo pap clo net bnd frm too amt pri wai fst ldr bor lnt rat plg opn (nI mk) small (nI lm) price cut proc thr) (fun r9 _ => r9 = (nI lm)) (fun _ => (wM md cI cZ (mvA b o am acc) flo (upd pap o (pap o - x)) clo net bnd frm too amt pri wai fst (upd ldr lm (nI b)) (upd bor lm (nI o)) (upd lnt lm am) (upd rat lm rt) (upd plg lm x) (upd opn lm 1) (nI mk) small (nI (lm + 1)) price cut proc 0)) 0 0 := by
  refine zMi.of (ret := (some .int)) (cc := cX5_lend) (nL := 8) (own := RX5) (by decide +kernel) rfl [(0, .ref (md 0)), (1, .int (nI b)), (2, .int (nI o)), (3, .int am), (4, .int rt), (5, .int x)] rfl (Nat.le_of_ble_eq_true rfl) rfl ?_
  intro A p e s m args below meth c C hmn
  refine z_aload_n C dX5_lend_0 rfl 0 rfl ?_
  refine z_iload_n C dX5_lend_1 rfl 1 rfl ?_
  refine z_callSi C (T := Unit) (As := [.int (nI b)]) (rest := [.ref (md 0)]) (ws' := fun _ => (wM md cI cZ acc flo pap clo net bnd frm too amt pri wai fst ldr bor lnt rat plg opn (nI mk) small (nI lm) price cut proc thr)) (m_isBank_y l sa D cI cZ cL  b (by first | assumption | omega)) (va_cwS 1 C.2.2.2.2.1 gX5_lend_X5_isBank rfl rfl rfl (by decide +kernel) ⟨Nat.le_of_ble_eq_true rfl, Nat.le_of_ble_eq_true rfl⟩) (fun _ => zSub.none) zIn.none rfl (Nat.le_of_ble_eq_true rfl) ⟨Nat.le_of_ble_eq_true rfl, Nat.le_of_ble_eq_true rfl⟩ dX5_lend_2 (fun r_1 _ h_2 => ?_)
  obtain rfl : r_1 = 1 := h_2
  refine z_if_eq C (tgt := 19) dX5_lend_5 (by decide) (fun h => absurd h (by decide)) (fun _ => ?_)
  refine z_iload_n C dX5_lend_8 rfl 2 rfl ?_
  refine z_callSi C (T := Unit) (As := [.int (nI o)]) (rest := [.ref (md 0)]) (ws' := fun _ => (wM md cI cZ acc flo pap clo net bnd frm too amt pri wai fst ldr bor lnt rat plg opn (nI mk) small (nI lm) price cut proc thr)) (m_isBank_y l sa D cI cZ cL  o (by first | assumption | omega)) (va_cwS 1 C.2.2.2.2.1 gX5_lend_X5_isBank rfl rfl rfl (by decide +kernel) ⟨Nat.le_of_ble_eq_true rfl, Nat.le_of_ble_eq_true rfl⟩) (fun _ => zSub.none) zIn.none rfl (Nat.le_of_ble_eq_true rfl) ⟨Nat.le_of_ble_eq_true rfl, Nat.le_of_ble_eq_true rfl⟩ dX5_lend_9 (fun r_3 _ h_4 => ?_)
  obtain rfl : r_3 = 1 := h_4
  refine z_if_eq C (tgt := 19) dX5_lend_12 (by decide) (fun h => absurd h (by decide)) (fun _ => ?_)
  refine z_iconst C (v := 1) dX5_lend_15 (by decide) ?_
  refine z_goto C (tgt := 20) dX5_lend_16 (by decide) ?_
  refine z_callVi C (T := Unit) (As := [.int 1]) (rest := []) (ws' := fun _ => (wM md cI cZ acc flo pap clo net bnd frm too amt pri wai fst ldr bor lnt rat plg opn (nI mk) small (nI lm) price cut proc 0)) (m_asks_y l sa D cI cZ cL md acc flo pap clo net bnd frm too amt pri wai fst ldr bor lnt rat plg opn small price cut proc thr mk lm  ) (cwV 1 C.2.2.2.2.1 gX5_lend_X5_asks rfl rfl rfl (by decide +kernel) ⟨Nat.le_of_ble_eq_true rfl, Nat.le_of_ble_eq_true rfl⟩) 0 rfl rfl rfl (fun _ => zSub.full) zIn.full rfl (Nat.le_of_ble_eq_true rfl) ⟨Nat.le_of_ble_eq_true rfl, Nat.le_of_ble_eq_true rfl⟩ dX5_lend_20 (fun r_5 _ h_6 => ?_)
  obtain rfl : r_5 = 1 := h_6
  refine z_if_ne C (tgt := 28) dX5_lend_23 (by decide) (fun _ => ?_) (fun h => absurd h (by decide))
  refine z_iload_n C dX5_lend_28 rfl 1 rfl ?_
  refine z_iload_n C dX5_lend_29 rfl 2 rfl ?_
  refine z_icmp_eq C (tgt := 67) dX5_lend_30 (by decide) (fun c30_7 => ?_) (fun c30_7 => ?_)
  · skip
    have n_8 : b = o := (nI_eq (a := b) (b := o) (by omega) (by omega)).mp c30_7
    refine z_aload_n C dX5_lend_67 rfl 0 rfl ?_
    refine z_iconst C (v := 2) dX5_lend_68 (by decide) ?_
    exfalso
    first | omega | contradiction | exact k3 (Int32.not_le.mp (by assumption)) | exact k2 ((z_worth g5 g6 p1 p2 q1 q2 g1).mp (by assumption))
  · skip
    have n_9 : ¬ b = o := fun q => c30_7 ((nI_eq (a := b) (b := o) (by omega) (by omega)).mpr q)
    refine z_iload_n C dX5_lend_33 rfl 3 rfl ?_
    refine z_iconst C (v := 1) dX5_lend_34 (by decide) ?_
    refine z_ldc C m_X5_lend_k100 dX5_lend_35 ?_
    refine z_callSi C (T := Unit) (As := [.int am, .int 1, .int 100000]) (rest := []) (ws' := fun _ => (wM md cI cZ acc flo pap clo net bnd frm too amt pri wai fst ldr bor lnt rat plg opn (nI mk) small (nI lm) price cut proc 0)) (m_in_y l sa D cI cZ cL  am 1 100000 (by first | assumption | omega) (by first | assumption | omega)) (va_cwS 3 C.2.2.2.2.1 gX5_lend_X5_in rfl rfl rfl (by decide +kernel) ⟨Nat.le_of_ble_eq_true rfl, Nat.le_of_ble_eq_true rfl⟩) (fun _ => zSub.none) zIn.none rfl (Nat.le_of_ble_eq_true rfl) ⟨Nat.le_of_ble_eq_true rfl, Nat.le_of_ble_eq_true rfl⟩ dX5_lend_37 (fun r_10 _ h_11 => ?_)
    obtain rfl : r_10 = 1 := h_11
    refine z_if_eq C (tgt := 67) dX5_lend_40 (by decide) (fun h => absurd h (by decide)) (fun _ => ?_)
    refine z_iload C dX5_lend_43 4 rfl ?_
    refine z_iconst C (v := 0) dX5_lend_45 (by decide) ?_
    refine z_sipush C (v := 200) dX5_lend_46 (by decide) ?_
    refine z_callSi C (T := Unit) (As := [.int rt, .int 0, .int 200]) (rest := []) (ws' := fun _ => (wM md cI cZ acc flo pap clo net bnd frm too amt pri wai fst ldr bor lnt rat plg opn (nI mk) small (nI lm) price cut proc 0)) (m_in_y l sa D cI cZ cL  rt 0 200 (by first | assumption | omega) (by first | assumption | omega)) (va_cwS 3 C.2.2.2.2.1 gX5_lend_X5_in rfl rfl rfl (by decide +kernel) ⟨Nat.le_of_ble_eq_true rfl, Nat.le_of_ble_eq_true rfl⟩) (fun _ => zSub.none) zIn.none rfl (Nat.le_of_ble_eq_true rfl) ⟨Nat.le_of_ble_eq_true rfl, Nat.le_of_ble_eq_true rfl⟩ dX5_lend_49 (fun r_12 _ h_13 => ?_)
    obtain rfl : r_12 = 1 := h_13
    refine z_if_eq C (tgt := 67) dX5_lend_52 (by decide) (fun h => absurd h (by decide)) (fun _ => ?_)
    refine z_iload C dX5_lend_55 5 rfl ?_
    refine z_iconst C (v := 0) dX5_lend_57 (by decide) ?_
    refine z_sipush C (v := 1000) dX5_lend_58 (by decide) ?_
    refine z_callSi C (T := Unit) (As := [.int x, .int 0, .int 1000]) (rest := []) (ws' := fun _ => (wM md cI cZ acc flo pap clo net bnd frm too amt pri wai fst ldr bor lnt rat plg opn (nI mk) small (nI lm) price cut proc 0)) (m_in_y l sa D cI cZ cL  x 0 1000 (by first | assumption | omega) (by first | assumption | omega)) (va_cwS 3 C.2.2.2.2.1 gX5_lend_X5_in rfl rfl rfl (by decide +kernel) ⟨Nat.le_of_ble_eq_true rfl, Nat.le_of_ble_eq_true rfl⟩) (fun _ => zSub.none) zIn.none rfl (Nat.le_of_ble_eq_true rfl) ⟨Nat.le_of_ble_eq_true rfl, Nat.le_of_ble_eq_true rfl⟩ dX5_lend_61 (fun r_14 _ h_15 => ?_)
    obtain rfl : r_14 = 1 := h_15
    refine z_if_ne C (tgt := 73) dX5_lend_64 (by decide) (fun _ => ?_) (fun h => absurd h (by decide))
    refine z_iload C dX5_lend_73 5 rfl ?_
    refine z_i2l C (v := x.toInt64) dX5_lend_75 rfl ?_
    refine z_aload_n C dX5_lend_76 rfl 0 rfl ?_
    refine z_get C 0 rfl i_X5_lend_X5 rfl 21 (by decide) m_X5_lend_f69 rfl rfl dX5_lend_77 ?_
    refine z_i2l C (v := price.toInt64) dX5_lend_80 rfl ?_
    refine z_lmul C (v := (x.toInt64 * price.toInt64)) dX5_lend_81 rfl ?_
    refine z_sipush C (v := 1000) dX5_lend_82 (by decide) ?_
    refine z_aload_n C dX5_lend_85 rfl 0 rfl ?_
    refine z_get C 0 rfl i_X5_lend_X5 rfl 22 (by decide) m_X5_lend_f72 rfl rfl dX5_lend_86 ?_
    refine z_isub C (v := (1000 - cut)) dX5_lend_89 rfl ?_
    refine z_i2l C (v := (1000 - cut).toInt64) dX5_lend_90 rfl ?_
    refine z_lmul C (v := ((x.toInt64 * price.toInt64) * (1000 - cut).toInt64)) dX5_lend_91 rfl ?_
    refine z_ldc2 C m_X5_lend_k142 dX5_lend_92 ?_
    refine z_ldiv C (v := (((x.toInt64 * price.toInt64) * (1000 - cut).toInt64) / 1000)) dX5_lend_95 (by decide) rfl ?_
    refine z_lstore C dX5_lend_96 (by decide) [(0, .ref (md 0)), (1, .int (nI b)), (2, .int (nI o)), (3, .int am), (4, .int rt), (5, .int x), (6, .long (((x.toInt64 * price.toInt64) * (1000 - cut).toInt64) / 1000))] [1, 2, 3, 4, 5, 6, 0] rfl ?_
    refine z_aload_n C dX5_lend_98 rfl 0 rfl ?_
    refine z_get C 0 rfl i_X5_lend_X5 rfl 3 (by decide) m_X5_lend_f19 rfl rfl dX5_lend_99 ?_
    refine z_iload_n C dX5_lend_102 rfl 1 rfl ?_
    refine z_zald C 4 1 rfl rfl b (nI_clamp (by omega)) (vp_in_nI (by omega) (by omega)) (clo b) rfl dX5_lend_103 ?_
    refine z_if_ne C (tgt := 161) dX5_lend_104 (by decide) (fun c104_16 => ?_) (fun c104_16 => ?_)
    · skip
      refine z_aload_n C dX5_lend_161 rfl 0 rfl ?_
      refine z_iconst C (v := 3) dX5_lend_162 (by decide) ?_
      exfalso
      first | omega | contradiction | exact k3 (Int32.not_le.mp (by assumption)) | exact k2 ((z_worth g5 g6 p1 p2 q1 q2 g1).mp (by assumption))
    · skip
      refine z_aload_n C dX5_lend_107 rfl 0 rfl ?_
      refine z_get C 0 rfl i_X5_lend_X5 rfl 3 (by decide) m_X5_lend_f19 rfl rfl dX5_lend_108 ?_
      refine z_iload_n C dX5_lend_111 rfl 2 rfl ?_
      refine z_zald C 4 1 rfl rfl o (nI_clamp (by omega)) (vp_in_nI (by omega) (by omega)) (clo o) rfl dX5_lend_112 ?_
      refine z_if_ne C (tgt := 161) dX5_lend_113 (by decide) (fun c113_17 => ?_) (fun c113_17 => ?_)
      · skip
        refine z_aload_n C dX5_lend_161 rfl 0 rfl ?_
        refine z_iconst C (v := 3) dX5_lend_162 (by decide) ?_
        exfalso
        first | omega | contradiction | exact k3 (Int32.not_le.mp (by assumption)) | exact k2 ((z_worth g5 g6 p1 p2 q1 q2 g1).mp (by assumption))
      · skip
        refine z_aload_n C dX5_lend_116 rfl 0 rfl ?_
        refine z_get C 0 rfl i_X5_lend_X5 rfl 14 (by decide) m_X5_lend_f144 rfl rfl dX5_lend_117 ?_
        refine z_bipush C (v := 40) dX5_lend_120 (by decide) ?_
        refine z_icmp_eq C (tgt := 161) dX5_lend_122 (by decide) (fun c122_18 => ?_) (fun c122_18 => ?_)
        · skip
          have n_19 : lm = 40 := (nI_eq (a := lm) (b := 40) (by omega) (by omega)).mp c122_18
          refine z_aload_n C dX5_lend_161 rfl 0 rfl ?_
          refine z_iconst C (v := 3) dX5_lend_162 (by decide) ?_
          exfalso
          first | omega | contradiction | exact k3 (Int32.not_le.mp (by assumption)) | exact k2 ((z_worth g5 g6 p1 p2 q1 q2 g1).mp (by assumption))
        · skip
          have n_20 : ¬ lm = 40 := fun q => c122_18 ((nI_eq (a := lm) (b := 40) (by omega) (by omega)).mpr q)
          refine z_aload_n C dX5_lend_125 rfl 0 rfl ?_
          refine z_get C 0 rfl i_X5_lend_X5 rfl 2 (by decide) m_X5_lend_f16 rfl rfl dX5_lend_126 ?_
          refine z_iload_n C dX5_lend_129 rfl 2 rfl ?_
          refine z_iald C 3 0 rfl rfl o (nI_clamp (by omega)) (vp_in_nI (by omega) (by omega)) (pap o) rfl dX5_lend_130 ?_
          refine z_iload C dX5_lend_131 5 rfl ?_
          refine z_icmp_lt C (tgt := 161) dX5_lend_133 (by decide) (fun c133_21 => ?_) (fun c133_21 => ?_)
          · skip
            refine z_aload_n C dX5_lend_161 rfl 0 rfl ?_
            refine z_iconst C (v := 3) dX5_lend_162 (by decide) ?_
            exfalso
            first | omega | contradiction | exact k3 (Int32.not_le.mp (by assumption)) | exact k2 ((z_worth g5 g6 p1 p2 q1 q2 g1).mp (by assumption))
          · skip
            refine z_lload C dX5_lend_136 6 rfl ?_
            refine z_iload_n C dX5_lend_138 rfl 3 rfl ?_
            refine z_i2l C (v := am.toInt64) dX5_lend_139 rfl ?_
            refine z_lcmp_lt C dX5_lend_140 (tgt := 161) dX5_lend_141 (by decide) (fun c140_22 => ?_) (fun c140_22 => ?_)
            · skip
              refine z_aload_n C dX5_lend_161 rfl 0 rfl ?_
              refine z_iconst C (v := 3) dX5_lend_162 (by decide) ?_
              exfalso
              first | omega | contradiction | exact k3 (Int32.not_le.mp (by assumption)) | exact k2 ((z_worth g5 g6 p1 p2 q1 q2 g1).mp (by assumption))
            · skip
              refine z_aload_n C dX5_lend_144 rfl 0 rfl ?_
              refine z_get C 0 rfl i_X5_lend_X5 rfl 0 (by decide) m_X5_lend_f7 rfl rfl dX5_lend_145 ?_
              refine z_iload_n C dX5_lend_148 rfl 1 rfl ?_
              refine z_iald C 1 0 rfl rfl b (nI_clamp (by omega)) (vp_in_nI (by omega) (by omega)) (acc b) rfl dX5_lend_149 ?_
              refine z_iload_n C dX5_lend_150 rfl 3 rfl ?_
              refine z_isub C (v := ((acc b) - am)) dX5_lend_151 rfl ?_
              refine z_aload_n C dX5_lend_152 rfl 0 rfl ?_
              refine z_get C 0 rfl i_X5_lend_X5 rfl 1 (by decide) m_X5_lend_f13 rfl rfl dX5_lend_153 ?_
              refine z_iload_n C dX5_lend_156 rfl 1 rfl ?_
              refine z_iald C 2 0 rfl rfl b (nI_clamp (by omega)) (vp_in_nI (by omega) (by omega)) (flo b) rfl dX5_lend_157 ?_
              refine z_icmp_ge C (tgt := 167) dX5_lend_158 (by decide) (fun c158_23 => ?_) (fun c158_23 => ?_)
              · skip
                refine z_aload_n C dX5_lend_167 rfl 0 rfl ?_
                refine z_get C 0 rfl i_X5_lend_X5 rfl 15 (by decide) m_X5_lend_f51 rfl rfl dX5_lend_168 ?_
                refine z_aload_n C dX5_lend_171 rfl 0 rfl ?_
                refine z_get C 0 rfl i_X5_lend_X5 rfl 14 (by decide) m_X5_lend_f144 rfl rfl dX5_lend_172 ?_
                refine z_iload_n C dX5_lend_175 rfl 1 rfl ?_
                refine z_iast C 13 0 rfl rfl lm (nI_clamp (by omega)) (vp_in_nI (by omega) (by omega)) (nI b) rfl dX5_lend_176 (wM md cI cZ acc flo pap clo net bnd frm too amt pri wai fst (upd ldr lm (nI b)) bor lnt rat plg opn (nI mk) small (nI lm) price cut proc 0) rfl ?_
                refine z_aload_n C dX5_lend_177 rfl 0 rfl ?_
                refine z_get C 0 rfl i_X5_lend_X5 rfl 16 (by decide) m_X5_lend_f54 rfl rfl dX5_lend_178 ?_
                refine z_aload_n C dX5_lend_181 rfl 0 rfl ?_
                refine z_get C 0 rfl i_X5_lend_X5 rfl 14 (by decide) m_X5_lend_f144 rfl rfl dX5_lend_182 ?_
                refine z_iload_n C dX5_lend_185 rfl 2 rfl ?_
                refine z_iast C 14 0 rfl rfl lm (nI_clamp (by omega)) (vp_in_nI (by omega) (by omega)) (nI o) rfl dX5_lend_186 (wM md cI cZ acc flo pap clo net bnd frm too amt pri wai fst (upd ldr lm (nI b)) (upd bor lm (nI o)) lnt rat plg opn (nI mk) small (nI lm) price cut proc 0) rfl ?_
                refine z_aload_n C dX5_lend_187 rfl 0 rfl ?_
                refine z_get C 0 rfl i_X5_lend_X5 rfl 17 (by decide) m_X5_lend_f57 rfl rfl dX5_lend_188 ?_
                refine z_aload_n C dX5_lend_191 rfl 0 rfl ?_
                refine z_get C 0 rfl i_X5_lend_X5 rfl 14 (by decide) m_X5_lend_f144 rfl rfl dX5_lend_192 ?_
                refine z_iload_n C dX5_lend_195 rfl 3 rfl ?_
                refine z_iast C 15 0 rfl rfl lm (nI_clamp (by omega)) (vp_in_nI (by omega) (by omega)) am rfl dX5_lend_196 (wM md cI cZ acc flo pap clo net bnd frm too amt pri wai fst (upd ldr lm (nI b)) (upd bor lm (nI o)) (upd lnt lm am) rat plg opn (nI mk) small (nI lm) price cut proc 0) rfl ?_
                refine z_aload_n C dX5_lend_197 rfl 0 rfl ?_
                refine z_get C 0 rfl i_X5_lend_X5 rfl 18 (by decide) m_X5_lend_f60 rfl rfl dX5_lend_198 ?_
                refine z_aload_n C dX5_lend_201 rfl 0 rfl ?_
                refine z_get C 0 rfl i_X5_lend_X5 rfl 14 (by decide) m_X5_lend_f144 rfl rfl dX5_lend_202 ?_
                refine z_iload C dX5_lend_205 4 rfl ?_
                refine z_iast C 16 0 rfl rfl lm (nI_clamp (by omega)) (vp_in_nI (by omega) (by omega)) rt rfl dX5_lend_207 (wM md cI cZ acc flo pap clo net bnd frm too amt pri wai fst (upd ldr lm (nI b)) (upd bor lm (nI o)) (upd lnt lm am) (upd rat lm rt) plg opn (nI mk) small (nI lm) price cut proc 0) rfl ?_
                refine z_aload_n C dX5_lend_208 rfl 0 rfl ?_
                refine z_get C 0 rfl i_X5_lend_X5 rfl 19 (by decide) m_X5_lend_f63 rfl rfl dX5_lend_209 ?_
                refine z_aload_n C dX5_lend_212 rfl 0 rfl ?_
                refine z_get C 0 rfl i_X5_lend_X5 rfl 14 (by decide) m_X5_lend_f144 rfl rfl dX5_lend_213 ?_
                refine z_iload C dX5_lend_216 5 rfl ?_
                refine z_iast C 17 0 rfl rfl lm (nI_clamp (by omega)) (vp_in_nI (by omega) (by omega)) x rfl dX5_lend_218 (wM md cI cZ acc flo pap clo net bnd frm too amt pri wai fst (upd ldr lm (nI b)) (upd bor lm (nI o)) (upd lnt lm am) (upd rat lm rt) (upd plg lm x) opn (nI mk) small (nI lm) price cut proc 0) rfl ?_
                refine z_aload_n C dX5_lend_219 rfl 0 rfl ?_
                refine z_get C 0 rfl i_X5_lend_X5 rfl 20 (by decide) m_X5_lend_f66 rfl rfl dX5_lend_220 ?_
                refine z_aload_n C dX5_lend_223 rfl 0 rfl ?_
                refine z_get C 0 rfl i_X5_lend_X5 rfl 14 (by decide) m_X5_lend_f144 rfl rfl dX5_lend_224 ?_
                refine z_iconst C (v := 1) dX5_lend_227 (by decide) ?_
                refine z_zast C 18 1 rfl rfl lm (nI_clamp (by omega)) (vp_in_nI (by omega) (by omega)) 1 (by decide) dX5_lend_228 (wM md cI cZ acc flo pap clo net bnd frm too amt pri wai fst (upd ldr lm (nI b)) (upd bor lm (nI o)) (upd lnt lm am) (upd rat lm rt) (upd plg lm x) (upd opn lm 1) (nI mk) small (nI lm) price cut proc 0) rfl ?_
                refine z_aload_n C dX5_lend_229 rfl 0 rfl ?_
                refine z_get C 0 rfl i_X5_lend_X5 rfl 0 (by decide) m_X5_lend_f7 rfl rfl dX5_lend_230 ?_
                refine z_iload_n C dX5_lend_233 rfl 1 rfl ?_
                refine z_dup2 C dX5_lend_234 rfl rfl ?_
                refine z_iald C 1 0 rfl rfl b (nI_clamp (by omega)) (vp_in_nI (by omega) (by omega)) (acc b) rfl dX5_lend_235 ?_
                refine z_iload_n C dX5_lend_236 rfl 3 rfl ?_
                refine z_isub C (v := ((acc b) - am)) dX5_lend_237 rfl ?_
                refine z_iast C 1 0 rfl rfl b (nI_clamp (by omega)) (vp_in_nI (by omega) (by omega)) ((acc b) - am) rfl dX5_lend_238 (wM md cI cZ (upd acc b ((acc b) - am)) flo pap clo net bnd frm too amt pri wai fst (upd ldr lm (nI b)) (upd bor lm (nI o)) (upd lnt lm am) (upd rat lm rt) (upd plg lm x) (upd opn lm 1) (nI mk) small (nI lm) price cut proc 0) rfl ?_
                refine z_aload_n C dX5_lend_239 rfl 0 rfl ?_
                refine z_get C 0 rfl i_X5_lend_X5 rfl 0 (by decide) m_X5_lend_f7 rfl rfl dX5_lend_240 ?_
                refine z_iload_n C dX5_lend_243 rfl 2 rfl ?_
                refine z_dup2 C dX5_lend_244 rfl rfl ?_
                refine z_iald C 1 0 rfl rfl o (nI_clamp (by omega)) (vp_in_nI (by omega) (by omega)) ((upd acc b ((acc b) - am)) o) rfl dX5_lend_245 ?_
                refine z_iload_n C dX5_lend_246 rfl 3 rfl ?_
                refine z_iadd C (v := (((upd acc b ((acc b) - am)) o) + am)) dX5_lend_247 rfl ?_
                refine z_iast C 1 0 rfl rfl o (nI_clamp (by omega)) (vp_in_nI (by omega) (by omega)) (((upd acc b ((acc b) - am)) o) + am) rfl dX5_lend_248 (wM md cI cZ (upd (upd acc b ((acc b) - am)) o (((upd acc b ((acc b) - am)) o) + am)) flo pap clo net bnd frm too amt pri wai fst (upd ldr lm (nI b)) (upd bor lm (nI o)) (upd lnt lm am) (upd rat lm rt) (upd plg lm x) (upd opn lm 1) (nI mk) small (nI lm) price cut proc 0) rfl ?_
                refine z_aload_n C dX5_lend_249 rfl 0 rfl ?_
                refine z_get C 0 rfl i_X5_lend_X5 rfl 2 (by decide) m_X5_lend_f16 rfl rfl dX5_lend_250 ?_
                refine z_iload_n C dX5_lend_253 rfl 2 rfl ?_
                refine z_dup2 C dX5_lend_254 rfl rfl ?_
                refine z_iald C 3 0 rfl rfl o (nI_clamp (by omega)) (vp_in_nI (by omega) (by omega)) (pap o) rfl dX5_lend_255 ?_
                refine z_iload C dX5_lend_256 5 rfl ?_
                refine z_isub C (v := ((pap o) - x)) dX5_lend_258 rfl ?_
                refine z_iast C 3 0 rfl rfl o (nI_clamp (by omega)) (vp_in_nI (by omega) (by omega)) ((pap o) - x) rfl dX5_lend_259 (wM md cI cZ (upd (upd acc b ((acc b) - am)) o (((upd acc b ((acc b) - am)) o) + am)) flo (upd pap o ((pap o) - x)) clo net bnd frm too amt pri wai fst (upd ldr lm (nI b)) (upd bor lm (nI o)) (upd lnt lm am) (upd rat lm rt) (upd plg lm x) (upd opn lm 1) (nI mk) small (nI lm) price cut proc 0) rfl ?_
                refine z_aload_n C dX5_lend_260 rfl 0 rfl ?_
                refine z_dup C dX5_lend_261 rfl ?_
                refine z_get C 0 rfl i_X5_lend_X5 rfl 14 (by decide) m_X5_lend_f144 rfl rfl dX5_lend_262 ?_
                refine z_iconst C (v := 1) dX5_lend_265 (by decide) ?_
                refine z_iadd C (v := (nI (lm + 1))) dX5_lend_266 (nI_add lm 1) ?_
                refine z_put C 0 rfl i_X5_lend_X5 rfl 14 (by decide) m_X5_lend_f144 rfl tyX5 tyX5_ok nmX5 rfl (ty := .int) (by decide +kernel) rfl rfl (Nat.le_of_ble_eq_true rfl) dX5_lend_267 (wM md cI cZ (upd (upd acc b ((acc b) - am)) o (((upd acc b ((acc b) - am)) o) + am)) flo (upd pap o ((pap o) - x)) clo net bnd frm too amt pri wai fst (upd ldr lm (nI b)) (upd bor lm (nI o)) (upd lnt lm am) (upd rat lm rt) (upd plg lm x) (upd opn lm 1) (nI mk) small (nI (lm + 1)) price cut proc 0) rfl ?_
                refine z_aload_n C dX5_lend_270 rfl 0 rfl ?_
                refine z_get C 0 rfl i_X5_lend_X5 rfl 14 (by decide) m_X5_lend_f144 rfl rfl dX5_lend_271 ?_
                refine z_iconst C (v := 1) dX5_lend_274 (by decide) ?_
                refine z_isub C (v := (nI ((lm + 1) - 1))) dX5_lend_275 (pk_sub (a := lm + 1) (b := 1) (by omega)) ?_
                exact z_iret C () rfl rfl (by decide) (by decide) dX5_lend_276
              · skip
                refine z_aload_n C dX5_lend_161 rfl 0 rfl ?_
                refine z_iconst C (v := 3) dX5_lend_162 (by decide) ?_
                exfalso
                first | omega | contradiction | exact k3 (Int32.not_le.mp (by assumption)) | exact k2 ((z_worth g5 g6 p1 p2 q1 q2 g1).mp (by assumption))
set_option maxHeartbeats 4000000 in
set_option maxRecDepth 100000 in
theorem m_lend_b1 (l : Launch) (sa : Nat → Nat) (D : va_G) (cI cZ cL : ClassId) (md : Nat → Nat) (acc flo pap clo net bnd frm too amt pri wai fst ldr bor lnt rat plg opn : Nat → Int32) (small price cut proc thr : Int32) (mk lm : Nat) (b : Int32) (o : Int32) (am : Int32) (rt : Int32) (x : Int32) (hb : b < 0 ∨ 5 ≤ b) : zMi (T := Unit) sa D vwCl (zty cI cZ cL) l yX5_lend wsX5_lend ({ frames := 1, cells := 0, slots := 0, locals := 21 } : Room) [.ref (md 0), .int b, .int o, .int am, .int rt, .int x] (wM md cI cZ acc flo pap clo net bnd frm too amt pri wai fst ldr bor lnt rat plg opn (nI mk) small (nI lm) price cut proc thr) (fun r9 _ => r9 = 0) (fun _ => (wM md cI cZ acc flo pap clo net bnd frm too amt pri wai fst ldr bor lnt rat plg opn (nI mk) small (nI lm) price cut proc 1)) 0 0 := by
  refine zMi.of (ret := (some .int)) (cc := cX5_lend) (nL := 8) (own := RX5) (by decide +kernel) rfl [(0, .ref (md 0)), (1, .int b), (2, .int o), (3, .int am), (4, .int rt), (5, .int x)] rfl (Nat.le_of_ble_eq_true rfl) rfl ?_
  intro A p e s m args below meth c C hmn
  refine z_aload_n C dX5_lend_0 rfl 0 rfl ?_
  refine z_iload_n C dX5_lend_1 rfl 1 rfl ?_
  refine z_callSi C (T := Unit) (As := [.int b]) (rest := [.ref (md 0)]) (ws' := fun _ => (wM md cI cZ acc flo pap clo net bnd frm too amt pri wai fst ldr bor lnt rat plg opn (nI mk) small (nI lm) price cut proc thr)) (m_isBank_n l sa D cI cZ cL  b (by first | assumption | omega)) (va_cwS 1 C.2.2.2.2.1 gX5_lend_X5_isBank rfl rfl rfl (by decide +kernel) ⟨Nat.le_of_ble_eq_true rfl, Nat.le_of_ble_eq_true rfl⟩) (fun _ => zSub.none) zIn.none rfl (Nat.le_of_ble_eq_true rfl) ⟨Nat.le_of_ble_eq_true rfl, Nat.le_of_ble_eq_true rfl⟩ dX5_lend_2 (fun r_1 _ h_2 => ?_)
  obtain rfl : r_1 = 0 := h_2
  refine z_if_eq C (tgt := 19) dX5_lend_5 (by decide) (fun _ => ?_) (fun h => absurd h (by decide))
  refine z_iconst C (v := 0) dX5_lend_19 (by decide) ?_
  refine z_callVi C (T := Unit) (As := [.int 0]) (rest := []) (ws' := fun _ => (wM md cI cZ acc flo pap clo net bnd frm too amt pri wai fst ldr bor lnt rat plg opn (nI mk) small (nI lm) price cut proc 1)) (m_asks_n l sa D cI cZ cL md acc flo pap clo net bnd frm too amt pri wai fst ldr bor lnt rat plg opn small price cut proc thr mk lm  ) (cwV 1 C.2.2.2.2.1 gX5_lend_X5_asks rfl rfl rfl (by decide +kernel) ⟨Nat.le_of_ble_eq_true rfl, Nat.le_of_ble_eq_true rfl⟩) 0 rfl rfl rfl (fun _ => zSub.full) zIn.full rfl (Nat.le_of_ble_eq_true rfl) ⟨Nat.le_of_ble_eq_true rfl, Nat.le_of_ble_eq_true rfl⟩ dX5_lend_20 (fun r_3 _ h_4 => ?_)
  obtain rfl : r_3 = 0 := h_4
  refine z_if_ne C (tgt := 28) dX5_lend_23 (by decide) (fun h => absurd h (by decide)) (fun _ => ?_)
  refine z_iconst C (v := 0) dX5_lend_26 (by decide) ?_
  exact z_iret C () rfl rfl (by decide) (by decide) dX5_lend_27
set_option maxHeartbeats 4000000 in
set_option maxRecDepth 100000 in
theorem m_lend_b1b (l : Launch) (sa : Nat → Nat) (D : va_G) (cI cZ cL : ClassId) (md : Nat → Nat) (acc flo pap clo net bnd frm too amt pri wai fst ldr bor lnt rat plg opn : Nat → Int32) (small price cut proc thr : Int32) (mk lm : Nat) (b : Nat) (o : Int32) (am : Int32) (rt : Int32) (x : Int32) (hb : b < 5) (ho : o < 0 ∨ 5 ≤ o) : zMi (T := Unit) sa D vwCl (zty cI cZ cL) l yX5_lend wsX5_lend ({ frames := 1, cells := 0, slots := 0, locals := 21 } : Room) [.ref (md 0), .int (nI b), .int o, .int am, .int rt, .int x] (wM md cI cZ acc flo pap clo net bnd frm too amt pri wai fst ldr bor lnt rat plg opn (nI mk) small (nI lm) price cut proc thr) (fun r9 _ => r9 = 0) (fun _ => (wM md cI cZ acc flo pap clo net bnd frm too amt pri wai fst ldr bor lnt rat plg opn (nI mk) small (nI lm) price cut proc 1)) 0 0 := by
  refine zMi.of (ret := (some .int)) (cc := cX5_lend) (nL := 8) (own := RX5) (by decide +kernel) rfl [(0, .ref (md 0)), (1, .int (nI b)), (2, .int o), (3, .int am), (4, .int rt), (5, .int x)] rfl (Nat.le_of_ble_eq_true rfl) rfl ?_
  intro A p e s m args below meth c C hmn
  refine z_aload_n C dX5_lend_0 rfl 0 rfl ?_
  refine z_iload_n C dX5_lend_1 rfl 1 rfl ?_
  refine z_callSi C (T := Unit) (As := [.int (nI b)]) (rest := [.ref (md 0)]) (ws' := fun _ => (wM md cI cZ acc flo pap clo net bnd frm too amt pri wai fst ldr bor lnt rat plg opn (nI mk) small (nI lm) price cut proc thr)) (m_isBank_y l sa D cI cZ cL  b (by first | assumption | omega)) (va_cwS 1 C.2.2.2.2.1 gX5_lend_X5_isBank rfl rfl rfl (by decide +kernel) ⟨Nat.le_of_ble_eq_true rfl, Nat.le_of_ble_eq_true rfl⟩) (fun _ => zSub.none) zIn.none rfl (Nat.le_of_ble_eq_true rfl) ⟨Nat.le_of_ble_eq_true rfl, Nat.le_of_ble_eq_true rfl⟩ dX5_lend_2 (fun r_1 _ h_2 => ?_)
  obtain rfl : r_1 = 1 := h_2
  refine z_if_eq C (tgt := 19) dX5_lend_5 (by decide) (fun h => absurd h (by decide)) (fun _ => ?_)
  refine z_iload_n C dX5_lend_8 rfl 2 rfl ?_
  refine z_callSi C (T := Unit) (As := [.int o]) (rest := [.ref (md 0)]) (ws' := fun _ => (wM md cI cZ acc flo pap clo net bnd frm too amt pri wai fst ldr bor lnt rat plg opn (nI mk) small (nI lm) price cut proc thr)) (m_isBank_n l sa D cI cZ cL  o (by first | assumption | omega)) (va_cwS 1 C.2.2.2.2.1 gX5_lend_X5_isBank rfl rfl rfl (by decide +kernel) ⟨Nat.le_of_ble_eq_true rfl, Nat.le_of_ble_eq_true rfl⟩) (fun _ => zSub.none) zIn.none rfl (Nat.le_of_ble_eq_true rfl) ⟨Nat.le_of_ble_eq_true rfl, Nat.le_of_ble_eq_true rfl⟩ dX5_lend_9 (fun r_3 _ h_4 => ?_)
  obtain rfl : r_3 = 0 := h_4
  refine z_if_eq C (tgt := 19) dX5_lend_12 (by decide) (fun _ => ?_) (fun h => absurd h (by decide))
  refine z_iconst C (v := 0) dX5_lend_19 (by decide) ?_
  refine z_callVi C (T := Unit) (As := [.int 0]) (rest := []) (ws' := fun _ => (wM md cI cZ acc flo pap clo net bnd frm too amt pri wai fst ldr bor lnt rat plg opn (nI mk) small (nI lm) price cut proc 1)) (m_asks_n l sa D cI cZ cL md acc flo pap clo net bnd frm too amt pri wai fst ldr bor lnt rat plg opn small price cut proc thr mk lm  ) (cwV 1 C.2.2.2.2.1 gX5_lend_X5_asks rfl rfl rfl (by decide +kernel) ⟨Nat.le_of_ble_eq_true rfl, Nat.le_of_ble_eq_true rfl⟩) 0 rfl rfl rfl (fun _ => zSub.full) zIn.full rfl (Nat.le_of_ble_eq_true rfl) ⟨Nat.le_of_ble_eq_true rfl, Nat.le_of_ble_eq_true rfl⟩ dX5_lend_20 (fun r_5 _ h_6 => ?_)
  obtain rfl : r_5 = 0 := h_6
  refine z_if_ne C (tgt := 28) dX5_lend_23 (by decide) (fun h => absurd h (by decide)) (fun _ => ?_)
  refine z_iconst C (v := 0) dX5_lend_26 (by decide) ?_
  exact z_iret C () rfl rfl (by decide) (by decide) dX5_lend_27
set_option maxHeartbeats 4000000 in
set_option maxRecDepth 100000 in
theorem m_lend_b2a (l : Launch) (sa : Nat → Nat) (D : va_G) (cI cZ cL : ClassId) (md : Nat → Nat) (acc flo pap clo net bnd frm too amt pri wai fst ldr bor lnt rat plg opn : Nat → Int32) (small price cut proc thr : Int32) (mk lm : Nat) (b : Nat) (o : Nat) (am : Int32) (rt : Int32) (x : Int32) (hb : b < 5) (ho : o < 5) (hft : b = o) : zMi (T := Unit) sa D vwCl (zty cI cZ cL) l yX5_lend wsX5_lend ({ frames := 1, cells := 0, slots := 0, locals := 21 } : Room) [.ref (md 0), .int (nI b), .int (nI o), .int am, .int rt, .int x] (wM md cI cZ acc flo pap clo net bnd frm too amt pri wai fst ldr bor lnt rat plg opn (nI mk) small (nI lm) price cut proc thr) (fun r9 _ => r9 = 0) (fun _ => (wM md cI cZ acc flo pap clo net bnd frm too amt pri wai fst ldr bor lnt rat plg opn (nI mk) small (nI lm) price cut proc 2)) 0 0 := by
  refine zMi.of (ret := (some .int)) (cc := cX5_lend) (nL := 8) (own := RX5) (by decide +kernel) rfl [(0, .ref (md 0)), (1, .int (nI b)), (2, .int (nI o)), (3, .int am), (4, .int rt), (5, .int x)] rfl (Nat.le_of_ble_eq_true rfl) rfl ?_
  intro A p e s m args below meth c C hmn
  refine z_aload_n C dX5_lend_0 rfl 0 rfl ?_
  refine z_iload_n C dX5_lend_1 rfl 1 rfl ?_
  refine z_callSi C (T := Unit) (As := [.int (nI b)]) (rest := [.ref (md 0)]) (ws' := fun _ => (wM md cI cZ acc flo pap clo net bnd frm too amt pri wai fst ldr bor lnt rat plg opn (nI mk) small (nI lm) price cut proc thr)) (m_isBank_y l sa D cI cZ cL  b (by first | assumption | omega)) (va_cwS 1 C.2.2.2.2.1 gX5_lend_X5_isBank rfl rfl rfl (by decide +kernel) ⟨Nat.le_of_ble_eq_true rfl, Nat.le_of_ble_eq_true rfl⟩) (fun _ => zSub.none) zIn.none rfl (Nat.le_of_ble_eq_true rfl) ⟨Nat.le_of_ble_eq_true rfl, Nat.le_of_ble_eq_true rfl⟩ dX5_lend_2 (fun r_1 _ h_2 => ?_)
  obtain rfl : r_1 = 1 := h_2
  refine z_if_eq C (tgt := 19) dX5_lend_5 (by decide) (fun h => absurd h (by decide)) (fun _ => ?_)
  refine z_iload_n C dX5_lend_8 rfl 2 rfl ?_
  refine z_callSi C (T := Unit) (As := [.int (nI o)]) (rest := [.ref (md 0)]) (ws' := fun _ => (wM md cI cZ acc flo pap clo net bnd frm too amt pri wai fst ldr bor lnt rat plg opn (nI mk) small (nI lm) price cut proc thr)) (m_isBank_y l sa D cI cZ cL  o (by first | assumption | omega)) (va_cwS 1 C.2.2.2.2.1 gX5_lend_X5_isBank rfl rfl rfl (by decide +kernel) ⟨Nat.le_of_ble_eq_true rfl, Nat.le_of_ble_eq_true rfl⟩) (fun _ => zSub.none) zIn.none rfl (Nat.le_of_ble_eq_true rfl) ⟨Nat.le_of_ble_eq_true rfl, Nat.le_of_ble_eq_true rfl⟩ dX5_lend_9 (fun r_3 _ h_4 => ?_)
  obtain rfl : r_3 = 1 := h_4
  refine z_if_eq C (tgt := 19) dX5_lend_12 (by decide) (fun h => absurd h (by decide)) (fun _ => ?_)
  refine z_iconst C (v := 1) dX5_lend_15 (by decide) ?_
  refine z_goto C (tgt := 20) dX5_lend_16 (by decide) ?_
  refine z_callVi C (T := Unit) (As := [.int 1]) (rest := []) (ws' := fun _ => (wM md cI cZ acc flo pap clo net bnd frm too amt pri wai fst ldr bor lnt rat plg opn (nI mk) small (nI lm) price cut proc 0)) (m_asks_y l sa D cI cZ cL md acc flo pap clo net bnd frm too amt pri wai fst ldr bor lnt rat plg opn small price cut proc thr mk lm  ) (cwV 1 C.2.2.2.2.1 gX5_lend_X5_asks rfl rfl rfl (by decide +kernel) ⟨Nat.le_of_ble_eq_true rfl, Nat.le_of_ble_eq_true rfl⟩) 0 rfl rfl rfl (fun _ => zSub.full) zIn.full rfl (Nat.le_of_ble_eq_true rfl) ⟨Nat.le_of_ble_eq_true rfl, Nat.le_of_ble_eq_true rfl⟩ dX5_lend_20 (fun r_5 _ h_6 => ?_)
  obtain rfl : r_5 = 1 := h_6
  refine z_if_ne C (tgt := 28) dX5_lend_23 (by decide) (fun _ => ?_) (fun h => absurd h (by decide))
  refine z_iload_n C dX5_lend_28 rfl 1 rfl ?_
  refine z_iload_n C dX5_lend_29 rfl 2 rfl ?_
  refine z_icmp_eq C (tgt := 67) dX5_lend_30 (by decide) (fun c30_7 => ?_) (fun c30_7 => ?_)
  · skip
    have n_8 : b = o := (nI_eq (a := b) (b := o) (by omega) (by omega)).mp c30_7
    refine z_aload_n C dX5_lend_67 rfl 0 rfl ?_
    refine z_iconst C (v := 2) dX5_lend_68 (by decide) ?_
    refine z_callVi C (T := Unit) (As := [.int 2]) (rest := []) (ws' := fun _ => (wM md cI cZ acc flo pap clo net bnd frm too amt pri wai fst ldr bor lnt rat plg opn (nI mk) small (nI lm) price cut proc 2)) (m_fails l sa D cI cZ cL md acc flo pap clo net bnd frm too amt pri wai fst ldr bor lnt rat plg opn small price cut proc 0 mk lm 2 ) (cwV 1 C.2.2.2.2.1 gX5_lend_X5_fails rfl rfl rfl (by decide +kernel) ⟨Nat.le_of_ble_eq_true rfl, Nat.le_of_ble_eq_true rfl⟩) 0 rfl rfl rfl (fun _ => zSub.full) zIn.full rfl (Nat.le_of_ble_eq_true rfl) ⟨Nat.le_of_ble_eq_true rfl, Nat.le_of_ble_eq_true rfl⟩ dX5_lend_69 (fun r_9 _ h_10 => ?_)
    obtain rfl : r_9 = 0 := h_10
    exact z_iret C () rfl rfl (by decide) (by decide) dX5_lend_72
  · skip
    have n_11 : ¬ b = o := fun q => c30_7 ((nI_eq (a := b) (b := o) (by omega) (by omega)).mpr q)
    exfalso
    omega
set_option maxHeartbeats 4000000 in
set_option maxRecDepth 100000 in
theorem m_lend_b2b (l : Launch) (sa : Nat → Nat) (D : va_G) (cI cZ cL : ClassId) (md : Nat → Nat) (acc flo pap clo net bnd frm too amt pri wai fst ldr bor lnt rat plg opn : Nat → Int32) (small price cut proc thr : Int32) (mk lm : Nat) (b : Nat) (o : Nat) (am : Int32) (rt : Int32) (x : Int32) (hb : b < 5) (ho : o < 5) (hft : b ≠ o) (hbad : am < 1 ∨ 100000 < am ∨ rt < 0 ∨ 200 < rt ∨ x < 0 ∨ 1000 < x) : zMi (T := Unit) sa D vwCl (zty cI cZ cL) l yX5_lend wsX5_lend ({ frames := 1, cells := 0, slots := 0, locals := 22 } : Room) [.ref (md 0), .int (nI b), .int (nI o), .int am, .int rt, .int x] (wM md cI cZ acc flo pap clo net bnd frm too amt pri wai fst ldr bor lnt rat plg opn (nI mk) small (nI lm) price cut proc thr) (fun r9 _ => r9 = 0) (fun _ => (wM md cI cZ acc flo pap clo net bnd frm too amt pri wai fst ldr bor lnt rat plg opn (nI mk) small (nI lm) price cut proc 2)) 0 0 := by
  refine zMi.of (ret := (some .int)) (cc := cX5_lend) (nL := 8) (own := RX5) (by decide +kernel) rfl [(0, .ref (md 0)), (1, .int (nI b)), (2, .int (nI o)), (3, .int am), (4, .int rt), (5, .int x)] rfl (Nat.le_of_ble_eq_true rfl) rfl ?_
  intro A p e s m args below meth c C hmn
  refine z_aload_n C dX5_lend_0 rfl 0 rfl ?_
  refine z_iload_n C dX5_lend_1 rfl 1 rfl ?_
  refine z_callSi C (T := Unit) (As := [.int (nI b)]) (rest := [.ref (md 0)]) (ws' := fun _ => (wM md cI cZ acc flo pap clo net bnd frm too amt pri wai fst ldr bor lnt rat plg opn (nI mk) small (nI lm) price cut proc thr)) (m_isBank_y l sa D cI cZ cL  b (by first | assumption | omega)) (va_cwS 1 C.2.2.2.2.1 gX5_lend_X5_isBank rfl rfl rfl (by decide +kernel) ⟨Nat.le_of_ble_eq_true rfl, Nat.le_of_ble_eq_true rfl⟩) (fun _ => zSub.none) zIn.none rfl (Nat.le_of_ble_eq_true rfl) ⟨Nat.le_of_ble_eq_true rfl, Nat.le_of_ble_eq_true rfl⟩ dX5_lend_2 (fun r_1 _ h_2 => ?_)
  obtain rfl : r_1 = 1 := h_2
  refine z_if_eq C (tgt := 19) dX5_lend_5 (by decide) (fun h => absurd h (by decide)) (fun _ => ?_)
  refine z_iload_n C dX5_lend_8 rfl 2 rfl ?_
  refine z_callSi C (T := Unit) (As := [.int (nI o)]) (rest := [.ref (md 0)]) (ws' := fun _ => (wM md cI cZ acc flo pap clo net bnd frm too amt pri wai fst ldr bor lnt rat plg opn (nI mk) small (nI lm) price cut proc thr)) (m_isBank_y l sa D cI cZ cL  o (by first | assumption | omega)) (va_cwS 1 C.2.2.2.2.1 gX5_lend_X5_isBank rfl rfl rfl (by decide +kernel) ⟨Nat.le_of_ble_eq_true rfl, Nat.le_of_ble_eq_true rfl⟩) (fun _ => zSub.none) zIn.none rfl (Nat.le_of_ble_eq_true rfl) ⟨Nat.le_of_ble_eq_true rfl, Nat.le_of_ble_eq_true rfl⟩ dX5_lend_9 (fun r_3 _ h_4 => ?_)
  obtain rfl : r_3 = 1 := h_4
  refine z_if_eq C (tgt := 19) dX5_lend_12 (by decide) (fun h => absurd h (by decide)) (fun _ => ?_)
  refine z_iconst C (v := 1) dX5_lend_15 (by decide) ?_
  refine z_goto C (tgt := 20) dX5_lend_16 (by decide) ?_
  refine z_callVi C (T := Unit) (As := [.int 1]) (rest := []) (ws' := fun _ => (wM md cI cZ acc flo pap clo net bnd frm too amt pri wai fst ldr bor lnt rat plg opn (nI mk) small (nI lm) price cut proc 0)) (m_asks_y l sa D cI cZ cL md acc flo pap clo net bnd frm too amt pri wai fst ldr bor lnt rat plg opn small price cut proc thr mk lm  ) (cwV 1 C.2.2.2.2.1 gX5_lend_X5_asks rfl rfl rfl (by decide +kernel) ⟨Nat.le_of_ble_eq_true rfl, Nat.le_of_ble_eq_true rfl⟩) 0 rfl rfl rfl (fun _ => zSub.full) zIn.full rfl (Nat.le_of_ble_eq_true rfl) ⟨Nat.le_of_ble_eq_true rfl, Nat.le_of_ble_eq_true rfl⟩ dX5_lend_20 (fun r_5 _ h_6 => ?_)
  obtain rfl : r_5 = 1 := h_6
  refine z_if_ne C (tgt := 28) dX5_lend_23 (by decide) (fun _ => ?_) (fun h => absurd h (by decide))
  refine z_iload_n C dX5_lend_28 rfl 1 rfl ?_
  refine z_iload_n C dX5_lend_29 rfl 2 rfl ?_
  refine z_icmp_eq C (tgt := 67) dX5_lend_30 (by decide) (fun c30_7 => ?_) (fun c30_7 => ?_)
  · skip
    have n_8 : b = o := (nI_eq (a := b) (b := o) (by omega) (by omega)).mp c30_7
    refine z_aload_n C dX5_lend_67 rfl 0 rfl ?_
    refine z_iconst C (v := 2) dX5_lend_68 (by decide) ?_
    refine z_callVi C (T := Unit) (As := [.int 2]) (rest := []) (ws' := fun _ => (wM md cI cZ acc flo pap clo net bnd frm too amt pri wai fst ldr bor lnt rat plg opn (nI mk) small (nI lm) price cut proc 2)) (m_fails l sa D cI cZ cL md acc flo pap clo net bnd frm too amt pri wai fst ldr bor lnt rat plg opn small price cut proc 0 mk lm 2 ) (cwV 1 C.2.2.2.2.1 gX5_lend_X5_fails rfl rfl rfl (by decide +kernel) ⟨Nat.le_of_ble_eq_true rfl, Nat.le_of_ble_eq_true rfl⟩) 0 rfl rfl rfl (fun _ => zSub.full) zIn.full rfl (Nat.le_of_ble_eq_true rfl) ⟨Nat.le_of_ble_eq_true rfl, Nat.le_of_ble_eq_true rfl⟩ dX5_lend_69 (fun r_9 _ h_10 => ?_)
    obtain rfl : r_9 = 0 := h_10
    exact z_iret C () rfl rfl (by decide) (by decide) dX5_lend_72
  · skip
    have n_11 : ¬ b = o := fun q => c30_7 ((nI_eq (a := b) (b := o) (by omega) (by omega)).mpr q)
    refine z_iload_n C dX5_lend_33 rfl 3 rfl ?_
    refine z_iconst C (v := 1) dX5_lend_34 (by decide) ?_
    refine z_ldc C m_X5_lend_k100 dX5_lend_35 ?_
    refine z_case (¬ am < 1 ∧ ¬ 100000 < am) (fun hp_12 => ?_) (fun hp_12 => ?_)
    · skip
      obtain ⟨_, _⟩ := hp_12
      refine z_callSi C (T := Unit) (As := [.int am, .int 1, .int 100000]) (rest := []) (ws' := fun _ => (wM md cI cZ acc flo pap clo net bnd frm too amt pri wai fst ldr bor lnt rat plg opn (nI mk) small (nI lm) price cut proc 0)) (m_in_y l sa D cI cZ cL  am 1 100000 (by first | assumption | omega) (by first | assumption | omega)) (va_cwS 3 C.2.2.2.2.1 gX5_lend_X5_in rfl rfl rfl (by decide +kernel) ⟨Nat.le_of_ble_eq_true rfl, Nat.le_of_ble_eq_true rfl⟩) (fun _ => zSub.none) zIn.none rfl (Nat.le_of_ble_eq_true rfl) ⟨Nat.le_of_ble_eq_true rfl, Nat.le_of_ble_eq_true rfl⟩ dX5_lend_37 (fun r_13 _ h_14 => ?_)
      obtain rfl : r_13 = 1 := h_14
      refine z_if_eq C (tgt := 67) dX5_lend_40 (by decide) (fun h => absurd h (by decide)) (fun _ => ?_)
      refine z_iload C dX5_lend_43 4 rfl ?_
      refine z_iconst C (v := 0) dX5_lend_45 (by decide) ?_
      refine z_sipush C (v := 200) dX5_lend_46 (by decide) ?_
      refine z_case (¬ rt < 0 ∧ ¬ 200 < rt) (fun hp_15 => ?_) (fun hp_15 => ?_)
      · skip
        obtain ⟨_, _⟩ := hp_15
        refine z_callSi C (T := Unit) (As := [.int rt, .int 0, .int 200]) (rest := []) (ws' := fun _ => (wM md cI cZ acc flo pap clo net bnd frm too amt pri wai fst ldr bor lnt rat plg opn (nI mk) small (nI lm) price cut proc 0)) (m_in_y l sa D cI cZ cL  rt 0 200 (by first | assumption | omega) (by first | assumption | omega)) (va_cwS 3 C.2.2.2.2.1 gX5_lend_X5_in rfl rfl rfl (by decide +kernel) ⟨Nat.le_of_ble_eq_true rfl, Nat.le_of_ble_eq_true rfl⟩) (fun _ => zSub.none) zIn.none rfl (Nat.le_of_ble_eq_true rfl) ⟨Nat.le_of_ble_eq_true rfl, Nat.le_of_ble_eq_true rfl⟩ dX5_lend_49 (fun r_16 _ h_17 => ?_)
        obtain rfl : r_16 = 1 := h_17
        refine z_if_eq C (tgt := 67) dX5_lend_52 (by decide) (fun h => absurd h (by decide)) (fun _ => ?_)
        refine z_iload C dX5_lend_55 5 rfl ?_
        refine z_iconst C (v := 0) dX5_lend_57 (by decide) ?_
        refine z_sipush C (v := 1000) dX5_lend_58 (by decide) ?_
        refine z_callSi C (T := Unit) (As := [.int x, .int 0, .int 1000]) (rest := []) (ws' := fun _ => (wM md cI cZ acc flo pap clo net bnd frm too amt pri wai fst ldr bor lnt rat plg opn (nI mk) small (nI lm) price cut proc 0)) (m_in_n l sa D cI cZ cL  x 0 1000 (by rcases hbad with h | h | h | h | h | h <;> first | contradiction | exact Or.inl h | exact Or.inr h)) (va_cwS 3 C.2.2.2.2.1 gX5_lend_X5_in rfl rfl rfl (by decide +kernel) ⟨Nat.le_of_ble_eq_true rfl, Nat.le_of_ble_eq_true rfl⟩) (fun _ => zSub.none) zIn.none rfl (Nat.le_of_ble_eq_true rfl) ⟨Nat.le_of_ble_eq_true rfl, Nat.le_of_ble_eq_true rfl⟩ dX5_lend_61 (fun r_18 _ h_19 => ?_)
        obtain rfl : r_18 = 0 := h_19
        refine z_if_ne C (tgt := 73) dX5_lend_64 (by decide) (fun h => absurd h (by decide)) (fun _ => ?_)
        refine z_aload_n C dX5_lend_67 rfl 0 rfl ?_
        refine z_iconst C (v := 2) dX5_lend_68 (by decide) ?_
        refine z_callVi C (T := Unit) (As := [.int 2]) (rest := []) (ws' := fun _ => (wM md cI cZ acc flo pap clo net bnd frm too amt pri wai fst ldr bor lnt rat plg opn (nI mk) small (nI lm) price cut proc 2)) (m_fails l sa D cI cZ cL md acc flo pap clo net bnd frm too amt pri wai fst ldr bor lnt rat plg opn small price cut proc 0 mk lm 2 ) (cwV 1 C.2.2.2.2.1 gX5_lend_X5_fails rfl rfl rfl (by decide +kernel) ⟨Nat.le_of_ble_eq_true rfl, Nat.le_of_ble_eq_true rfl⟩) 0 rfl rfl rfl (fun _ => zSub.full) zIn.full rfl (Nat.le_of_ble_eq_true rfl) ⟨Nat.le_of_ble_eq_true rfl, Nat.le_of_ble_eq_true rfl⟩ dX5_lend_69 (fun r_20 _ h_21 => ?_)
        obtain rfl : r_20 = 0 := h_21
        exact z_iret C () rfl rfl (by decide) (by decide) dX5_lend_72
      · skip
        have := z_rng hp_15
        refine z_callSi C (T := Unit) (As := [.int rt, .int 0, .int 200]) (rest := []) (ws' := fun _ => (wM md cI cZ acc flo pap clo net bnd frm too amt pri wai fst ldr bor lnt rat plg opn (nI mk) small (nI lm) price cut proc 0)) (m_in_n l sa D cI cZ cL  rt 0 200 (by first | assumption | omega)) (va_cwS 3 C.2.2.2.2.1 gX5_lend_X5_in rfl rfl rfl (by decide +kernel) ⟨Nat.le_of_ble_eq_true rfl, Nat.le_of_ble_eq_true rfl⟩) (fun _ => zSub.none) zIn.none rfl (Nat.le_of_ble_eq_true rfl) ⟨Nat.le_of_ble_eq_true rfl, Nat.le_of_ble_eq_true rfl⟩ dX5_lend_49 (fun r_22 _ h_23 => ?_)
        obtain rfl : r_22 = 0 := h_23
        refine z_if_eq C (tgt := 67) dX5_lend_52 (by decide) (fun _ => ?_) (fun h => absurd h (by decide))
        refine z_aload_n C dX5_lend_67 rfl 0 rfl ?_
        refine z_iconst C (v := 2) dX5_lend_68 (by decide) ?_
        refine z_callVi C (T := Unit) (As := [.int 2]) (rest := []) (ws' := fun _ => (wM md cI cZ acc flo pap clo net bnd frm too amt pri wai fst ldr bor lnt rat plg opn (nI mk) small (nI lm) price cut proc 2)) (m_fails l sa D cI cZ cL md acc flo pap clo net bnd frm too amt pri wai fst ldr bor lnt rat plg opn small price cut proc 0 mk lm 2 ) (cwV 1 C.2.2.2.2.1 gX5_lend_X5_fails rfl rfl rfl (by decide +kernel) ⟨Nat.le_of_ble_eq_true rfl, Nat.le_of_ble_eq_true rfl⟩) 0 rfl rfl rfl (fun _ => zSub.full) zIn.full rfl (Nat.le_of_ble_eq_true rfl) ⟨Nat.le_of_ble_eq_true rfl, Nat.le_of_ble_eq_true rfl⟩ dX5_lend_69 (fun r_24 _ h_25 => ?_)
        obtain rfl : r_24 = 0 := h_25
        exact z_iret C () rfl rfl (by decide) (by decide) dX5_lend_72
    · skip
      have := z_rng hp_12
      refine z_callSi C (T := Unit) (As := [.int am, .int 1, .int 100000]) (rest := []) (ws' := fun _ => (wM md cI cZ acc flo pap clo net bnd frm too amt pri wai fst ldr bor lnt rat plg opn (nI mk) small (nI lm) price cut proc 0)) (m_in_n l sa D cI cZ cL  am 1 100000 (by first | assumption | omega)) (va_cwS 3 C.2.2.2.2.1 gX5_lend_X5_in rfl rfl rfl (by decide +kernel) ⟨Nat.le_of_ble_eq_true rfl, Nat.le_of_ble_eq_true rfl⟩) (fun _ => zSub.none) zIn.none rfl (Nat.le_of_ble_eq_true rfl) ⟨Nat.le_of_ble_eq_true rfl, Nat.le_of_ble_eq_true rfl⟩ dX5_lend_37 (fun r_26 _ h_27 => ?_)
      obtain rfl : r_26 = 0 := h_27
      refine z_if_eq C (tgt := 67) dX5_lend_40 (by decide) (fun _ => ?_) (fun h => absurd h (by decide))
      refine z_aload_n C dX5_lend_67 rfl 0 rfl ?_
      refine z_iconst C (v := 2) dX5_lend_68 (by decide) ?_
      refine z_callVi C (T := Unit) (As := [.int 2]) (rest := []) (ws' := fun _ => (wM md cI cZ acc flo pap clo net bnd frm too amt pri wai fst ldr bor lnt rat plg opn (nI mk) small (nI lm) price cut proc 2)) (m_fails l sa D cI cZ cL md acc flo pap clo net bnd frm too amt pri wai fst ldr bor lnt rat plg opn small price cut proc 0 mk lm 2 ) (cwV 1 C.2.2.2.2.1 gX5_lend_X5_fails rfl rfl rfl (by decide +kernel) ⟨Nat.le_of_ble_eq_true rfl, Nat.le_of_ble_eq_true rfl⟩) 0 rfl rfl rfl (fun _ => zSub.full) zIn.full rfl (Nat.le_of_ble_eq_true rfl) ⟨Nat.le_of_ble_eq_true rfl, Nat.le_of_ble_eq_true rfl⟩ dX5_lend_69 (fun r_28 _ h_29 => ?_)
      obtain rfl : r_28 = 0 := h_29
      exact z_iret C () rfl rfl (by decide) (by decide) dX5_lend_72
set_option maxHeartbeats 4000000 in
set_option maxRecDepth 100000 in
theorem m_lend_b3 (l : Launch) (sa : Nat → Nat) (D : va_G) (cI cZ cL : ClassId) (md : Nat → Nat) (acc flo pap clo net bnd frm too amt pri wai fst ldr bor lnt rat plg opn : Nat → Int32) (small price cut proc thr : Int32) (mk lm : Nat) (b : Nat) (o : Nat) (am : Int32) (rt : Int32) (x : Int32) (hb : b < 5) (ho : o < 5) (hft : b ≠ o) (g1 : ¬ am < 1) (g2 : ¬ 100000 < am) (g3 : ¬ rt < 0) (g4 : ¬ 200 < rt) (g5 : ¬ x < 0) (g6 : ¬ 1000 < x) (p1 : ¬ price < 1) (p2 : ¬ 1000 < price) (q1 : ¬ cut < 0) (q2 : ¬ 1000 < cut) (hlm : lm ≤ 40) (hbad : ¬ (clo b = 0 ∧ clo o = 0 ∧ lm < 40 ∧ ¬ pap o < x ∧ ¬ x * price * (1000 - cut) / 1000 < am ∧ ¬ acc b - am < flo b)) : zMi (T := Unit) sa D vwCl (zty cI cZ cL) l yX5_lend wsX5_lend ({ frames := 1, cells := 0, slots := 0, locals := 22 } : Room) [.ref (md 0), .int (nI b), .int (nI o), .int am, .int rt, .int x] (wM md cI cZ acc flo pap clo net bnd frm too amt pri wai fst ldr bor lnt rat plg opn (nI mk) small (nI lm) price cut proc thr) (fun r9 _ => r9 = 0) (fun _ => (wM md cI cZ acc flo pap clo net bnd frm too amt pri wai fst ldr bor lnt rat plg opn (nI mk) small (nI lm) price cut proc 3)) 0 0 := by
  refine zMi.of (ret := (some .int)) (cc := cX5_lend) (nL := 8) (own := RX5) (by decide +kernel) rfl [(0, .ref (md 0)), (1, .int (nI b)), (2, .int (nI o)), (3, .int am), (4, .int rt), (5, .int x)] rfl (Nat.le_of_ble_eq_true rfl) rfl ?_
  intro A p e s m args below meth c C hmn
  refine z_aload_n C dX5_lend_0 rfl 0 rfl ?_
  refine z_iload_n C dX5_lend_1 rfl 1 rfl ?_
  refine z_callSi C (T := Unit) (As := [.int (nI b)]) (rest := [.ref (md 0)]) (ws' := fun _ => (wM md cI cZ acc flo pap clo net bnd frm too amt pri wai fst ldr bor lnt rat plg opn (nI mk) small (nI lm) price cut proc thr)) (m_isBank_y l sa D cI cZ cL  b (by first | assumption | omega)) (va_cwS 1 C.2.2.2.2.1 gX5_lend_X5_isBank rfl rfl rfl (by decide +kernel) ⟨Nat.le_of_ble_eq_true rfl, Nat.le_of_ble_eq_true rfl⟩) (fun _ => zSub.none) zIn.none rfl (Nat.le_of_ble_eq_true rfl) ⟨Nat.le_of_ble_eq_true rfl, Nat.le_of_ble_eq_true rfl⟩ dX5_lend_2 (fun r_1 _ h_2 => ?_)
  obtain rfl : r_1 = 1 := h_2
  refine z_if_eq C (tgt := 19) dX5_lend_5 (by decide) (fun h => absurd h (by decide)) (fun _ => ?_)
  refine z_iload_n C dX5_lend_8 rfl 2 rfl ?_
  refine z_callSi C (T := Unit) (As := [.int (nI o)]) (rest := [.ref (md 0)]) (ws' := fun _ => (wM md cI cZ acc flo pap clo net bnd frm too amt pri wai fst ldr bor lnt rat plg opn (nI mk) small (nI lm) price cut proc thr)) (m_isBank_y l sa D cI cZ cL  o (by first | assumption | omega)) (va_cwS 1 C.2.2.2.2.1 gX5_lend_X5_isBank rfl rfl rfl (by decide +kernel) ⟨Nat.le_of_ble_eq_true rfl, Nat.le_of_ble_eq_true rfl⟩) (fun _ => zSub.none) zIn.none rfl (Nat.le_of_ble_eq_true rfl) ⟨Nat.le_of_ble_eq_true rfl, Nat.le_of_ble_eq_true rfl⟩ dX5_lend_9 (fun r_3 _ h_4 => ?_)
  obtain rfl : r_3 = 1 := h_4
  refine z_if_eq C (tgt := 19) dX5_lend_12 (by decide) (fun h => absurd h (by decide)) (fun _ => ?_)
  refine z_iconst C (v := 1) dX5_lend_15 (by decide) ?_
  refine z_goto C (tgt := 20) dX5_lend_16 (by decide) ?_
  refine z_callVi C (T := Unit) (As := [.int 1]) (rest := []) (ws' := fun _ => (wM md cI cZ acc flo pap clo net bnd frm too amt pri wai fst ldr bor lnt rat plg opn (nI mk) small (nI lm) price cut proc 0)) (m_asks_y l sa D cI cZ cL md acc flo pap clo net bnd frm too amt pri wai fst ldr bor lnt rat plg opn small price cut proc thr mk lm  ) (cwV 1 C.2.2.2.2.1 gX5_lend_X5_asks rfl rfl rfl (by decide +kernel) ⟨Nat.le_of_ble_eq_true rfl, Nat.le_of_ble_eq_true rfl⟩) 0 rfl rfl rfl (fun _ => zSub.full) zIn.full rfl (Nat.le_of_ble_eq_true rfl) ⟨Nat.le_of_ble_eq_true rfl, Nat.le_of_ble_eq_true rfl⟩ dX5_lend_20 (fun r_5 _ h_6 => ?_)
  obtain rfl : r_5 = 1 := h_6
  refine z_if_ne C (tgt := 28) dX5_lend_23 (by decide) (fun _ => ?_) (fun h => absurd h (by decide))
  refine z_iload_n C dX5_lend_28 rfl 1 rfl ?_
  refine z_iload_n C dX5_lend_29 rfl 2 rfl ?_
  refine z_icmp_eq C (tgt := 67) dX5_lend_30 (by decide) (fun c30_7 => ?_) (fun c30_7 => ?_)
  · skip
    have n_8 : b = o := (nI_eq (a := b) (b := o) (by omega) (by omega)).mp c30_7
    exfalso
    omega
  · skip
    have n_9 : ¬ b = o := fun q => c30_7 ((nI_eq (a := b) (b := o) (by omega) (by omega)).mpr q)
    refine z_iload_n C dX5_lend_33 rfl 3 rfl ?_
    refine z_iconst C (v := 1) dX5_lend_34 (by decide) ?_
    refine z_ldc C m_X5_lend_k100 dX5_lend_35 ?_
    refine z_callSi C (T := Unit) (As := [.int am, .int 1, .int 100000]) (rest := []) (ws' := fun _ => (wM md cI cZ acc flo pap clo net bnd frm too amt pri wai fst ldr bor lnt rat plg opn (nI mk) small (nI lm) price cut proc 0)) (m_in_y l sa D cI cZ cL  am 1 100000 (by first | assumption | omega) (by first | assumption | omega)) (va_cwS 3 C.2.2.2.2.1 gX5_lend_X5_in rfl rfl rfl (by decide +kernel) ⟨Nat.le_of_ble_eq_true rfl, Nat.le_of_ble_eq_true rfl⟩) (fun _ => zSub.none) zIn.none rfl (Nat.le_of_ble_eq_true rfl) ⟨Nat.le_of_ble_eq_true rfl, Nat.le_of_ble_eq_true rfl⟩ dX5_lend_37 (fun r_10 _ h_11 => ?_)
    obtain rfl : r_10 = 1 := h_11
    refine z_if_eq C (tgt := 67) dX5_lend_40 (by decide) (fun h => absurd h (by decide)) (fun _ => ?_)
    refine z_iload C dX5_lend_43 4 rfl ?_
    refine z_iconst C (v := 0) dX5_lend_45 (by decide) ?_
    refine z_sipush C (v := 200) dX5_lend_46 (by decide) ?_
    refine z_callSi C (T := Unit) (As := [.int rt, .int 0, .int 200]) (rest := []) (ws' := fun _ => (wM md cI cZ acc flo pap clo net bnd frm too amt pri wai fst ldr bor lnt rat plg opn (nI mk) small (nI lm) price cut proc 0)) (m_in_y l sa D cI cZ cL  rt 0 200 (by first | assumption | omega) (by first | assumption | omega)) (va_cwS 3 C.2.2.2.2.1 gX5_lend_X5_in rfl rfl rfl (by decide +kernel) ⟨Nat.le_of_ble_eq_true rfl, Nat.le_of_ble_eq_true rfl⟩) (fun _ => zSub.none) zIn.none rfl (Nat.le_of_ble_eq_true rfl) ⟨Nat.le_of_ble_eq_true rfl, Nat.le_of_ble_eq_true rfl⟩ dX5_lend_49 (fun r_12 _ h_13 => ?_)
    obtain rfl : r_12 = 1 := h_13
    refine z_if_eq C (tgt := 67) dX5_lend_52 (by decide) (fun h => absurd h (by decide)) (fun _ => ?_)
    refine z_iload C dX5_lend_55 5 rfl ?_
    refine z_iconst C (v := 0) dX5_lend_57 (by decide) ?_
    refine z_sipush C (v := 1000) dX5_lend_58 (by decide) ?_
    refine z_callSi C (T := Unit) (As := [.int x, .int 0, .int 1000]) (rest := []) (ws' := fun _ => (wM md cI cZ acc flo pap clo net bnd frm too amt pri wai fst ldr bor lnt rat plg opn (nI mk) small (nI lm) price cut proc 0)) (m_in_y l sa D cI cZ cL  x 0 1000 (by first | assumption | omega) (by first | assumption | omega)) (va_cwS 3 C.2.2.2.2.1 gX5_lend_X5_in rfl rfl rfl (by decide +kernel) ⟨Nat.le_of_ble_eq_true rfl, Nat.le_of_ble_eq_true rfl⟩) (fun _ => zSub.none) zIn.none rfl (Nat.le_of_ble_eq_true rfl) ⟨Nat.le_of_ble_eq_true rfl, Nat.le_of_ble_eq_true rfl⟩ dX5_lend_61 (fun r_14 _ h_15 => ?_)
    obtain rfl : r_14 = 1 := h_15
    refine z_if_ne C (tgt := 73) dX5_lend_64 (by decide) (fun _ => ?_) (fun h => absurd h (by decide))
    refine z_iload C dX5_lend_73 5 rfl ?_
    refine z_i2l C (v := x.toInt64) dX5_lend_75 rfl ?_
    refine z_aload_n C dX5_lend_76 rfl 0 rfl ?_
    refine z_get C 0 rfl i_X5_lend_X5 rfl 21 (by decide) m_X5_lend_f69 rfl rfl dX5_lend_77 ?_
    refine z_i2l C (v := price.toInt64) dX5_lend_80 rfl ?_
    refine z_lmul C (v := (x.toInt64 * price.toInt64)) dX5_lend_81 rfl ?_
    refine z_sipush C (v := 1000) dX5_lend_82 (by decide) ?_
    refine z_aload_n C dX5_lend_85 rfl 0 rfl ?_
    refine z_get C 0 rfl i_X5_lend_X5 rfl 22 (by decide) m_X5_lend_f72 rfl rfl dX5_lend_86 ?_
    refine z_isub C (v := (1000 - cut)) dX5_lend_89 rfl ?_
    refine z_i2l C (v := (1000 - cut).toInt64) dX5_lend_90 rfl ?_
    refine z_lmul C (v := ((x.toInt64 * price.toInt64) * (1000 - cut).toInt64)) dX5_lend_91 rfl ?_
    refine z_ldc2 C m_X5_lend_k142 dX5_lend_92 ?_
    refine z_ldiv C (v := (((x.toInt64 * price.toInt64) * (1000 - cut).toInt64) / 1000)) dX5_lend_95 (by decide) rfl ?_
    refine z_lstore C dX5_lend_96 (by decide) [(0, .ref (md 0)), (1, .int (nI b)), (2, .int (nI o)), (3, .int am), (4, .int rt), (5, .int x), (6, .long (((x.toInt64 * price.toInt64) * (1000 - cut).toInt64) / 1000))] [1, 2, 3, 4, 5, 6, 0] rfl ?_
    refine z_aload_n C dX5_lend_98 rfl 0 rfl ?_
    refine z_get C 0 rfl i_X5_lend_X5 rfl 3 (by decide) m_X5_lend_f19 rfl rfl dX5_lend_99 ?_
    refine z_iload_n C dX5_lend_102 rfl 1 rfl ?_
    refine z_zald C 4 1 rfl rfl b (nI_clamp (by omega)) (vp_in_nI (by omega) (by omega)) (clo b) rfl dX5_lend_103 ?_
    refine z_if_ne C (tgt := 161) dX5_lend_104 (by decide) (fun c104_16 => ?_) (fun c104_16 => ?_)
    · skip
      refine z_aload_n C dX5_lend_161 rfl 0 rfl ?_
      refine z_iconst C (v := 3) dX5_lend_162 (by decide) ?_
      refine z_callVi C (T := Unit) (As := [.int 3]) (rest := []) (ws' := fun _ => (wM md cI cZ acc flo pap clo net bnd frm too amt pri wai fst ldr bor lnt rat plg opn (nI mk) small (nI lm) price cut proc 3)) (m_fails l sa D cI cZ cL md acc flo pap clo net bnd frm too amt pri wai fst ldr bor lnt rat plg opn small price cut proc 0 mk lm 3 ) (cwV 1 C.2.2.2.2.1 gX5_lend_X5_fails rfl rfl rfl (by decide +kernel) ⟨Nat.le_of_ble_eq_true rfl, Nat.le_of_ble_eq_true rfl⟩) 0 rfl rfl rfl (fun _ => zSub.full) zIn.full rfl (Nat.le_of_ble_eq_true rfl) ⟨Nat.le_of_ble_eq_true rfl, Nat.le_of_ble_eq_true rfl⟩ dX5_lend_163 (fun r_17 _ h_18 => ?_)
      obtain rfl : r_17 = 0 := h_18
      exact z_iret C () rfl rfl (by decide) (by decide) dX5_lend_166
    · skip
      refine z_aload_n C dX5_lend_107 rfl 0 rfl ?_
      refine z_get C 0 rfl i_X5_lend_X5 rfl 3 (by decide) m_X5_lend_f19 rfl rfl dX5_lend_108 ?_
      refine z_iload_n C dX5_lend_111 rfl 2 rfl ?_
      refine z_zald C 4 1 rfl rfl o (nI_clamp (by omega)) (vp_in_nI (by omega) (by omega)) (clo o) rfl dX5_lend_112 ?_
      refine z_if_ne C (tgt := 161) dX5_lend_113 (by decide) (fun c113_19 => ?_) (fun c113_19 => ?_)
      · skip
        refine z_aload_n C dX5_lend_161 rfl 0 rfl ?_
        refine z_iconst C (v := 3) dX5_lend_162 (by decide) ?_
        refine z_callVi C (T := Unit) (As := [.int 3]) (rest := []) (ws' := fun _ => (wM md cI cZ acc flo pap clo net bnd frm too amt pri wai fst ldr bor lnt rat plg opn (nI mk) small (nI lm) price cut proc 3)) (m_fails l sa D cI cZ cL md acc flo pap clo net bnd frm too amt pri wai fst ldr bor lnt rat plg opn small price cut proc 0 mk lm 3 ) (cwV 1 C.2.2.2.2.1 gX5_lend_X5_fails rfl rfl rfl (by decide +kernel) ⟨Nat.le_of_ble_eq_true rfl, Nat.le_of_ble_eq_true rfl⟩) 0 rfl rfl rfl (fun _ => zSub.full) zIn.full rfl (Nat.le_of_ble_eq_true rfl) ⟨Nat.le_of_ble_eq_true rfl, Nat.le_of_ble_eq_true rfl⟩ dX5_lend_163 (fun r_20 _ h_21 => ?_)
        obtain rfl : r_20 = 0 := h_21
        exact z_iret C () rfl rfl (by decide) (by decide) dX5_lend_166
      · skip
        refine z_aload_n C dX5_lend_116 rfl 0 rfl ?_
        refine z_get C 0 rfl i_X5_lend_X5 rfl 14 (by decide) m_X5_lend_f144 rfl rfl dX5_lend_117 ?_
        refine z_bipush C (v := 40) dX5_lend_120 (by decide) ?_
        refine z_icmp_eq C (tgt := 161) dX5_lend_122 (by decide) (fun c122_22 => ?_) (fun c122_22 => ?_)
        · skip
          have n_23 : lm = 40 := (nI_eq (a := lm) (b := 40) (by omega) (by omega)).mp c122_22
          refine z_aload_n C dX5_lend_161 rfl 0 rfl ?_
          refine z_iconst C (v := 3) dX5_lend_162 (by decide) ?_
          refine z_callVi C (T := Unit) (As := [.int 3]) (rest := []) (ws' := fun _ => (wM md cI cZ acc flo pap clo net bnd frm too amt pri wai fst ldr bor lnt rat plg opn (nI mk) small (nI lm) price cut proc 3)) (m_fails l sa D cI cZ cL md acc flo pap clo net bnd frm too amt pri wai fst ldr bor lnt rat plg opn small price cut proc 0 mk lm 3 ) (cwV 1 C.2.2.2.2.1 gX5_lend_X5_fails rfl rfl rfl (by decide +kernel) ⟨Nat.le_of_ble_eq_true rfl, Nat.le_of_ble_eq_true rfl⟩) 0 rfl rfl rfl (fun _ => zSub.full) zIn.full rfl (Nat.le_of_ble_eq_true rfl) ⟨Nat.le_of_ble_eq_true rfl, Nat.le_of_ble_eq_true rfl⟩ dX5_lend_163 (fun r_24 _ h_25 => ?_)
          obtain rfl : r_24 = 0 := h_25
          exact z_iret C () rfl rfl (by decide) (by decide) dX5_lend_166
        · skip
          have n_26 : ¬ lm = 40 := fun q => c122_22 ((nI_eq (a := lm) (b := 40) (by omega) (by omega)).mpr q)
          refine z_aload_n C dX5_lend_125 rfl 0 rfl ?_
          refine z_get C 0 rfl i_X5_lend_X5 rfl 2 (by decide) m_X5_lend_f16 rfl rfl dX5_lend_126 ?_
          refine z_iload_n C dX5_lend_129 rfl 2 rfl ?_
          refine z_iald C 3 0 rfl rfl o (nI_clamp (by omega)) (vp_in_nI (by omega) (by omega)) (pap o) rfl dX5_lend_130 ?_
          refine z_iload C dX5_lend_131 5 rfl ?_
          refine z_icmp_lt C (tgt := 161) dX5_lend_133 (by decide) (fun c133_27 => ?_) (fun c133_27 => ?_)
          · skip
            refine z_aload_n C dX5_lend_161 rfl 0 rfl ?_
            refine z_iconst C (v := 3) dX5_lend_162 (by decide) ?_
            refine z_callVi C (T := Unit) (As := [.int 3]) (rest := []) (ws' := fun _ => (wM md cI cZ acc flo pap clo net bnd frm too amt pri wai fst ldr bor lnt rat plg opn (nI mk) small (nI lm) price cut proc 3)) (m_fails l sa D cI cZ cL md acc flo pap clo net bnd frm too amt pri wai fst ldr bor lnt rat plg opn small price cut proc 0 mk lm 3 ) (cwV 1 C.2.2.2.2.1 gX5_lend_X5_fails rfl rfl rfl (by decide +kernel) ⟨Nat.le_of_ble_eq_true rfl, Nat.le_of_ble_eq_true rfl⟩) 0 rfl rfl rfl (fun _ => zSub.full) zIn.full rfl (Nat.le_of_ble_eq_true rfl) ⟨Nat.le_of_ble_eq_true rfl, Nat.le_of_ble_eq_true rfl⟩ dX5_lend_163 (fun r_28 _ h_29 => ?_)
            obtain rfl : r_28 = 0 := h_29
            exact z_iret C () rfl rfl (by decide) (by decide) dX5_lend_166
          · skip
            refine z_lload C dX5_lend_136 6 rfl ?_
            refine z_iload_n C dX5_lend_138 rfl 3 rfl ?_
            refine z_i2l C (v := am.toInt64) dX5_lend_139 rfl ?_
            refine z_lcmp_lt C dX5_lend_140 (tgt := 161) dX5_lend_141 (by decide) (fun c140_30 => ?_) (fun c140_30 => ?_)
            · skip
              refine z_aload_n C dX5_lend_161 rfl 0 rfl ?_
              refine z_iconst C (v := 3) dX5_lend_162 (by decide) ?_
              refine z_callVi C (T := Unit) (As := [.int 3]) (rest := []) (ws' := fun _ => (wM md cI cZ acc flo pap clo net bnd frm too amt pri wai fst ldr bor lnt rat plg opn (nI mk) small (nI lm) price cut proc 3)) (m_fails l sa D cI cZ cL md acc flo pap clo net bnd frm too amt pri wai fst ldr bor lnt rat plg opn small price cut proc 0 mk lm 3 ) (cwV 1 C.2.2.2.2.1 gX5_lend_X5_fails rfl rfl rfl (by decide +kernel) ⟨Nat.le_of_ble_eq_true rfl, Nat.le_of_ble_eq_true rfl⟩) 0 rfl rfl rfl (fun _ => zSub.full) zIn.full rfl (Nat.le_of_ble_eq_true rfl) ⟨Nat.le_of_ble_eq_true rfl, Nat.le_of_ble_eq_true rfl⟩ dX5_lend_163 (fun r_31 _ h_32 => ?_)
              obtain rfl : r_31 = 0 := h_32
              exact z_iret C () rfl rfl (by decide) (by decide) dX5_lend_166
            · skip
              refine z_aload_n C dX5_lend_144 rfl 0 rfl ?_
              refine z_get C 0 rfl i_X5_lend_X5 rfl 0 (by decide) m_X5_lend_f7 rfl rfl dX5_lend_145 ?_
              refine z_iload_n C dX5_lend_148 rfl 1 rfl ?_
              refine z_iald C 1 0 rfl rfl b (nI_clamp (by omega)) (vp_in_nI (by omega) (by omega)) (acc b) rfl dX5_lend_149 ?_
              refine z_iload_n C dX5_lend_150 rfl 3 rfl ?_
              refine z_isub C (v := ((acc b) - am)) dX5_lend_151 rfl ?_
              refine z_aload_n C dX5_lend_152 rfl 0 rfl ?_
              refine z_get C 0 rfl i_X5_lend_X5 rfl 1 (by decide) m_X5_lend_f13 rfl rfl dX5_lend_153 ?_
              refine z_iload_n C dX5_lend_156 rfl 1 rfl ?_
              refine z_iald C 2 0 rfl rfl b (nI_clamp (by omega)) (vp_in_nI (by omega) (by omega)) (flo b) rfl dX5_lend_157 ?_
              refine z_icmp_ge C (tgt := 167) dX5_lend_158 (by decide) (fun c158_33 => ?_) (fun c158_33 => ?_)
              · skip
                exfalso
                exact hbad ⟨by assumption, by assumption, by omega, by assumption, fun h => by have := (z_worth g5 g6 p1 p2 q1 q2 g1).mpr h; contradiction, Int32.not_lt.mpr (by assumption)⟩
              · skip
                refine z_aload_n C dX5_lend_161 rfl 0 rfl ?_
                refine z_iconst C (v := 3) dX5_lend_162 (by decide) ?_
                refine z_callVi C (T := Unit) (As := [.int 3]) (rest := []) (ws' := fun _ => (wM md cI cZ acc flo pap clo net bnd frm too amt pri wai fst ldr bor lnt rat plg opn (nI mk) small (nI lm) price cut proc 3)) (m_fails l sa D cI cZ cL md acc flo pap clo net bnd frm too amt pri wai fst ldr bor lnt rat plg opn small price cut proc 0 mk lm 3 ) (cwV 1 C.2.2.2.2.1 gX5_lend_X5_fails rfl rfl rfl (by decide +kernel) ⟨Nat.le_of_ble_eq_true rfl, Nat.le_of_ble_eq_true rfl⟩) 0 rfl rfl rfl (fun _ => zSub.full) zIn.full rfl (Nat.le_of_ble_eq_true rfl) ⟨Nat.le_of_ble_eq_true rfl, Nat.le_of_ble_eq_true rfl⟩ dX5_lend_163 (fun r_34 _ h_35 => ?_)
                obtain rfl : r_34 = 0 := h_35
                exact z_iret C () rfl rfl (by decide) (by decide) dX5_lend_166
