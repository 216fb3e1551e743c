theorem m_X3_move_f9 : Cond.fieldLink RX3 9 "Queuefloat$Sums" "accountOf" "[I" ∈ wsX3_move := by decide +kernel
theorem i_X3_move_X3 : ∀ w ∈ wsX30, w ∈ wsX3_move := by decide +kernel
theorem m_X3_notePaid_f15 : Cond.fieldLink RX3 15 "Queuefloat$Sums" "netPaid" "[I" ∈ wsX3_notePaid := by decide +kernel
theorem i_X3_notePaid_X3 : ∀ w ∈ wsX30, w ∈ wsX3_notePaid := by decide +kernel
theorem m_X3_notePaid_nX4 : Cond.initialized RX4 ∈ wsX3_notePaid := by decide +kernel
theorem m_X3_notePaid_spairOf : Cond.static yX4_pairOf ∈ wsX3_notePaid := by decide +kernel
theorem m_X3_forgetPaid_f15 : Cond.fieldLink RX3 15 "Queuefloat$Sums" "netPaid" "[I" ∈ wsX3_forgetPaid := by decide +kernel
theorem i_X3_forgetPaid_X3 : ∀ w ∈ wsX30, w ∈ wsX3_forgetPaid := by decide +kernel
theorem m_X2_apply_f9 : Cond.fieldLink RX2 9 "Queuefloat$Payments" "from" "[I" ∈ wsX2_apply := by decide +kernel
theorem i_X2_apply_X2 : ∀ w ∈ wsX20, w ∈ wsX2_apply := by decide +kernel
theorem m_X2_apply_f15 : Cond.fieldLink RX2 15 "Queuefloat$Payments" "to" "[I" ∈ wsX2_apply := by decide +kernel
theorem m_X2_apply_f18 : Cond.fieldLink RX2 18 "Queuefloat$Payments" "amount" "[I" ∈ wsX2_apply := by decide +kernel
theorem m_X2_countWaiting_f31 : Cond.fieldLink RX2 31 "Queuefloat$Payments" "made" "I" ∈ wsX2_countWaiting := by decide +kernel
theorem i_X2_countWaiting_X2 : ∀ w ∈ wsX20, w ∈ wsX2_countWaiting := by decide +kernel
theorem m_X2_countWaiting_f24 : Cond.fieldLink RX2 24 "Queuefloat$Payments" "waits" "[Z" ∈ wsX2_countWaiting := by decide +kernel
theorem m_X2_dropAllOf_f31 : Cond.fieldLink RX2 31 "Queuefloat$Payments" "made" "I" ∈ wsX2_dropAllOf := by decide +kernel
theorem i_X2_dropAllOf_X2 : ∀ w ∈ wsX20, w ∈ wsX2_dropAllOf := by decide +kernel
theorem m_X2_dropAllOf_f9 : Cond.fieldLink RX2 9 "Queuefloat$Payments" "from" "[I" ∈ wsX2_dropAllOf := by decide +kernel
theorem m_X2_dropAllOf_f24 : Cond.fieldLink RX2 24 "Queuefloat$Payments" "waits" "[Z" ∈ wsX2_dropAllOf := by decide +kernel
theorem m_X2_dropAllOf_f15 : Cond.fieldLink RX2 15 "Queuefloat$Payments" "to" "[I" ∈ wsX2_dropAllOf := by decide +kernel
theorem m_X2_waitsAt_f24 : Cond.fieldLink RX2 24 "Queuefloat$Payments" "waits" "[Z" ∈ wsX2_waitsAt := by decide +kernel
theorem i_X2_waitsAt_X2 : ∀ w ∈ wsX20, w ∈ wsX2_waitsAt := by decide +kernel
theorem m_X2_waitsAt_f9 : Cond.fieldLink RX2 9 "Queuefloat$Payments" "from" "[I" ∈ wsX2_waitsAt := by decide +kernel
theorem m_X2_inQueue_f31 : Cond.fieldLink RX2 31 "Queuefloat$Payments" "made" "I" ∈ wsX2_inQueue := by decide +kernel
theorem i_X2_inQueue_X2 : ∀ w ∈ wsX20, w ∈ wsX2_inQueue := by decide +kernel
theorem m_X2_inQueue_f28 : Cond.fieldLink RX2 28 "Queuefloat$Payments" "byPriority" "[I" ∈ wsX2_inQueue := by decide +kernel
set_option maxHeartbeats 4000000 in
set_option maxRecDepth 100000 in
theorem c_X4_pairOf (l : Launch) (sa : Nat → Nat) (D : va_G) (cI cZ cL : ClassId)  (a : Nat) (b : Nat)  : zMi (T := Unit) sa D vwCl (zty cI cZ cL) l yX4_pairOf wsX4_pairOf ({ frames := 0, cells := 0, slots := 0, locals := 0 } : Room) [.int (nI a), .int (nI b)] [] (fun r9 _ => r9 = (nI (a * 5 + b))) (fun _ => []) 0 0 := by
  refine zMi.of (ret := (some .int)) (cc := cX4_pairOf) (nL := 2) (own := RX4) (by decide +kernel) rfl [(0, .int (nI a)), (1, .int (nI b))] rfl (Nat.le_of_ble_eq_true rfl) rfl ?_
  intro A p e s m args below meth c C hmn
  refine z_iload_n C dX4_pairOf_0 rfl 0 rfl ?_
  refine z_iconst C (v := 5) dX4_pairOf_1 (by decide) ?_
  refine z_imul C (v := (nI (a * 5))) dX4_pairOf_2 (pk_mul a 5) ?_
  refine z_iload_n C dX4_pairOf_3 rfl 1 rfl ?_
  refine z_iadd C (v := (nI ((a * 5) + b))) dX4_pairOf_4 (nI_add (a * 5) b) ?_
  exact z_iret C () rfl rfl (by decide) (by decide) dX4_pairOf_5
set_option maxHeartbeats 4000000 in
set_option maxRecDepth 100000 in
theorem c_X3_move (l : Launch) (sa : Nat → Nat) (D : va_G) (cI cZ cL : ClassId) (h0 h1 h2 : Nat) (acc net : Nat → Int32) (f : Nat) (t : Nat) (x : Int32) (hf : f < 5) (ht : t < 5) : zMv (T := Unit) sa D vwCl (zty cI cZ cL) l yX3_move wsX3_move ({ frames := 0, cells := 0, slots := 0, locals := 0 } : Room) [.ref h0, .int (nI f), .int (nI t), .int x] [(h0, .inr (3, [.ref h1, .ref h2])), (h1, .inl (cI, 5, .inl acc)), (h2, .inl (cI, 25, .inl net))] (fun _ => True) (fun _ => [(h0, .inr (3, [.ref h1, .ref h2])), (h1, .inl (cI, 5, .inl (mvA f t x acc))), (h2, .inl (cI, 25, .inl net))]) 0 0 := by
  refine zMv.of (ret := none) (cc := cX3_move) (nL := 4) (own := RX3) (by decide +kernel) rfl [(0, .ref h0), (1, .int (nI f)), (2, .int (nI t)), (3, .int x)] rfl (Nat.le_of_ble_eq_true rfl) rfl ?_
  intro A p e s m args below meth c C hmn
  refine z_aload_n C dX3_move_0 rfl 0 rfl ?_
  refine z_get C 0 rfl i_X3_move_X3 rfl 0 (by decide) m_X3_move_f9 rfl rfl dX3_move_1 ?_
  refine z_iload_n C dX3_move_4 rfl 1 rfl ?_
  refine z_dup2 C dX3_move_5 rfl rfl ?_
  refine z_iald C 1 0 rfl rfl f (nI_clamp (by omega)) (vp_in_nI (by omega) (by omega)) (acc f) rfl dX3_move_6 ?_
  refine z_iload_n C dX3_move_7 rfl 3 rfl ?_
  refine z_isub C (v := ((acc f) - x)) dX3_move_8 rfl ?_
  refine z_iast C 1 0 rfl rfl f (nI_clamp (by omega)) (vp_in_nI (by omega) (by omega)) ((acc f) - x) rfl dX3_move_9 [(h0, .inr (3, [.ref h1, .ref h2])), (h1, .inl (cI, 5, .inl (upd acc f ((acc f) - x)))), (h2, .inl (cI, 25, .inl net))] rfl ?_
  refine z_aload_n C dX3_move_10 rfl 0 rfl ?_
  refine z_get C 0 rfl i_X3_move_X3 rfl 0 (by decide) m_X3_move_f9 rfl rfl dX3_move_11 ?_
  refine z_iload_n C dX3_move_14 rfl 2 rfl ?_
  refine z_dup2 C dX3_move_15 rfl rfl ?_
  refine z_iald C 1 0 rfl rfl t (nI_clamp (by omega)) (vp_in_nI (by omega) (by omega)) ((upd acc f ((acc f) - x)) t) rfl dX3_move_16 ?_
  refine z_iload_n C dX3_move_17 rfl 3 rfl ?_
  refine z_iadd C (v := (((upd acc f ((acc f) - x)) t) + x)) dX3_move_18 rfl ?_
  refine z_iast C 1 0 rfl rfl t (nI_clamp (by omega)) (vp_in_nI (by omega) (by omega)) (((upd acc f ((acc f) - x)) t) + x) rfl dX3_move_19 [(h0, .inr (3, [.ref h1, .ref h2])), (h1, .inl (cI, 5, .inl (upd (upd acc f ((acc f) - x)) t (((upd acc f ((acc f) - x)) t) + x)))), (h2, .inl (cI, 25, .inl net))] rfl ?_
  exact z_vret C () (by exact trivial) rfl (by decide) (by decide) dX3_move_20
set_option maxHeartbeats 4000000 in
set_option maxRecDepth 100000 in
theorem c_X3_notePaid (l : Launch) (sa : Nat → Nat) (D : va_G) (cI cZ cL : ClassId) (h0 h1 h2 : Nat) (acc net : Nat → Int32) (f : Nat) (t : Nat) (x : Int32) (hf : f < 5) (ht : t < 5) : zMv (T := Unit) sa D vwCl (zty cI cZ cL) l yX3_notePaid wsX3_notePaid ({ frames := 1, cells := 0, slots := 0, locals := 21 } : Room) [.ref h0, .int (nI f), .int (nI t), .int x] [(h0, .inr (3, [.ref h1, .ref h2])), (h1, .inl (cI, 5, .inl acc)), (h2, .inl (cI, 25, .inl net))] (fun _ => True) (fun _ => [(h0, .inr (3, [.ref h1, .ref h2])), (h1, .inl (cI, 5, .inl acc)), (h2, .inl (cI, 25, .inl (mvN f t x net)))]) 0 0 := by
  refine zMv.of (ret := none) (cc := cX3_notePaid) (nL := 4) (own := RX3) (by decide +kernel) rfl [(0, .ref h0), (1, .int (nI f)), (2, .int (nI t)), (3, .int x)] rfl (Nat.le_of_ble_eq_true rfl) rfl ?_
  intro A p e s m args below meth c C hmn
  refine z_aload_n C dX3_notePaid_0 rfl 0 rfl ?_
  refine z_get C 0 rfl i_X3_notePaid_X3 rfl 1 (by decide) m_X3_notePaid_f15 rfl rfl dX3_notePaid_1 ?_
  refine z_iload_n C dX3_notePaid_4 rfl 1 rfl ?_
  refine z_iload_n C dX3_notePaid_5 rfl 2 rfl ?_
  refine z_callSNi C (T := Unit) (As := [.int (nI f), .int (nI t)]) (rest := [.ref h2]) (ws' := fun _ => [(h0, .inr (3, [.ref h1, .ref h2])), (h1, .inl (cI, 5, .inl acc)), (h2, .inl (cI, 25, .inl net))]) (c_X4_pairOf l sa D cI cZ cL  f t ) ⟨va_cnB 2 C.2.2.2.2.1 gX3_notePaid_X4_pairOf_n18 rfl rfl rfl C.2.2.2.2.2.2.2.1.2.1 (C.2.2.2.2.1 _ m_X3_notePaid_nX4) (by decide +kernel) ⟨Nat.le_of_ble_eq_true rfl, Nat.le_of_ble_eq_true rfl⟩, C.2.2.2.2.1 _ m_X3_notePaid_spairOf, trivial⟩ (fun _ => zSub.none) zIn.none rfl (Nat.le_of_ble_eq_true rfl) ⟨Nat.le_of_ble_eq_true rfl, Nat.le_of_ble_eq_true rfl⟩ dX3_notePaid_6 (fun r_1 _ h_2 => ?_)
  obtain rfl : r_1 = (nI (f * 5 + t)) := h_2
  refine z_dup2 C dX3_notePaid_9 rfl rfl ?_
  refine z_iald C 2 0 rfl rfl (f * 5 + t) (nI_clamp (by omega)) (vp_in_nI (by omega) (by omega)) (net (f * 5 + t)) rfl dX3_notePaid_10 ?_
  refine z_iload_n C dX3_notePaid_11 rfl 3 rfl ?_
  refine z_iadd C (v := ((net (f * 5 + t)) + x)) dX3_notePaid_12 rfl ?_
  refine z_iast C 2 0 rfl rfl (f * 5 + t) (nI_clamp (by omega)) (vp_in_nI (by omega) (by omega)) ((net (f * 5 + t)) + x) rfl dX3_notePaid_13 [(h0, .inr (3, [.ref h1, .ref h2])), (h1, .inl (cI, 5, .inl acc)), (h2, .inl (cI, 25, .inl (upd net (f * 5 + t) ((net (f * 5 + t)) + x))))] rfl ?_
  refine z_aload_n C dX3_notePaid_14 rfl 0 rfl ?_
  refine z_get C 0 rfl i_X3_notePaid_X3 rfl 1 (by decide) m_X3_notePaid_f15 rfl rfl dX3_notePaid_15 ?_
  refine z_iload_n C dX3_notePaid_18 rfl 2 rfl ?_
  refine z_iload_n C dX3_notePaid_19 rfl 1 rfl ?_
  refine z_callSNi C (T := Unit) (As := [.int (nI t), .int (nI f)]) (rest := [.ref h2]) (ws' := fun _ => [(h0, .inr (3, [.ref h1, .ref h2])), (h1, .inl (cI, 5, .inl acc)), (h2, .inl (cI, 25, .inl (upd net (f * 5 + t) ((net (f * 5 + t)) + x))))]) (c_X4_pairOf l sa D cI cZ cL  t f ) ⟨va_cnB 2 C.2.2.2.2.1 gX3_notePaid_X4_pairOf_n18 rfl rfl rfl C.2.2.2.2.2.2.2.1.2.1 (C.2.2.2.2.1 _ m_X3_notePaid_nX4) (by decide +kernel) ⟨Nat.le_of_ble_eq_true rfl, Nat.le_of_ble_eq_true rfl⟩, C.2.2.2.2.1 _ m_X3_notePaid_spairOf, trivial⟩ (fun _ => zSub.none) zIn.none rfl (Nat.le_of_ble_eq_true rfl) ⟨Nat.le_of_ble_eq_true rfl, Nat.le_of_ble_eq_true rfl⟩ dX3_notePaid_20 (fun r_3 _ h_4 => ?_)
  obtain rfl : r_3 = (nI (t * 5 + f)) := h_4
  refine z_dup2 C dX3_notePaid_23 rfl rfl ?_
  refine z_iald C 2 0 rfl rfl (t * 5 + f) (nI_clamp (by omega)) (vp_in_nI (by omega) (by omega)) ((upd net (f * 5 + t) ((net (f * 5 + t)) + x)) (t * 5 + f)) rfl dX3_notePaid_24 ?_
  refine z_iload_n C dX3_notePaid_25 rfl 3 rfl ?_
  refine z_isub C (v := (((upd net (f * 5 + t) ((net (f * 5 + t)) + x)) (t * 5 + f)) - x)) dX3_notePaid_26 rfl ?_
  refine z_iast C 2 0 rfl rfl (t * 5 + f) (nI_clamp (by omega)) (vp_in_nI (by omega) (by omega)) (((upd net (f * 5 + t) ((net (f * 5 + t)) + x)) (t * 5 + f)) - x) rfl dX3_notePaid_27 [(h0, .inr (3, [.ref h1, .ref h2])), (h1, .inl (cI, 5, .inl acc)), (h2, .inl (cI, 25, .inl (upd (upd net (f * 5 + t) ((net (f * 5 + t)) + x)) (t * 5 + f) (((upd net (f * 5 + t) ((net (f * 5 + t)) + x)) (t * 5 + f)) - x))))] rfl ?_
  exact z_vret C () (by exact trivial) rfl (by decide) (by decide) dX3_notePaid_28
set_option maxHeartbeats 4000000 in
set_option maxRecDepth 100000 in
theorem c_X3_forgetPaid (l : Launch) (sa : Nat → Nat) (D : va_G) (cI cZ cL : ClassId) (h0 h1 h2 : Nat) (acc net : Nat → Int32)   : zMv (T := Unit) sa D vwCl (zty cI cZ cL) l yX3_forgetPaid wsX3_forgetPaid ({ frames := 0, cells := 0, slots := 0, locals := 0 } : Room) [.ref h0] [(h0, .inr (3, [.ref h1, .ref h2])), (h1, .inl (cI, 5, .inl acc)), (h2, .inl (cI, 25, .inl net))] (fun _ => True) (fun _ => [(h0, .inr (3, [.ref h1, .ref h2])), (h1, .inl (cI, 5, .inl acc)), (h2, .inl (cI, 25, .inl (clrN net 25)))]) 0 0 := by
  refine zMv.of (ret := none) (cc := cX3_forgetPaid) (nL := 2) (own := RX3) (by decide +kernel) rfl [(0, .ref h0)] rfl (Nat.le_of_ble_eq_true rfl) rfl ?_
  intro A p e s m args below meth c C hmn
  refine z_iconst C (v := 0) dX3_forgetPaid_0 (by decide) ?_
  refine z_istore_n C dX3_forgetPaid_1 rfl (by decide) [(0, .ref h0), (1, .int 0)] [1, 0] rfl ?_
  have L2_k_1 : ∀ (n : Nat) (i : Nat), 25 - i < n → (i ≤ 25) → zW 0 p l e ({ frames := 0, cells := 0, slots := 0, locals := 0 } : Room) s m args below meth c (MQ below (zQv (T := Unit) D vwCl (zty cI cZ cL) A (fun _ => True) (fun _ => [(h0, .inr (3, [.ref h1, .ref h2])), (h1, .inl (cI, 5, .inl acc)), (h2, .inl (cI, 25, .inl (clrN net 25)))])) args s 0 0 A) D vwCl A 2 0 0 [(h0, .inr (3, [.ref h1, .ref h2])), (h1, .inl (cI, 5, .inl acc)), (h2, .inl (cI, 25, .inl (clrN net i)))] [(0, .ref h0), (1, .int (nI i))] 2 [] := by
    intro n
    induction n with
    | zero => intros; omega
    | succ n ih_2 =>
      intro i hm_3 hi
      refine z_iload_n C dX3_forgetPaid_2 rfl 1 rfl ?_
      refine z_bipush C (v := 25) dX3_forgetPaid_3 (by decide) ?_
      refine z_icmp_ge C (tgt := 21) dX3_forgetPaid_5 (by decide) (fun c5_4 => ?_) (fun c5_4 => ?_)
      · skip
        have n_5 : 25 ≤ i := (nI_leI (a := 25) (b := i) (by omega) (by omega)).mp c5_4
        exact z_vret C () (by exact trivial) (by obtain rfl : i = 25 := (by omega); rfl) (by decide) (by decide) dX3_forgetPaid_21
      · skip
        have n_6 : ¬ 25 ≤ i := fun q => c5_4 ((nI_leI (a := 25) (b := i) (by omega) (by omega)).mpr q)
        refine z_aload_n C dX3_forgetPaid_8 rfl 0 rfl ?_
        refine z_get C 0 rfl i_X3_forgetPaid_X3 rfl 1 (by decide) m_X3_forgetPaid_f15 rfl rfl dX3_forgetPaid_9 ?_
        refine z_iload_n C dX3_forgetPaid_12 rfl 1 rfl ?_
        refine z_iconst C (v := 0) dX3_forgetPaid_13 (by decide) ?_
        refine z_iast C 2 0 rfl rfl i (nI_clamp (by omega)) (vp_in_nI (by omega) (by omega)) 0 rfl dX3_forgetPaid_14 [(h0, .inr (3, [.ref h1, .ref h2])), (h1, .inl (cI, 5, .inl acc)), (h2, .inl (cI, 25, .inl (upd (clrN net i) i 0)))] rfl ?_
        refine z_iinc C (v := (nI (i + 1))) dX3_forgetPaid_15 1 rfl (nI_add i 1) (by decide) [(0, .ref h0), (1, .int (nI (i + 1)))] [1, 0] rfl ?_
        refine z_goto C (tgt := 2) dX3_forgetPaid_18 (by decide) ?_
        refine z_ws [(h0, .inr (3, [.ref h1, .ref h2])), (h1, .inl (cI, 5, .inl acc)), (h2, .inl (cI, 25, .inl (clrN net (i + 1))))] (by rw [clrN_s]) ?_
        exact ih_2 (i + 1) (by omega) (by first | assumption | omega)
  refine z_ws [(h0, .inr (3, [.ref h1, .ref h2])), (h1, .inl (cI, 5, .inl acc)), (h2, .inl (cI, 25, .inl (clrN net 0)))] (by rw [clrN_0]) ?_
  refine z_lveq [(0, .ref h0), (1, .int (nI 0))] (by rfl) ?_
  exact L2_k_1 (25 - 0 + 1) 0 (Nat.lt_succ_self _) (by first | assumption | omega)
set_option maxHeartbeats 4000000 in
set_option maxRecDepth 100000 in
theorem c_X2_apply (l : Launch) (sa : Nat → Nat) (D : va_G) (cI cZ cL : ClassId) (g0 g1 g2 g3 g4 g5 g6 : Nat) (frm too amt : Nat → Int32) (made : Int32) (h0 h1 h2 : Nat) (acc net : Nat → Int32) (p9 : Nat) (mk : Nat) (hp : p9 < mk) (hmk : mk ≤ 60) (hfrm : wf5 mk frm) (htoo : wf5 mk too) : zMv (T := Unit) sa D vwCl (zty cI cZ cL) l yX2_apply wsX2_apply ({ frames := 2, cells := 0, slots := 0, locals := 44 } : Room) [.ref g0, .int (nI p9), .ref h0] [(g0, .inr (2, [.ref g1, .ref g2, .ref g3, .ref g4, .ref g5, .ref g6, .int made])), (g1, .inl (cI, 60, .inl frm)), (g2, .inl (cI, 60, .inl too)), (g3, .inl (cI, 60, .inl amt)), (h0, .inr (3, [.ref h1, .ref h2])), (h1, .inl (cI, 5, .inl acc)), (h2, .inl (cI, 25, .inl net))] (fun _ => True) (fun _ => [(g0, .inr (2, [.ref g1, .ref g2, .ref g3, .ref g4, .ref g5, .ref g6, .int made])), (g1, .inl (cI, 60, .inl frm)), (g2, .inl (cI, 60, .inl too)), (g3, .inl (cI, 60, .inl amt)), (h0, .inr (3, [.ref h1, .ref h2])), (h1, .inl (cI, 5, .inl (mvA (ix (frm p9)) (ix (too p9)) (amt p9) acc))), (h2, .inl (cI, 25, .inl (mvN (ix (frm p9)) (ix (too p9)) (amt p9) net)))]) 0 0 := by
  refine zMv.of (ret := none) (cc := cX2_apply) (nL := 3) (own := RX2) (by decide +kernel) rfl [(0, .ref g0), (1, .int (nI p9)), (2, .ref h0)] rfl (Nat.le_of_ble_eq_true rfl) rfl ?_
  intro A p e s m args below meth c C hmn
  refine z_aload_n C dX2_apply_0 rfl 2 rfl ?_
  refine z_aload_n C dX2_apply_1 rfl 0 rfl ?_
  refine z_get C 0 rfl i_X2_apply_X2 rfl 0 (by decide) m_X2_apply_f9 rfl rfl dX2_apply_2 ?_
  refine z_iload_n C dX2_apply_5 rfl 1 rfl ?_
  have := (hfrm p9 (by omega)).2
  refine z_iald C 1 0 rfl rfl p9 (nI_clamp (by omega)) (vp_in_nI (by omega) (by omega)) (nI (ix (frm p9))) (hfrm p9 (by omega)).1 dX2_apply_6 ?_
  refine z_aload_n C dX2_apply_7 rfl 0 rfl ?_
  refine z_get C 0 rfl i_X2_apply_X2 rfl 1 (by decide) m_X2_apply_f15 rfl rfl dX2_apply_8 ?_
  refine z_iload_n C dX2_apply_11 rfl 1 rfl ?_
  have := (htoo p9 (by omega)).2
  refine z_iald C 2 0 rfl rfl p9 (nI_clamp (by omega)) (vp_in_nI (by omega) (by omega)) (nI (ix (too p9))) (htoo p9 (by omega)).1 dX2_apply_12 ?_
  refine z_aload_n C dX2_apply_13 rfl 0 rfl ?_
  refine z_get C 0 rfl i_X2_apply_X2 rfl 2 (by decide) m_X2_apply_f18 rfl rfl dX2_apply_14 ?_
  refine z_iload_n C dX2_apply_17 rfl 1 rfl ?_
  refine z_iald C 3 0 rfl rfl p9 (nI_clamp (by omega)) (vp_in_nI (by omega) (by omega)) (amt p9) rfl dX2_apply_18 ?_
  refine z_callVv C (T := Unit) (As := [.int (nI (ix (frm p9))), .int (nI (ix (too p9))), .int (amt p9)]) (rest := []) (ws' := fun _ => [(g0, .inr (2, [.ref g1, .ref g2, .ref g3, .ref g4, .ref g5, .ref g6, .int made])), (g1, .inl (cI, 60, .inl frm)), (g2, .inl (cI, 60, .inl too)), (g3, .inl (cI, 60, .inl amt)), (h0, .inr (3, [.ref h1, .ref h2])), (h1, .inl (cI, 5, .inl (mvA (ix (frm p9)) (ix (too p9)) (amt p9) acc))), (h2, .inl (cI, 25, .inl net))]) (c_X3_move l sa D cI cZ cL h0 h1 h2 acc net (ix (frm p9)) (ix (too p9)) (amt p9) (by first | assumption | omega) (by first | assumption | omega)) (cwV 3 C.2.2.2.2.1 gX2_apply_X3_move rfl rfl rfl (by decide +kernel) ⟨Nat.le_of_ble_eq_true rfl, Nat.le_of_ble_eq_true rfl⟩) 4 rfl rfl rfl (fun _ => (zSub.of (wr := [(g0, .inr (2, [.ref g1, .ref g2, .ref g3, .ref g4, .ref g5, .ref g6, .int made])), (g1, .inl (cI, 60, .inl frm)), (g2, .inl (cI, 60, .inl too)), (g3, .inl (cI, 60, .inl amt))]) [4, 5, 6] [0, 1, 2, 3] [0, 1, 2, 3, 4, 5, 6] rfl rfl rfl rfl (by decide) rfl rfl)) (zIn.of [4, 5, 6] rfl rfl) rfl (Nat.le_of_ble_eq_true rfl) ⟨Nat.le_of_ble_eq_true rfl, Nat.le_of_ble_eq_true rfl⟩ dX2_apply_19 (fun _ _ => ?_)
  refine z_aload_n C dX2_apply_22 rfl 2 rfl ?_
  refine z_aload_n C dX2_apply_23 rfl 0 rfl ?_
  refine z_get C 0 rfl i_X2_apply_X2 rfl 0 (by decide) m_X2_apply_f9 rfl rfl dX2_apply_24 ?_
  refine z_iload_n C dX2_apply_27 rfl 1 rfl ?_
  refine z_iald C 1 0 rfl rfl p9 (nI_clamp (by omega)) (vp_in_nI (by omega) (by omega)) (nI (ix (frm p9))) (hfrm p9 (by omega)).1 dX2_apply_28 ?_
  refine z_aload_n C dX2_apply_29 rfl 0 rfl ?_
  refine z_get C 0 rfl i_X2_apply_X2 rfl 1 (by decide) m_X2_apply_f15 rfl rfl dX2_apply_30 ?_
  refine z_iload_n C dX2_apply_33 rfl 1 rfl ?_
  refine z_iald C 2 0 rfl rfl p9 (nI_clamp (by omega)) (vp_in_nI (by omega) (by omega)) (nI (ix (too p9))) (htoo p9 (by omega)).1 dX2_apply_34 ?_
  refine z_aload_n C dX2_apply_35 rfl 0 rfl ?_
  refine z_get C 0 rfl i_X2_apply_X2 rfl 2 (by decide) m_X2_apply_f18 rfl rfl dX2_apply_36 ?_
  refine z_iload_n C dX2_apply_39 rfl 1 rfl ?_
  refine z_iald C 3 0 rfl rfl p9 (nI_clamp (by omega)) (vp_in_nI (by omega) (by omega)) (amt p9) rfl dX2_apply_40 ?_
  refine z_callVv C (T := Unit) (As := [.int (nI (ix (frm p9))), .int (nI (ix (too p9))), .int (amt p9)]) (rest := []) (ws' := fun _ => [(g0, .inr (2, [.ref g1, .ref g2, .ref g3, .ref g4, .ref g5, .ref g6, .int made])), (g1, .inl (cI, 60, .inl frm)), (g2, .inl (cI, 60, .inl too)), (g3, .inl (cI, 60, .inl amt)), (h0, .inr (3, [.ref h1, .ref h2])), (h1, .inl (cI, 5, .inl (mvA (ix (frm p9)) (ix (too p9)) (amt p9) acc))), (h2, .inl (cI, 25, .inl (mvN (ix (frm p9)) (ix (too p9)) (amt p9) net)))]) (c_X3_notePaid l sa D cI cZ cL h0 h1 h2 (mvA (ix (frm p9)) (ix (too p9)) (amt p9) acc) net (ix (frm p9)) (ix (too p9)) (amt p9) (by first | assumption | omega) (by first | assumption | omega)) (cwV 3 C.2.2.2.2.1 gX2_apply_X3_notePaid rfl rfl rfl (by decide +kernel) ⟨Nat.le_of_ble_eq_true rfl, Nat.le_of_ble_eq_true rfl⟩) 4 rfl rfl rfl (fun _ => (zSub.of (wr := [(g0, .inr (2, [.ref g1, .ref g2, .ref g3, .ref g4, .ref g5, .ref g6, .int made])), (g1, .inl (cI, 60, .inl frm)), (g2, .inl (cI, 60, .inl too)), (g3, .inl (cI, 60, .inl amt))]) [4, 5, 6] [0, 1, 2, 3] [0, 1, 2, 3, 4, 5, 6] rfl rfl rfl rfl (by decide) rfl rfl)) (zIn.of [4, 5, 6] rfl rfl) rfl (Nat.le_of_ble_eq_true rfl) ⟨Nat.le_of_ble_eq_true rfl, Nat.le_of_ble_eq_true rfl⟩ dX2_apply_41 (fun _ _ => ?_)
  exact z_vret C () (by exact trivial) rfl (by decide) (by decide) dX2_apply_44
set_option maxHeartbeats 4000000 in
set_option maxRecDepth 100000 in
theorem c_X2_countWaiting (l : Launch) (sa : Nat → Nat) (D : va_G) (cI cZ cL : ClassId) (ad : Nat → Nat) (acc net tacc tnet flo bnd frm too amt pri wai byp ldr bor due plg clo pap cnd : Nat → Int32) (small price cut proc : Int32) (mk lm le : Nat)  (hmk : mk ≤ 60) : zMi (T := Unit) sa D vwCl (zty cI cZ cL) l yX2_countWaiting wsX2_countWaiting ({ frames := 0, cells := 0, slots := 0, locals := 0 } : Room) [.ref (ad 4)] (wX ad cI cZ acc net tacc tnet flo bnd frm too amt pri wai byp ldr bor due plg clo pap cnd small price cut proc (nI mk) (nI lm) (nI le)) (fun r9 _ => r9 = (nI (cntW wai mk))) (fun _ => (wX ad cI cZ acc net tacc tnet flo bnd frm too amt pri wai byp ldr bor due plg clo pap cnd small price cut proc (nI mk) (nI lm) (nI le))) 0 0 := by
  refine zMi.of (ret := (some .int)) (cc := cX2_countWaiting) (nL := 3) (own := RX2) (by decide +kernel) rfl [(0, .ref (ad 4))] rfl (Nat.le_of_ble_eq_true rfl) rfl ?_
  intro A p e s m args below meth c C hmn
  refine z_iconst C (v := 0) dX2_countWaiting_0 (by decide) ?_
  refine z_istore_n C dX2_countWaiting_1 rfl (by decide) [(0, .ref (ad 4)), (1, .int 0)] [1, 0] rfl ?_
  refine z_iconst C (v := 0) dX2_countWaiting_2 (by decide) ?_
  refine z_istore_n C dX2_countWaiting_3 rfl (by decide) [(0, .ref (ad 4)), (1, .int 0), (2, .int 0)] [1, 2, 0] rfl ?_
  have L4_k_1 : ∀ (n : Nat) (i : Nat), mk - i < n → (i ≤ mk) → zW 0 p l e ({ frames := 0, cells := 0, slots := 0, locals := 0 } : Room) s m args below meth c (MQ below (zQi (T := Unit) D vwCl (zty cI cZ cL) A (fun r9 _ => r9 = (nI (cntW wai mk))) (fun _ => (wX ad cI cZ acc net tacc tnet flo bnd frm too amt pri wai byp ldr bor due plg clo pap cnd small price cut proc (nI mk) (nI lm) (nI le)))) args s 0 0 A) D vwCl A 3 0 0 (wX ad cI cZ acc net tacc tnet flo bnd frm too amt pri wai byp ldr bor due plg clo pap cnd small price cut proc (nI mk) (nI lm) (nI le)) [(0, .ref (ad 4)), (1, .int (nI (cntW wai i))), (2, .int (nI i))] 4 [] := by
    intro n
    induction n with
    | zero => intros; omega
    | succ n ih_2 =>
      intro i hm_3 hi
      refine z_iload_n C dX2_countWaiting_4 rfl 2 rfl ?_
      refine z_aload_n C dX2_countWaiting_5 rfl 0 rfl ?_
      refine z_get C 4 rfl i_X2_countWaiting_X2 rfl 6 (by decide) m_X2_countWaiting_f31 rfl rfl dX2_countWaiting_6 ?_
      refine z_icmp_ge C (tgt := 30) dX2_countWaiting_9 (by decide) (fun c9_4 => ?_) (fun c9_4 => ?_)
      · skip
        have n_5 : mk ≤ i := (nI_leI (a := mk) (b := i) (by omega) (by omega)).mp c9_4
        refine z_iload_n C dX2_countWaiting_30 rfl 1 rfl ?_
        exact z_iret C () (by rw [show i = mk by omega]) rfl (by decide) (by decide) dX2_countWaiting_31
      · skip
        have n_6 : ¬ mk ≤ i := fun q => c9_4 ((nI_leI (a := mk) (b := i) (by omega) (by omega)).mpr q)
        refine z_aload_n C dX2_countWaiting_12 rfl 0 rfl ?_
        refine z_get C 4 rfl i_X2_countWaiting_X2 rfl 4 (by decide) m_X2_countWaiting_f24 rfl rfl dX2_countWaiting_13 ?_
        refine z_iload_n C dX2_countWaiting_16 rfl 2 rfl ?_
        refine z_zald C 16 1 rfl rfl i (nI_clamp (by omega)) (vp_in_nI (by omega) (by omega)) (wai i) rfl dX2_countWaiting_17 ?_
        refine z_if_eq C (tgt := 24) dX2_countWaiting_18 (by decide) (fun c18_7 => ?_) (fun c18_7 => ?_)
        · skip
          refine z_iinc C (v := (nI (i + 1))) dX2_countWaiting_24 2 rfl (nI_add i 1) (by decide) [(0, .ref (ad 4)), (1, .int (nI (cntW wai i))), (2, .int (nI (i + 1)))] [1, 2, 0] rfl ?_
          refine z_goto C (tgt := 4) dX2_countWaiting_27 (by decide) ?_
          refine z_lveq [(0, .ref (ad 4)), (1, .int (nI (cntW wai (i + 1)))), (2, .int (nI (i + 1)))] (by simp [cntW, c9_4, n_6, c18_7]) ?_
          exact ih_2 (i + 1) (by omega) (by first | assumption | omega)
        · skip
          refine z_iinc C (v := (nI ((cntW wai i) + 1))) dX2_countWaiting_21 1 rfl (nI_add (cntW wai i) 1) (by decide) [(0, .ref (ad 4)), (1, .int (nI ((cntW wai i) + 1))), (2, .int (nI i))] [1, 0, 2] rfl ?_
          refine z_iinc C (v := (nI (i + 1))) dX2_countWaiting_24 2 rfl (nI_add i 1) (by decide) [(0, .ref (ad 4)), (1, .int (nI ((cntW wai i) + 1))), (2, .int (nI (i + 1)))] [1, 2, 0] rfl ?_
          refine z_goto C (tgt := 4) dX2_countWaiting_27 (by decide) ?_
          refine z_lveq [(0, .ref (ad 4)), (1, .int (nI (cntW wai (i + 1)))), (2, .int (nI (i + 1)))] (by simp [cntW, c9_4, n_6, c18_7]) ?_
          exact ih_2 (i + 1) (by omega) (by first | assumption | omega)
  refine z_lveq [(0, .ref (ad 4)), (1, .int (nI (cntW wai 0))), (2, .int (nI 0))] (by rfl) ?_
  exact L4_k_1 (mk - 0 + 1) 0 (Nat.lt_succ_self _) (by first | assumption | omega)
set_option maxHeartbeats 4000000 in
set_option maxRecDepth 100000 in
theorem c_X2_dropAllOf (l : Launch) (sa : Nat → Nat) (D : va_G) (cI cZ cL : ClassId) (ad : Nat → Nat) (acc net tacc tnet flo bnd frm too amt pri wai byp ldr bor due plg clo pap cnd : Nat → Int32) (small price cut proc : Int32) (mk lm le : Nat) (b : Nat) (hb : b < 5) (hmk : mk ≤ 60) (hfrm : wf5 mk frm) (htoo : wf5 mk too) : zMv (T := Unit) sa D vwCl (zty cI cZ cL) l yX2_dropAllOf wsX2_dropAllOf ({ frames := 0, cells := 0, slots := 0, locals := 0 } : Room) [.ref (ad 4), .int (nI b)] (wX ad cI cZ acc net tacc tnet flo bnd frm too amt pri wai byp ldr bor due plg clo pap cnd small price cut proc (nI mk) (nI lm) (nI le)) (fun _ => True) (fun _ => (wX ad cI cZ acc net tacc tnet flo bnd frm too amt pri (dropW frm too b mk wai) byp ldr bor due plg clo pap cnd small price cut proc (nI mk) (nI lm) (nI le))) 0 0 := by
  refine zMv.of (ret := none) (cc := cX2_dropAllOf) (nL := 3) (own := RX2) (by decide +kernel) rfl [(0, .ref (ad 4)), (1, .int (nI b))] rfl (Nat.le_of_ble_eq_true rfl) rfl ?_
  intro A p e s m args below meth c C hmn
  refine z_iconst C (v := 0) dX2_dropAllOf_0 (by decide) ?_
  refine z_istore_n C dX2_dropAllOf_1 rfl (by decide) [(0, .ref (ad 4)), (1, .int (nI b)), (2, .int 0)] [1, 2, 0] rfl ?_
  have L2_k_1 : ∀ (n : Nat) (i : Nat), mk - i < n → (i ≤ mk) → zW 0 p l e ({ frames := 0, cells := 0, slots := 0, locals := 0 } : Room) s m args below meth c (MQ below (zQv (T := Unit) D vwCl (zty cI cZ cL) A (fun _ => True) (fun _ => (wX ad cI cZ acc net tacc tnet flo bnd frm too amt pri (dropW frm too b mk wai) byp ldr bor due plg clo pap cnd small price cut proc (nI mk) (nI lm) (nI le)))) args s 0 0 A) D vwCl A 3 0 0 (wX ad cI cZ acc net tacc tnet flo bnd frm too amt pri (dropW frm too b i wai) byp ldr bor due plg clo pap cnd small price cut proc (nI mk) (nI lm) (nI le)) [(0, .ref (ad 4)), (1, .int (nI b)), (2, .int (nI i))] 2 [] := by
    intro n
    induction n with
    | zero => intros; omega
    | succ n ih_2 =>
      intro i hm_3 hi
      refine z_iload_n C dX2_dropAllOf_2 rfl 2 rfl ?_
      refine z_aload_n C dX2_dropAllOf_3 rfl 0 rfl ?_
      refine z_get C 4 rfl i_X2_dropAllOf_X2 rfl 6 (by decide) m_X2_dropAllOf_f31 rfl rfl dX2_dropAllOf_4 ?_
      refine z_icmp_ge C (tgt := 43) dX2_dropAllOf_7 (by decide) (fun c7_4 => ?_) (fun c7_4 => ?_)
      · skip
        have n_5 : mk ≤ i := (nI_leI (a := mk) (b := i) (by omega) (by omega)).mp c7_4
        exact z_vret C () (by exact trivial) (by rw [show i = mk by omega]) (by decide) (by decide) dX2_dropAllOf_43
      · skip
        have n_6 : ¬ mk ≤ i := fun q => c7_4 ((nI_leI (a := mk) (b := i) (by omega) (by omega)).mpr q)
        refine z_aload_n C dX2_dropAllOf_10 rfl 0 rfl ?_
        refine z_get C 4 rfl i_X2_dropAllOf_X2 rfl 0 (by decide) m_X2_dropAllOf_f9 rfl rfl dX2_dropAllOf_11 ?_
        refine z_iload_n C dX2_dropAllOf_14 rfl 2 rfl ?_
        have := (hfrm i (by omega)).2
        refine z_iald C 12 0 rfl rfl i (nI_clamp (by omega)) (vp_in_nI (by omega) (by omega)) (nI (ix (frm i))) (hfrm i (by omega)).1 dX2_dropAllOf_15 ?_
        refine z_iload_n C dX2_dropAllOf_16 rfl 1 rfl ?_
        refine z_icmp_eq C (tgt := 30) dX2_dropAllOf_17 (by decide) (fun c17_7 => ?_) (fun c17_7 => ?_)
        · skip
          have n_8 : (ix (frm i)) = b := (nI_eq (a := ix (frm i)) (b := b) (by omega) (by omega)).mp c17_7
          refine z_aload_n C dX2_dropAllOf_30 rfl 0 rfl ?_
          refine z_get C 4 rfl i_X2_dropAllOf_X2 rfl 4 (by decide) m_X2_dropAllOf_f24 rfl rfl dX2_dropAllOf_31 ?_
          refine z_iload_n C dX2_dropAllOf_34 rfl 2 rfl ?_
          refine z_iconst C (v := 0) dX2_dropAllOf_35 (by decide) ?_
          refine z_zast C 16 1 rfl rfl i (nI_clamp (by omega)) (vp_in_nI (by omega) (by omega)) 0 (by decide) dX2_dropAllOf_36 (wX ad cI cZ acc net tacc tnet flo bnd frm too amt pri (upd (dropW frm too b i wai) i 0) byp ldr bor due plg clo pap cnd small price cut proc (nI mk) (nI lm) (nI le)) rfl ?_
          refine z_iinc C (v := (nI (i + 1))) dX2_dropAllOf_37 2 rfl (nI_add i 1) (by decide) [(0, .ref (ad 4)), (1, .int (nI b)), (2, .int (nI (i + 1)))] [1, 2, 0] rfl ?_
          refine z_goto C (tgt := 2) dX2_dropAllOf_40 (by decide) ?_
          refine z_ws (wX ad cI cZ acc net tacc tnet flo bnd frm too amt pri (dropW frm too b (i + 1) wai) byp ldr bor due plg clo pap cnd small price cut proc (nI mk) (nI lm) (nI le)) (by first | rw [dropW_y (Or.inl (by assumption))] | rw [dropW_y (Or.inr (by assumption))] | rw [dropW_n (by assumption) (by assumption)]) ?_
          exact ih_2 (i + 1) (by omega) (by first | assumption | omega)
        · skip
          have n_9 : ¬ (ix (frm i)) = b := fun q => c17_7 ((nI_eq (a := ix (frm i)) (b := b) (by omega) (by omega)).mpr q)
          refine z_aload_n C dX2_dropAllOf_20 rfl 0 rfl ?_
          refine z_get C 4 rfl i_X2_dropAllOf_X2 rfl 1 (by decide) m_X2_dropAllOf_f15 rfl rfl dX2_dropAllOf_21 ?_
          refine z_iload_n C dX2_dropAllOf_24 rfl 2 rfl ?_
          have := (htoo i (by omega)).2
          refine z_iald C 13 0 rfl rfl i (nI_clamp (by omega)) (vp_in_nI (by omega) (by omega)) (nI (ix (too i))) (htoo i (by omega)).1 dX2_dropAllOf_25 ?_
          refine z_iload_n C dX2_dropAllOf_26 rfl 1 rfl ?_
          refine z_icmp_ne C (tgt := 37) dX2_dropAllOf_27 (by decide) (fun c27_10 => ?_) (fun c27_10 => ?_)
          · skip
            have n_11 : ¬ (ix (too i)) = b := fun q => c27_10 ((nI_eq (a := ix (too i)) (b := b) (by omega) (by omega)).mpr q)
            refine z_iinc C (v := (nI (i + 1))) dX2_dropAllOf_37 2 rfl (nI_add i 1) (by decide) [(0, .ref (ad 4)), (1, .int (nI b)), (2, .int (nI (i + 1)))] [1, 2, 0] rfl ?_
            refine z_goto C (tgt := 2) dX2_dropAllOf_40 (by decide) ?_
            refine z_ws (wX ad cI cZ acc net tacc tnet flo bnd frm too amt pri (dropW frm too b (i + 1) wai) byp ldr bor due plg clo pap cnd small price cut proc (nI mk) (nI lm) (nI le)) (by first | rw [dropW_y (Or.inl (by assumption))] | rw [dropW_y (Or.inr (by assumption))] | rw [dropW_n (by assumption) (by assumption)]) ?_
            exact ih_2 (i + 1) (by omega) (by first | assumption | omega)
          · skip
            have n_12 : (ix (too i)) = b := (nI_eq (a := ix (too i)) (b := b) (by omega) (by omega)).mp c27_10
            refine z_aload_n C dX2_dropAllOf_30 rfl 0 rfl ?_
            refine z_get C 4 rfl i_X2_dropAllOf_X2 rfl 4 (by decide) m_X2_dropAllOf_f24 rfl rfl dX2_dropAllOf_31 ?_
            refine z_iload_n C dX2_dropAllOf_34 rfl 2 rfl ?_
            refine z_iconst C (v := 0) dX2_dropAllOf_35 (by decide) ?_
            refine z_zast C 16 1 rfl rfl i (nI_clamp (by omega)) (vp_in_nI (by omega) (by omega)) 0 (by decide) dX2_dropAllOf_36 (wX ad cI cZ acc net tacc tnet flo bnd frm too amt pri (upd (dropW frm too b i wai) i 0) byp ldr bor due plg clo pap cnd small price cut proc (nI mk) (nI lm) (nI le)) rfl ?_
            refine z_iinc C (v := (nI (i + 1))) dX2_dropAllOf_37 2 rfl (nI_add i 1) (by decide) [(0, .ref (ad 4)), (1, .int (nI b)), (2, .int (nI (i + 1)))] [1, 2, 0] rfl ?_
            refine z_goto C (tgt := 2) dX2_dropAllOf_40 (by decide) ?_
            refine z_ws (wX ad cI cZ acc net tacc tnet flo bnd frm too amt pri (dropW frm too b (i + 1) wai) byp ldr bor due plg clo pap cnd small price cut proc (nI mk) (nI lm) (nI le)) (by first | rw [dropW_y (Or.inl (by assumption))] | rw [dropW_y (Or.inr (by assumption))] | rw [dropW_n (by assumption) (by assumption)]) ?_
            exact ih_2 (i + 1) (by omega) (by first | assumption | omega)
  refine z_ws (wX ad cI cZ acc net tacc tnet flo bnd frm too amt pri (dropW frm too b 0 wai) byp ldr bor due plg clo pap cnd small price cut proc (nI mk) (nI lm) (nI le)) (by rw [dropW_0]) ?_
  refine z_lveq [(0, .ref (ad 4)), (1, .int (nI b)), (2, .int (nI 0))] (by rfl) ?_
  exact L2_k_1 (mk - 0 + 1) 0 (Nat.lt_succ_self _) (by first | assumption | omega)
set_option maxHeartbeats 4000000 in
set_option maxRecDepth 100000 in
theorem c_X2_waitsAt (l : Launch) (sa : Nat → Nat) (D : va_G) (cI cZ cL : ClassId) (ad : Nat → Nat) (acc net tacc tnet flo bnd frm too amt pri wai byp ldr bor due plg clo pap cnd : Nat → Int32) (small price cut proc : Int32) (mk lm le : Nat) (p9 : Nat) (b : Nat) (hp : p9 < mk) (hb : b < 5) (hmk : mk ≤ 60) (hfrm : wf5 mk frm) (htoo : wf5 mk too) : zMi (T := Unit) sa D vwCl (zty cI cZ cL) l yX2_waitsAt wsX2_waitsAt ({ frames := 0, cells := 0, slots := 0, locals := 0 } : Room) [.ref (ad 4), .int (nI p9), .int (nI b)] (wX ad cI cZ acc net tacc tnet flo bnd frm too amt pri wai byp ldr bor due plg clo pap cnd small price cut proc (nI mk) (nI lm) (nI le)) (fun r9 _ => r9 = if isq wai frm b p9 = true then 1 else 0) (fun _ => (wX ad cI cZ acc net tacc tnet flo bnd frm too amt pri wai byp ldr bor due plg clo pap cnd small price cut proc (nI mk) (nI lm) (nI le))) 0 0 := by
  refine zMi.of (ret := (some .boolean)) (cc := cX2_waitsAt) (nL := 3) (own := RX2) (by decide +kernel) rfl [(0, .ref (ad 4)), (1, .int (nI p9)), (2, .int (nI b))] rfl (Nat.le_of_ble_eq_true rfl) rfl ?_
  intro A p e s m args below meth c C hmn
  refine z_aload_n C dX2_waitsAt_0 rfl 0 rfl ?_
  refine z_get C 4 rfl i_X2_waitsAt_X2 rfl 4 (by decide) m_X2_waitsAt_f24 rfl rfl dX2_waitsAt_1 ?_
  refine z_iload_n C dX2_waitsAt_4 rfl 1 rfl ?_
  refine z_zald C 16 1 rfl rfl p9 (nI_clamp (by omega)) (vp_in_nI (by omega) (by omega)) (wai p9) rfl dX2_waitsAt_5 ?_
  refine z_if_eq C (tgt := 23) dX2_waitsAt_6 (by decide) (fun c6_1 => ?_) (fun c6_1 => ?_)
  · skip
    refine z_iconst C (v := 0) dX2_waitsAt_23 (by decide) ?_
    exact z_zret C () (by simp [isq, c6_1]) rfl (by decide) (by decide) (by decide) dX2_waitsAt_24
  · skip
    refine z_aload_n C dX2_waitsAt_9 rfl 0 rfl ?_
    refine z_get C 4 rfl i_X2_waitsAt_X2 rfl 0 (by decide) m_X2_waitsAt_f9 rfl rfl dX2_waitsAt_10 ?_
    refine z_iload_n C dX2_waitsAt_13 rfl 1 rfl ?_
    have := (hfrm p9 (by omega)).2
    refine z_iald C 12 0 rfl rfl p9 (nI_clamp (by omega)) (vp_in_nI (by omega) (by omega)) (nI (ix (frm p9))) (hfrm p9 (by omega)).1 dX2_waitsAt_14 ?_
    refine z_iload_n C dX2_waitsAt_15 rfl 2 rfl ?_
    refine z_icmp_ne C (tgt := 23) dX2_waitsAt_16 (by decide) (fun c16_2 => ?_) (fun c16_2 => ?_)
    · skip
      have n_3 : ¬ (ix (frm p9)) = b := fun q => c16_2 ((nI_eq (a := ix (frm p9)) (b := b) (by omega) (by omega)).mpr q)
      refine z_iconst C (v := 0) dX2_waitsAt_23 (by decide) ?_
      exact z_zret C () (by simp [isq, c6_1, c16_2, n_3]) rfl (by decide) (by decide) (by decide) dX2_waitsAt_24
    · skip
      have n_4 : (ix (frm p9)) = b := (nI_eq (a := ix (frm p9)) (b := b) (by omega) (by omega)).mp c16_2
      refine z_iconst C (v := 1) dX2_waitsAt_19 (by decide) ?_
      refine z_goto C (tgt := 24) dX2_waitsAt_20 (by decide) ?_
      exact z_zret C () (by simp [isq, c6_1, c16_2, n_4]) rfl (by decide) (by decide) (by decide) dX2_waitsAt_24
set_option maxHeartbeats 4000000 in
set_option maxRecDepth 100000 in
theorem c_X2_inQueue (l : Launch) (sa : Nat → Nat) (D : va_G) (cI cZ cL : ClassId) (ad : Nat → Nat) (acc net tacc tnet flo bnd frm too amt pri wai byp ldr bor due plg clo pap cnd : Nat → Int32) (small price cut proc : Int32) (mk lm le : Nat) (b : Nat) (k : Nat) (hb : b < 5) (hk : k < 2147483648) (hmk : mk ≤ 60) (hfrm : wf5 mk frm) (htoo : wf5 mk too) (hbyp : bypOK byp pri mk) : zMi (T := Unit) sa D vwCl (zty cI cZ cL) l yX2_inQueue wsX2_inQueue ({ frames := 1, cells := 0, slots := 0, locals := 22 } : Room) [.ref (ad 4), .int (nI b), .int (nI k)] (wX ad cI cZ acc net tacc tnet flo bnd frm too amt pri wai byp ldr bor due plg clo pap cnd small price cut proc (nI mk) (nI lm) (nI le)) (fun r9 _ => r9 = oI (atQ (ordL pri mk) (isq wai frm b) k)) (fun _ => (wX ad cI cZ acc net tacc tnet flo bnd frm too amt pri wai byp ldr bor due plg clo pap cnd small price cut proc (nI mk) (nI lm) (nI le))) 0 0 := by
  refine zMi.of (ret := (some .int)) (cc := cX2_inQueue) (nL := 5) (own := RX2) (by decide +kernel) rfl [(0, .ref (ad 4)), (1, .int (nI b)), (2, .int (nI k))] rfl (Nat.le_of_ble_eq_true rfl) rfl ?_
  intro A p e s m args below meth c C hmn
  refine z_iconst C (v := 0) dX2_inQueue_0 (by decide) ?_
  refine z_istore_n C dX2_inQueue_1 rfl (by decide) [(0, .ref (ad 4)), (1, .int (nI b)), (2, .int (nI k)), (3, .int 0)] [1, 2, 3, 0] rfl ?_
  refine z_iconst C (v := 0) dX2_inQueue_2 (by decide) ?_
  refine z_istore C dX2_inQueue_3 (by decide) [(0, .ref (ad 4)), (1, .int (nI b)), (2, .int (nI k)), (3, .int 0), (4, .int 0)] [1, 2, 3, 4, 0] rfl ?_
  have L5_k_1 : ∀ (n : Nat) (a i : Nat), mk - i < n → (i ≤ mk) → (a = (((ordL pri mk).take i).filter (isq wai frm b)).length) → (a ≤ k) → zW 0 p l e ({ frames := 1, cells := 0, slots := 0, locals := 22 } : Room) s m args below meth c (MQ below (zQi (T := Unit) D vwCl (zty cI cZ cL) A (fun r9 _ => r9 = oI (atQ (ordL pri mk) (isq wai frm b) k)) (fun _ => (wX ad cI cZ acc net tacc tnet flo bnd frm too amt pri wai byp ldr bor due plg clo pap cnd small price cut proc (nI mk) (nI lm) (nI le)))) args s 0 0 A) D vwCl A 5 0 0 (wX ad cI cZ acc net tacc tnet flo bnd frm too amt pri wai byp ldr bor due plg clo pap cnd small price cut proc (nI mk) (nI lm) (nI le)) [(0, .ref (ad 4)), (1, .int (nI b)), (2, .int (nI k)), (3, .int (nI a)), (4, .int (nI i))] 5 [] := by
    intro n
    induction n with
    | zero => intros; omega
    | succ n ih_2 =>
      intro a i hm_3 hi ha hak
      refine z_iload C dX2_inQueue_5 4 rfl ?_
      refine z_aload_n C dX2_inQueue_7 rfl 0 rfl ?_
      refine z_get C 4 rfl i_X2_inQueue_X2 rfl 6 (by decide) m_X2_inQueue_f31 rfl rfl dX2_inQueue_8 ?_
      refine z_icmp_ge C (tgt := 51) dX2_inQueue_11 (by decide) (fun c11_4 => ?_) (fun c11_4 => ?_)
      · skip
        have n_5 : mk ≤ i := (nI_leI (a := mk) (b := i) (by omega) (by omega)).mp c11_4
        refine z_iconst C (v := (-1)) dX2_inQueue_51 (by decide) ?_
        exact z_iret C () (by rw [atQ_end (i := i) (by have := ordL_len pri mk; omega) (by omega)]; rfl) rfl (by decide) (by decide) dX2_inQueue_52
      · skip
        have n_6 : ¬ mk ≤ i := fun q => c11_4 ((nI_leI (a := mk) (b := i) (by omega) (by omega)).mpr q)
        refine z_aload_n C dX2_inQueue_14 rfl 0 rfl ?_
        refine z_aload_n C dX2_inQueue_15 rfl 0 rfl ?_
        refine z_get C 4 rfl i_X2_inQueue_X2 rfl 5 (by decide) m_X2_inQueue_f28 rfl rfl dX2_inQueue_16 ?_
        refine z_iload C dX2_inQueue_19 4 rfl ?_
        obtain ⟨q_byp, hq_byp⟩ := hbyp i (by omega)
        have := ordL_mem (List.mem_of_getElem? hq_byp.1)
        refine z_iald C 17 0 rfl rfl i (nI_clamp (by omega)) (vp_in_nI (by omega) (by omega)) (nI q_byp) hq_byp.2 dX2_inQueue_21 ?_
        refine z_iload_n C dX2_inQueue_22 rfl 1 rfl ?_
        refine z_case (isq wai frm b q_byp = true) (fun hp_7 => ?_) (fun hp_7 => ?_)
        · skip
          refine z_callVi C (T := Unit) (As := [.int (nI q_byp), .int (nI b)]) (rest := []) (ws' := fun _ => (wX ad cI cZ acc net tacc tnet flo bnd frm too amt pri wai byp ldr bor due plg clo pap cnd small price cut proc (nI mk) (nI lm) (nI le))) (c_X2_waitsAt l sa D cI cZ cL ad acc net tacc tnet flo bnd frm too amt pri wai byp ldr bor due plg clo pap cnd small price cut proc mk lm le q_byp b (by first | assumption | omega) (by first | assumption | omega) (by first | assumption | omega) (by first | assumption | omega) (by first | assumption | omega)) (cwV 2 C.2.2.2.2.1 gX2_inQueue_X2_waitsAt rfl rfl rfl (by decide +kernel) ⟨Nat.le_of_ble_eq_true rfl, Nat.le_of_ble_eq_true rfl⟩) 4 rfl rfl rfl (fun _ => zSub.full) zIn.full rfl (Nat.le_of_ble_eq_true rfl) ⟨Nat.le_of_ble_eq_true rfl, Nat.le_of_ble_eq_true rfl⟩ dX2_inQueue_23 (fun r_8 _ h_9 => ?_)
          obtain rfl : r_8 = 1 := h_9.trans (if_pos hp_7)
          refine z_if_eq C (tgt := 45) dX2_inQueue_26 (by decide) (fun h => absurd h (by decide)) (fun _ => ?_)
          refine z_iload_n C dX2_inQueue_29 rfl 3 rfl ?_
          refine z_iload_n C dX2_inQueue_30 rfl 2 rfl ?_
          refine z_icmp_ne C (tgt := 42) dX2_inQueue_31 (by decide) (fun c31_10 => ?_) (fun c31_10 => ?_)
          · skip
            have n_11 : ¬ a = k := fun q => c31_10 ((nI_eq (a := a) (b := k) (by omega) (by omega)).mpr q)
            refine z_iinc C (v := (nI (a + 1))) dX2_inQueue_42 3 rfl (nI_add a 1) (by decide) [(0, .ref (ad 4)), (1, .int (nI b)), (2, .int (nI k)), (3, .int (nI (a + 1))), (4, .int (nI i))] [1, 2, 3, 0, 4] rfl ?_
            refine z_iinc C (v := (nI (i + 1))) dX2_inQueue_45 4 rfl (nI_add i 1) (by decide) [(0, .ref (ad 4)), (1, .int (nI b)), (2, .int (nI k)), (3, .int (nI (a + 1))), (4, .int (nI (i + 1)))] [1, 2, 3, 4, 0] rfl ?_
            refine z_goto C (tgt := 5) dX2_inQueue_48 (by decide) ?_
            exact ih_2 (a + 1) (i + 1) (by omega) (by first | assumption | omega) (by first | (rw [atQ_yes hq_byp.1 (by assumption)]; omega) | (rw [atQ_no hq_byp.1 (by assumption)]; omega)) (by first | assumption | omega)
          · skip
            have n_12 : a = k := (nI_eq (a := a) (b := k) (by omega) (by omega)).mp c31_10
            refine z_aload_n C dX2_inQueue_34 rfl 0 rfl ?_
            refine z_get C 4 rfl i_X2_inQueue_X2 rfl 5 (by decide) m_X2_inQueue_f28 rfl rfl dX2_inQueue_35 ?_
            refine z_iload C dX2_inQueue_38 4 rfl ?_
            refine z_iald C 17 0 rfl rfl i (nI_clamp (by omega)) (vp_in_nI (by omega) (by omega)) (nI q_byp) hq_byp.2 dX2_inQueue_40 ?_
            exact z_iret C () (by rw [atQ_found hq_byp.1 (by assumption) (by omega)]; rfl) rfl (by decide) (by decide) dX2_inQueue_41
        · skip
          refine z_callVi C (T := Unit) (As := [.int (nI q_byp), .int (nI b)]) (rest := []) (ws' := fun _ => (wX ad cI cZ acc net tacc tnet flo bnd frm too amt pri wai byp ldr bor due plg clo pap cnd small price cut proc (nI mk) (nI lm) (nI le))) (c_X2_waitsAt l sa D cI cZ cL ad acc net tacc tnet flo bnd frm too amt pri wai byp ldr bor due plg clo pap cnd small price cut proc mk lm le q_byp b (by first | assumption | omega) (by first | assumption | omega) (by first | assumption | omega) (by first | assumption | omega) (by first | assumption | omega)) (cwV 2 C.2.2.2.2.1 gX2_inQueue_X2_waitsAt rfl rfl rfl (by decide +kernel) ⟨Nat.le_of_ble_eq_true rfl, Nat.le_of_ble_eq_true rfl⟩) 4 rfl rfl rfl (fun _ => zSub.full) zIn.full rfl (Nat.le_of_ble_eq_true rfl) ⟨Nat.le_of_ble_eq_true rfl, Nat.le_of_ble_eq_true rfl⟩ dX2_inQueue_23 (fun r_13 _ h_14 => ?_)
          obtain rfl : r_13 = 0 := h_14.trans (if_neg hp_7)
          refine z_if_eq C (tgt := 45) dX2_inQueue_26 (by decide) (fun _ => ?_) (fun h => absurd h (by decide))
          refine z_iinc C (v := (nI (i + 1))) dX2_inQueue_45 4 rfl (nI_add i 1) (by decide) [(0, .ref (ad 4)), (1, .int (nI b)), (2, .int (nI k)), (3, .int (nI a)), (4, .int (nI (i + 1)))] [1, 2, 3, 4, 0] rfl ?_
          refine z_goto C (tgt := 5) dX2_inQueue_48 (by decide) ?_
          exact ih_2 a (i + 1) (by omega) (by first | assumption | omega) (by first | (rw [atQ_yes hq_byp.1 (by assumption)]; omega) | (rw [atQ_no hq_byp.1 (by assumption)]; omega)) (by first | assumption | omega)
  refine z_lveq [(0, .ref (ad 4)), (1, .int (nI b)), (2, .int (nI k)), (3, .int (nI 0)), (4, .int (nI 0))] (by rfl) ?_
  exact L5_k_1 (mk - 0 + 1) 0 0 (Nat.lt_succ_self _) (by first | assumption | omega) (by simp) (by first | assumption | omega)
