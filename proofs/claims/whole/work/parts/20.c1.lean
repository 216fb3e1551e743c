theorem m_X3_move_f9 : Cond.fieldLink RX3 9 "Queuefloat$Sums" "accountOf" "[I" ∈ wsX3_move := by decide +kernel
theorem i_X3_move_X3 : ∀ w ∈ wsX30, w ∈ wsX3_move := by decide +kernel
theorem m_X3_notePaid_f15 : Cond.fieldLink RX3 15 "Queuefloat$Sums" "netPaid" "[I" ∈ wsX3_notePaid := by decide +kernel
theorem i_X3_notePaid_X3 : ∀ w ∈ wsX30, w ∈ wsX3_notePaid := by decide +kernel
theorem m_X3_notePaid_nX4 : Cond.initialized RX4 ∈ wsX3_notePaid := by decide +kernel
theorem m_X3_notePaid_spairOf : Cond.static yX4_pairOf ∈ wsX3_notePaid := by decide +kernel
theorem m_X3_forgetPaid_f15 : Cond.fieldLink RX3 15 "Queuefloat$Sums" "netPaid" "[I" ∈ wsX3_forgetPaid := by decide +kernel
theorem i_X3_forgetPaid_X3 : ∀ w ∈ wsX30, w ∈ wsX3_forgetPaid := by decide +kernel
set_option maxHeartbeats 4000000 in
set_option maxRecDepth 100000 in
theorem c_X4_pairOf (l : Launch) (sa : Nat → Nat) (D : va_G) (cI cZ cL : ClassId)  (a : Nat) (b : Nat)  : zMi (T := Unit) sa D vwCl (zty cI cZ cL) l yX4_pairOf wsX4_pairOf ({ frames := 0, cells := 0, slots := 0, locals := 0 } : Room) [.int (nI a), .int (nI b)] [] (fun r _ => r = (nI (a * 5 + b))) (fun _ => []) 0 0 := by
  refine zMi.of (ret := (some .int)) (cc := cX4_pairOf) (nL := 2) (own := RX4) (by decide +kernel) rfl [(0, .int (nI a)), (1, .int (nI b))] rfl (Nat.le_of_ble_eq_true rfl) rfl ?_
  intro A p e s m args below meth c C hmn
  refine z_iload_n C dX4_pairOf_0 rfl 0 rfl ?_
  refine z_iconst C (v := 5) dX4_pairOf_1 (by decide) ?_
  refine z_imul C (v := (nI (a * 5))) dX4_pairOf_2 (pk_mul a 5) ?_
  refine z_iload_n C dX4_pairOf_3 rfl 1 rfl ?_
  refine z_iadd C (v := (nI ((a * 5) + b))) dX4_pairOf_4 (nI_add (a * 5) b) ?_
  exact z_iret C () rfl rfl (by decide) (by decide) dX4_pairOf_5
set_option maxHeartbeats 4000000 in
set_option maxRecDepth 100000 in
theorem c_X3_move (l : Launch) (sa : Nat → Nat) (D : va_G) (cI cZ cL : ClassId) (h0 h1 h2 : Nat) (acc net : Nat → Int32) (f : Nat) (t : Nat) (x : Int32) (hf : f < 5) (ht : t < 5) : zMv (T := Unit) sa D vwCl (zty cI cZ cL) l yX3_move wsX3_move ({ frames := 0, cells := 0, slots := 0, locals := 0 } : Room) [.ref h0, .int (nI f), .int (nI t), .int x] [(h0, .inr (3, [.ref h1, .ref h2])), (h1, .inl (cI, 5, .inl acc)), (h2, .inl (cI, 25, .inl net))] (fun _ => True) (fun _ => [(h0, .inr (3, [.ref h1, .ref h2])), (h1, .inl (cI, 5, .inl (mvA f t x acc))), (h2, .inl (cI, 25, .inl net))]) 0 0 := by
  refine zMv.of (ret := none) (cc := cX3_move) (nL := 4) (own := RX3) (by decide +kernel) rfl [(0, .ref h0), (1, .int (nI f)), (2, .int (nI t)), (3, .int x)] rfl (Nat.le_of_ble_eq_true rfl) rfl ?_
  intro A p e s m args below meth c C hmn
  refine z_aload_n C dX3_move_0 rfl 0 rfl ?_
  refine z_get C 0 rfl i_X3_move_X3 rfl 0 (by decide) m_X3_move_f9 rfl rfl dX3_move_1 ?_
  refine z_iload_n C dX3_move_4 rfl 1 rfl ?_
  refine z_dup2 C dX3_move_5 rfl rfl ?_
  refine z_iald C 1 0 rfl rfl f (nI_clamp (by omega)) (vp_in_nI (by omega) (by omega)) (acc f) rfl dX3_move_6 ?_
  refine z_iload_n C dX3_move_7 rfl 3 rfl ?_
  refine z_isub C (v := ((acc f) - x)) dX3_move_8 rfl ?_
  refine z_iast C 1 0 rfl rfl f (nI_clamp (by omega)) (vp_in_nI (by omega) (by omega)) ((acc f) - x) rfl dX3_move_9 [(h0, .inr (3, [.ref h1, .ref h2])), (h1, .inl (cI, 5, .inl (upd acc f ((acc f) - x)))), (h2, .inl (cI, 25, .inl net))] rfl ?_
  refine z_aload_n C dX3_move_10 rfl 0 rfl ?_
  refine z_get C 0 rfl i_X3_move_X3 rfl 0 (by decide) m_X3_move_f9 rfl rfl dX3_move_11 ?_
  refine z_iload_n C dX3_move_14 rfl 2 rfl ?_
  refine z_dup2 C dX3_move_15 rfl rfl ?_
  refine z_iald C 1 0 rfl rfl t (nI_clamp (by omega)) (vp_in_nI (by omega) (by omega)) ((upd acc f ((acc f) - x)) t) rfl dX3_move_16 ?_
  refine z_iload_n C dX3_move_17 rfl 3 rfl ?_
  refine z_iadd C (v := (((upd acc f ((acc f) - x)) t) + x)) dX3_move_18 rfl ?_
  refine z_iast C 1 0 rfl rfl t (nI_clamp (by omega)) (vp_in_nI (by omega) (by omega)) (((upd acc f ((acc f) - x)) t) + x) rfl dX3_move_19 [(h0, .inr (3, [.ref h1, .ref h2])), (h1, .inl (cI, 5, .inl (upd (upd acc f ((acc f) - x)) t (((upd acc f ((acc f) - x)) t) + x)))), (h2, .inl (cI, 25, .inl net))] rfl ?_
  exact z_vret C () (by exact trivial) rfl (by decide) (by decide) dX3_move_20
set_option maxHeartbeats 4000000 in
set_option maxRecDepth 100000 in
theorem c_X3_notePaid (l : Launch) (sa : Nat → Nat) (D : va_G) (cI cZ cL : ClassId) (h0 h1 h2 : Nat) (acc net : Nat → Int32) (f : Nat) (t : Nat) (x : Int32) (hf : f < 5) (ht : t < 5) : zMv (T := Unit) sa D vwCl (zty cI cZ cL) l yX3_notePaid wsX3_notePaid ({ frames := 1, cells := 0, slots := 0, locals := 21 } : Room) [.ref h0, .int (nI f), .int (nI t), .int x] [(h0, .inr (3, [.ref h1, .ref h2])), (h1, .inl (cI, 5, .inl acc)), (h2, .inl (cI, 25, .inl net))] (fun _ => True) (fun _ => [(h0, .inr (3, [.ref h1, .ref h2])), (h1, .inl (cI, 5, .inl acc)), (h2, .inl (cI, 25, .inl (mvN f t x net)))]) 0 0 := by
  refine zMv.of (ret := none) (cc := cX3_notePaid) (nL := 4) (own := RX3) (by decide +kernel) rfl [(0, .ref h0), (1, .int (nI f)), (2, .int (nI t)), (3, .int x)] rfl (Nat.le_of_ble_eq_true rfl) rfl ?_
  intro A p e s m args below meth c C hmn
  refine z_aload_n C dX3_notePaid_0 rfl 0 rfl ?_
  refine z_get C 0 rfl i_X3_notePaid_X3 rfl 1 (by decide) m_X3_notePaid_f15 rfl rfl dX3_notePaid_1 ?_
  refine z_iload_n C dX3_notePaid_4 rfl 1 rfl ?_
  refine z_iload_n C dX3_notePaid_5 rfl 2 rfl ?_
  refine z_callSNi C (T := Unit) (As := [.int (nI f), .int (nI t)]) (rest := [.ref h2]) (ws' := fun _ => [(h0, .inr (3, [.ref h1, .ref h2])), (h1, .inl (cI, 5, .inl acc)), (h2, .inl (cI, 25, .inl net))]) (c_X4_pairOf l sa D cI cZ cL  f t ) ⟨va_cnB 2 C.2.2.2.2.1 gX3_notePaid_X4_pairOf_n18 rfl rfl rfl C.2.2.2.2.2.2.2.1.2.1 (C.2.2.2.2.1 _ m_X3_notePaid_nX4) (by decide +kernel) ⟨Nat.le_of_ble_eq_true rfl, Nat.le_of_ble_eq_true rfl⟩, C.2.2.2.2.1 _ m_X3_notePaid_spairOf, trivial⟩ (fun _ => zSub.none) zIn.none rfl (Nat.le_of_ble_eq_true rfl) ⟨Nat.le_of_ble_eq_true rfl, Nat.le_of_ble_eq_true rfl⟩ dX3_notePaid_6 (fun r_1 _ h_2 => ?_)
  obtain rfl : r_1 = (nI (f * 5 + t)) := h_2
  refine z_dup2 C dX3_notePaid_9 rfl rfl ?_
  refine z_iald C 2 0 rfl rfl (f * 5 + t) (nI_clamp (by omega)) (vp_in_nI (by omega) (by omega)) (net (f * 5 + t)) rfl dX3_notePaid_10 ?_
  refine z_iload_n C dX3_notePaid_11 rfl 3 rfl ?_
  refine z_iadd C (v := ((net (f * 5 + t)) + x)) dX3_notePaid_12 rfl ?_
  refine z_iast C 2 0 rfl rfl (f * 5 + t) (nI_clamp (by omega)) (vp_in_nI (by omega) (by omega)) ((net (f * 5 + t)) + x) rfl dX3_notePaid_13 [(h0, .inr (3, [.ref h1, .ref h2])), (h1, .inl (cI, 5, .inl acc)), (h2, .inl (cI, 25, .inl (upd net (f * 5 + t) ((net (f * 5 + t)) + x))))] rfl ?_
  refine z_aload_n C dX3_notePaid_14 rfl 0 rfl ?_
  refine z_get C 0 rfl i_X3_notePaid_X3 rfl 1 (by decide) m_X3_notePaid_f15 rfl rfl dX3_notePaid_15 ?_
  refine z_iload_n C dX3_notePaid_18 rfl 2 rfl ?_
  refine z_iload_n C dX3_notePaid_19 rfl 1 rfl ?_
  refine z_callSNi C (T := Unit) (As := [.int (nI t), .int (nI f)]) (rest := [.ref h2]) (ws' := fun _ => [(h0, .inr (3, [.ref h1, .ref h2])), (h1, .inl (cI, 5, .inl acc)), (h2, .inl (cI, 25, .inl (upd net (f * 5 + t) ((net (f * 5 + t)) + x))))]) (c_X4_pairOf l sa D cI cZ cL  t f ) ⟨va_cnB 2 C.2.2.2.2.1 gX3_notePaid_X4_pairOf_n18 rfl rfl rfl C.2.2.2.2.2.2.2.1.2.1 (C.2.2.2.2.1 _ m_X3_notePaid_nX4) (by decide +kernel) ⟨Nat.le_of_ble_eq_true rfl, Nat.le_of_ble_eq_true rfl⟩, C.2.2.2.2.1 _ m_X3_notePaid_spairOf, trivial⟩ (fun _ => zSub.none) zIn.none rfl (Nat.le_of_ble_eq_true rfl) ⟨Nat.le_of_ble_eq_true rfl, Nat.le_of_ble_eq_true rfl⟩ dX3_notePaid_20 (fun r_3 _ h_4 => ?_)
  obtain rfl : r_3 = (nI (t * 5 + f)) := h_4
  refine z_dup2 C dX3_notePaid_23 rfl rfl ?_
  refine z_iald C 2 0 rfl rfl (t * 5 + f) (nI_clamp (by omega)) (vp_in_nI (by omega) (by omega)) ((upd net (f * 5 + t) ((net (f * 5 + t)) + x)) (t * 5 + f)) rfl dX3_notePaid_24 ?_
  refine z_iload_n C dX3_notePaid_25 rfl 3 rfl ?_
  refine z_isub C (v := (((upd net (f * 5 + t) ((net (f * 5 + t)) + x)) (t * 5 + f)) - x)) dX3_notePaid_26 rfl ?_
  refine z_iast C 2 0 rfl rfl (t * 5 + f) (nI_clamp (by omega)) (vp_in_nI (by omega) (by omega)) (((upd net (f * 5 + t) ((net (f * 5 + t)) + x)) (t * 5 + f)) - x) rfl dX3_notePaid_27 [(h0, .inr (3, [.ref h1, .ref h2])), (h1, .inl (cI, 5, .inl acc)), (h2, .inl (cI, 25, .inl (upd (upd net (f * 5 + t) ((net (f * 5 + t)) + x)) (t * 5 + f) (((upd net (f * 5 + t) ((net (f * 5 + t)) + x)) (t * 5 + f)) - x))))] rfl ?_
  exact z_vret C () (by exact trivial) rfl (by decide) (by decide) dX3_notePaid_28
set_option maxHeartbeats 4000000 in
set_option maxRecDepth 100000 in
theorem c_X3_forgetPaid (l : Launch) (sa : Nat → Nat) (D : va_G) (cI cZ cL : ClassId) (h0 h1 h2 : Nat) (acc net : Nat → Int32)   : zMv (T := Unit) sa D vwCl (zty cI cZ cL) l yX3_forgetPaid wsX3_forgetPaid ({ frames := 0, cells := 0, slots := 0, locals := 0 } : Room) [.ref h0] [(h0, .inr (3, [.ref h1, .ref h2])), (h1, .inl (cI, 5, .inl acc)), (h2, .inl (cI, 25, .inl net))] (fun _ => True) (fun _ => [(h0, .inr (3, [.ref h1, .ref h2])), (h1, .inl (cI, 5, .inl acc)), (h2, .inl (cI, 25, .inl (clrN net 25)))]) 0 0 := by
  refine zMv.of (ret := none) (cc := cX3_forgetPaid) (nL := 2) (own := RX3) (by decide +kernel) rfl [(0, .ref h0)] rfl (Nat.le_of_ble_eq_true rfl) rfl ?_
  intro A p e s m args below meth c C hmn
  refine z_iconst C (v := 0) dX3_forgetPaid_0 (by decide) ?_
  refine z_istore_n C dX3_forgetPaid_1 rfl (by decide) [(0, .ref h0), (1, .int 0)] [1, 0] rfl ?_
  have L2_k_1 : ∀ (n : Nat) (i : Nat), 25 - i < n → (i ≤ 25) → zW p l e ({ frames := 0, cells := 0, slots := 0, locals := 0 } : Room) s m args below meth c (MQ below (zQv (T := Unit) D vwCl (zty cI cZ cL) A (fun _ => True) (fun _ => [(h0, .inr (3, [.ref h1, .ref h2])), (h1, .inl (cI, 5, .inl acc)), (h2, .inl (cI, 25, .inl (clrN net 25)))])) args s 0 0 A) D vwCl A 2 0 0 [(h0, .inr (3, [.ref h1, .ref h2])), (h1, .inl (cI, 5, .inl acc)), (h2, .inl (cI, 25, .inl (clrN net i)))] [(0, .ref h0), (1, .int (nI i))] 2 [] := by
    intro n
    induction n with
    | zero => intros; omega
    | succ n ih =>
      intro i hm hi
      refine z_iload_n C dX3_forgetPaid_2 rfl 1 rfl ?_
      refine z_bipush C (v := 25) dX3_forgetPaid_3 (by decide) ?_
      refine z_icmp_ge C (tgt := 21) dX3_forgetPaid_5 (by decide) (fun c5_2 => ?_) (fun c5_2 => ?_)
      · skip
        have n_3 : 25 ≤ i := (nI_leI (a := 25) (b := i) (by omega) (by omega)).mp c5_2
        exact z_vret C () (by exact trivial) (by obtain rfl : i = 25 := (by omega); rfl) (by decide) (by decide) dX3_forgetPaid_21
      · skip
        have n_4 : ¬ 25 ≤ i := fun q => c5_2 ((nI_leI (a := 25) (b := i) (by omega) (by omega)).mpr q)
        refine z_aload_n C dX3_forgetPaid_8 rfl 0 rfl ?_
        refine z_get C 0 rfl i_X3_forgetPaid_X3 rfl 1 (by decide) m_X3_forgetPaid_f15 rfl rfl dX3_forgetPaid_9 ?_
        refine z_iload_n C dX3_forgetPaid_12 rfl 1 rfl ?_
        refine z_iconst C (v := 0) dX3_forgetPaid_13 (by decide) ?_
        refine z_iast C 2 0 rfl rfl i (nI_clamp (by omega)) (vp_in_nI (by omega) (by omega)) 0 rfl dX3_forgetPaid_14 [(h0, .inr (3, [.ref h1, .ref h2])), (h1, .inl (cI, 5, .inl acc)), (h2, .inl (cI, 25, .inl (upd (clrN net i) i 0)))] rfl ?_
        refine z_iinc C (v := (nI (i + 1))) dX3_forgetPaid_15 1 rfl (nI_add i 1) (by decide) [(0, .ref h0), (1, .int (nI (i + 1)))] [1, 0] rfl ?_
        refine z_goto C (tgt := 2) dX3_forgetPaid_18 (by decide) ?_
        refine z_ws [(h0, .inr (3, [.ref h1, .ref h2])), (h1, .inl (cI, 5, .inl acc)), (h2, .inl (cI, 25, .inl (clrN net (i + 1))))] (by rw [clrN_s]) ?_
        exact ih (i + 1) (by omega) (by first | assumption | omega)
  refine z_ws [(h0, .inr (3, [.ref h1, .ref h2])), (h1, .inl (cI, 5, .inl acc)), (h2, .inl (cI, 25, .inl (clrN net 0)))] (by rw [clrN_0]) ?_
  exact L2_k_1 (25 - 0 + 1) 0 (Nat.lt_succ_self _) (by first | assumption | omega)