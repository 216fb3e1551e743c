theorem m_X3_init_o3 : Cond.methodLink RX3 3 objectInit ∈ wsX3_init := by decide +kernel
theorem m_X3_init_oi : Cond.instanceMethod objectInit ∈ wsX3_init := by decide +kernel
theorem m_X3_init_oc : Cond.code objectInit ⟨#[0xb1]⟩ 1 none ∈ wsX3_init := by decide +kernel
theorem m_X3_init_aI : Cond.arrayClass .int ∈ wsX3_init := by decide +kernel
theorem m_X3_init_f9 : Cond.fieldLink RX3 9 "Queuefloat$Sums" "accountOf" "[I" ∈ wsX3_init := by decide +kernel
theorem i_X3_init_X3 : ∀ w ∈ wsX30, w ∈ wsX3_init := by decide +kernel
theorem m_X3_init_f15 : Cond.fieldLink RX3 15 "Queuefloat$Sums" "netPaid" "[I" ∈ wsX3_init := by decide +kernel
theorem m_X0_init_o3 : Cond.methodLink RX0 3 objectInit ∈ wsX0_init := by decide +kernel
theorem m_X0_init_oi : Cond.instanceMethod objectInit ∈ wsX0_init := by decide +kernel
theorem m_X0_init_oc : Cond.code objectInit ⟨#[0xb1]⟩ 1 none ∈ wsX0_init := by decide +kernel
theorem m_X0_init_aI : Cond.arrayClass .int ∈ wsX0_init := by decide +kernel
theorem m_X0_init_f9 : Cond.fieldLink RX0 9 "Queuefloat$Limits" "floorOf" "[I" ∈ wsX0_init := by decide +kernel
theorem i_X0_init_X0 : ∀ w ∈ wsX00, w ∈ wsX0_init := by decide +kernel
theorem m_X0_init_f15 : Cond.fieldLink RX0 15 "Queuefloat$Limits" "boundOf" "[I" ∈ wsX0_init := by decide +kernel
theorem m_X0_init_k18 : Cond.constant RX0 18 (1000000) ∈ wsX0_init := by decide +kernel
theorem m_X2_init_o3 : Cond.methodLink RX2 3 objectInit ∈ wsX2_init := by decide +kernel
theorem m_X2_init_oi : Cond.instanceMethod objectInit ∈ wsX2_init := by decide +kernel
theorem m_X2_init_oc : Cond.code objectInit ⟨#[0xb1]⟩ 1 none ∈ wsX2_init := by decide +kernel
theorem m_X2_init_aI : Cond.arrayClass .int ∈ wsX2_init := by decide +kernel
theorem m_X2_init_f9 : Cond.fieldLink RX2 9 "Queuefloat$Payments" "from" "[I" ∈ wsX2_init := by decide +kernel
theorem i_X2_init_X2 : ∀ w ∈ wsX20, w ∈ wsX2_init := by decide +kernel
theorem m_X2_init_f15 : Cond.fieldLink RX2 15 "Queuefloat$Payments" "to" "[I" ∈ wsX2_init := by decide +kernel
theorem m_X2_init_f18 : Cond.fieldLink RX2 18 "Queuefloat$Payments" "amount" "[I" ∈ wsX2_init := by decide +kernel
theorem m_X2_init_f21 : Cond.fieldLink RX2 21 "Queuefloat$Payments" "priorityOf" "[I" ∈ wsX2_init := by decide +kernel
theorem m_X2_init_aZ : Cond.arrayClass .boolean ∈ wsX2_init := by decide +kernel
theorem m_X2_init_f24 : Cond.fieldLink RX2 24 "Queuefloat$Payments" "waits" "[Z" ∈ wsX2_init := by decide +kernel
theorem m_X2_init_f28 : Cond.fieldLink RX2 28 "Queuefloat$Payments" "byPriority" "[I" ∈ wsX2_init := by decide +kernel
theorem m_X1_init_o3 : Cond.methodLink RX1 3 objectInit ∈ wsX1_init := by decide +kernel
theorem m_X1_init_oi : Cond.instanceMethod objectInit ∈ wsX1_init := by decide +kernel
theorem m_X1_init_oc : Cond.code objectInit ⟨#[0xb1]⟩ 1 none ∈ wsX1_init := by decide +kernel
theorem m_X1_init_aI : Cond.arrayClass .int ∈ wsX1_init := by decide +kernel
theorem m_X1_init_f9 : Cond.fieldLink RX1 9 "Queuefloat$Loans" "lender" "[I" ∈ wsX1_init := by decide +kernel
theorem i_X1_init_X1 : ∀ w ∈ wsX10, w ∈ wsX1_init := by decide +kernel
theorem m_X1_init_f15 : Cond.fieldLink RX1 15 "Queuefloat$Loans" "borrower" "[I" ∈ wsX1_init := by decide +kernel
theorem m_X1_init_f18 : Cond.fieldLink RX1 18 "Queuefloat$Loans" "due" "[I" ∈ wsX1_init := by decide +kernel
theorem m_X1_init_f21 : Cond.fieldLink RX1 21 "Queuefloat$Loans" "pledge" "[I" ∈ wsX1_init := by decide +kernel
theorem m_X4_init_o1 : Cond.methodLink RX4 1 objectInit ∈ wsX4_init := by decide +kernel
theorem m_X4_init_oi : Cond.instanceMethod objectInit ∈ wsX4_init := by decide +kernel
theorem m_X4_init_oc : Cond.code objectInit ⟨#[0xb1]⟩ 1 none ∈ wsX4_init := by decide +kernel
theorem i_X4_init_X3 : ∀ w ∈ wsX30, w ∈ wsX4_init := by decide +kernel
theorem m_X4_init_c7 : Cond.classLink RX4 7 RX3 ∈ wsX4_init := by decide +kernel
theorem m_X4_init_sX3 : Cond.instantiable RX3 2 ∈ wsX4_init := by decide +kernel
theorem m_X4_init_nX3 : Cond.initialized RX3 ∈ wsX4_init := by decide +kernel
theorem m_X4_init_l9 : Cond.methodLink RX4 9 yX3_init ∈ wsX4_init := by decide +kernel
theorem m_X4_init_imX3_init : Cond.instanceMethod yX3_init ∈ wsX4_init := by decide +kernel
theorem m_X4_init_f10 : Cond.fieldLink RX4 10 "Queuefloat" "sums" "LQueuefloat$Sums;" ∈ wsX4_init := by decide +kernel
theorem i_X4_init_X4 : ∀ w ∈ wsX40, w ∈ wsX4_init := by decide +kernel
theorem m_X4_init_f16 : Cond.fieldLink RX4 16 "Queuefloat" "trial" "LQueuefloat$Sums;" ∈ wsX4_init := by decide +kernel
theorem i_X4_init_X0 : ∀ w ∈ wsX00, w ∈ wsX4_init := by decide +kernel
theorem m_X4_init_c19 : Cond.classLink RX4 19 RX0 ∈ wsX4_init := by decide +kernel
theorem m_X4_init_sX0 : Cond.instantiable RX0 2 ∈ wsX4_init := by decide +kernel
theorem m_X4_init_nX0 : Cond.initialized RX0 ∈ wsX4_init := by decide +kernel
theorem m_X4_init_l21 : Cond.methodLink RX4 21 yX0_init ∈ wsX4_init := by decide +kernel
theorem m_X4_init_imX0_init : Cond.instanceMethod yX0_init ∈ wsX4_init := by decide +kernel
theorem m_X4_init_f22 : Cond.fieldLink RX4 22 "Queuefloat" "limits" "LQueuefloat$Limits;" ∈ wsX4_init := by decide +kernel
theorem i_X4_init_X2 : ∀ w ∈ wsX20, w ∈ wsX4_init := by decide +kernel
theorem m_X4_init_c26 : Cond.classLink RX4 26 RX2 ∈ wsX4_init := by decide +kernel
theorem m_X4_init_sX2 : Cond.instantiable RX2 7 ∈ wsX4_init := by decide +kernel
theorem m_X4_init_nX2 : Cond.initialized RX2 ∈ wsX4_init := by decide +kernel
theorem m_X4_init_l28 : Cond.methodLink RX4 28 yX2_init ∈ wsX4_init := by decide +kernel
theorem m_X4_init_imX2_init : Cond.instanceMethod yX2_init ∈ wsX4_init := by decide +kernel
theorem m_X4_init_f29 : Cond.fieldLink RX4 29 "Queuefloat" "payments" "LQueuefloat$Payments;" ∈ wsX4_init := by decide +kernel
theorem i_X4_init_X1 : ∀ w ∈ wsX10, w ∈ wsX4_init := by decide +kernel
theorem m_X4_init_c33 : Cond.classLink RX4 33 RX1 ∈ wsX4_init := by decide +kernel
theorem m_X4_init_sX1 : Cond.instantiable RX1 6 ∈ wsX4_init := by decide +kernel
theorem m_X4_init_nX1 : Cond.initialized RX1 ∈ wsX4_init := by decide +kernel
theorem m_X4_init_l35 : Cond.methodLink RX4 35 yX1_init ∈ wsX4_init := by decide +kernel
theorem m_X4_init_imX1_init : Cond.instanceMethod yX1_init ∈ wsX4_init := by decide +kernel
theorem m_X4_init_f36 : Cond.fieldLink RX4 36 "Queuefloat" "market" "LQueuefloat$Loans;" ∈ wsX4_init := by decide +kernel
theorem m_X4_init_aZ : Cond.arrayClass .boolean ∈ wsX4_init := by decide +kernel
theorem m_X4_init_f40 : Cond.fieldLink RX4 40 "Queuefloat" "closed" "[Z" ∈ wsX4_init := by decide +kernel
theorem m_X4_init_aI : Cond.arrayClass .int ∈ wsX4_init := by decide +kernel
theorem m_X4_init_f44 : Cond.fieldLink RX4 44 "Queuefloat" "papersOf" "[I" ∈ wsX4_init := by decide +kernel
theorem m_X4_init_f48 : Cond.fieldLink RX4 48 "Queuefloat" "candidates" "[I" ∈ wsX4_init := by decide +kernel
theorem m_X4_init_f51 : Cond.fieldLink RX4 51 "Queuefloat" "small" "I" ∈ wsX4_init := by decide +kernel
theorem m_X4_init_f55 : Cond.fieldLink RX4 55 "Queuefloat" "paperPrice" "I" ∈ wsX4_init := by decide +kernel
theorem m_X4_init_f58 : Cond.fieldLink RX4 58 "Queuefloat" "paperCut" "I" ∈ wsX4_init := by decide +kernel
def bnI (i : Nat) : Nat → Int32 := fun k => if k < i then 1000000 else 0
theorem bnI_0 : bnI 0 = (fun _ => 0) := by funext k; simp [bnI]
theorem bnI_s (i : Nat) : upd (bnI i) i 1000000 = bnI (i + 1) := by
  funext k
  unfold upd bnI
  by_cases e : k = i
  · subst e; simp
  · simp only [e, if_false]
    by_cases h : k < i
    · rw [if_pos h, if_pos (by omega)]
    · rw [if_neg h, if_neg (by omega)]
set_option maxHeartbeats 4000000 in
set_option maxRecDepth 100000 in
theorem c_X3_init (l : Launch) (sa : Nat → Nat) (D : va_G) (cI cZ cL : ClassId) (h0 : Nat)   : zMv (T := Nat × Nat) sa D vwCl (zty cI cZ cL) l yX3_init wsX3_init ({ frames := 1, cells := 2, slots := 30, locals := 12 } : Room) [.ref h0] [(h0, .inr (3, [.null, .null]))] (fun _ => True) (fun u => [(h0, .inr (3, [.ref u.1, .ref u.2])), (u.1, .inl (cI, 5, .inl (fun _ => 0))), (u.2, .inl (cI, 25, .inl (fun _ => 0)))]) 2 30 := by
  refine zMv.of (ret := none) (cc := cX3_init) (nL := 1) (own := RX3) (by decide +kernel) rfl [(0, .ref h0)] rfl (Nat.le_of_ble_eq_true rfl) rfl ?_
  intro A p e s m args below meth c C hmn
  refine z_aload_n C dX3_init_0 rfl 0 rfl ?_
  refine z_objInit C m_X3_init_o3 m_X3_init_oi m_X3_init_oc ⟨Nat.le_of_ble_eq_true rfl, Nat.le_of_ble_eq_true rfl⟩ dX3_init_1 ?_
  refine z_aload_n C dX3_init_4 rfl 0 rfl ?_
  refine z_iconst C (v := 5) dX3_init_5 (by decide) ?_
  refine z_newaI C m_X3_init_aI 0 rfl (N := 5) (by decide) (by decide) (by decide) ⟨Nat.le_of_ble_eq_true rfl, Nat.le_of_ble_eq_true rfl⟩ dX3_init_6 (fun q_1 => ?_)
  refine z_putF C 0 rfl i_X3_init_X3 rfl 0 (by decide) m_X3_init_f9 rfl tyX3 tyX3_ok nmX3 rfl hmn rfl (ty := (.array .int)) (by decide +kernel) rfl rfl (Nat.le_of_ble_eq_true rfl) dX3_init_8 [(h0, .inr (3, [.ref q_1, .null])), (q_1, .inl (cI, 5, .inl (fun _ => 0)))] rfl ?_
  refine z_aload_n C dX3_init_11 rfl 0 rfl ?_
  refine z_bipush C (v := 25) dX3_init_12 (by decide) ?_
  refine z_newaI C m_X3_init_aI 0 rfl (N := 25) (by decide) (by decide) (by decide) ⟨Nat.le_of_ble_eq_true rfl, Nat.le_of_ble_eq_true rfl⟩ dX3_init_14 (fun q_2 => ?_)
  refine z_putF C 0 rfl i_X3_init_X3 rfl 1 (by decide) m_X3_init_f15 rfl tyX3 tyX3_ok nmX3 rfl hmn rfl (ty := (.array .int)) (by decide +kernel) rfl rfl (Nat.le_of_ble_eq_true rfl) dX3_init_16 [(h0, .inr (3, [.ref q_1, .ref q_2])), (q_1, .inl (cI, 5, .inl (fun _ => 0))), (q_2, .inl (cI, 25, .inl (fun _ => 0)))] rfl ?_
  exact z_vret C (q_1, q_2) (by exact trivial) rfl (by decide) (by decide) dX3_init_19
set_option maxHeartbeats 4000000 in
set_option maxRecDepth 100000 in
theorem c_X0_init (l : Launch) (sa : Nat → Nat) (D : va_G) (cI cZ cL : ClassId) (h0 : Nat)   : zMv (T := Nat × Nat) sa D vwCl (zty cI cZ cL) l yX0_init wsX0_init ({ frames := 1, cells := 2, slots := 30, locals := 12 } : Room) [.ref h0] [(h0, .inr (0, [.null, .null]))] (fun _ => True) (fun u => [(h0, .inr (0, [.ref u.1, .ref u.2])), (u.1, .inl (cI, 5, .inl (fun _ => 0))), (u.2, .inl (cI, 25, .inl (bnI 25)))]) 2 30 := by
  refine zMv.of (ret := none) (cc := cX0_init) (nL := 2) (own := RX0) (by decide +kernel) rfl [(0, .ref h0)] rfl (Nat.le_of_ble_eq_true rfl) rfl ?_
  intro A p e s m args below meth c C hmn
  refine z_aload_n C dX0_init_0 rfl 0 rfl ?_
  refine z_objInit C m_X0_init_o3 m_X0_init_oi m_X0_init_oc ⟨Nat.le_of_ble_eq_true rfl, Nat.le_of_ble_eq_true rfl⟩ dX0_init_1 ?_
  refine z_aload_n C dX0_init_4 rfl 0 rfl ?_
  refine z_iconst C (v := 5) dX0_init_5 (by decide) ?_
  refine z_newaI C m_X0_init_aI 0 rfl (N := 5) (by decide) (by decide) (by decide) ⟨Nat.le_of_ble_eq_true rfl, Nat.le_of_ble_eq_true rfl⟩ dX0_init_6 (fun q_1 => ?_)
  refine z_putF C 0 rfl i_X0_init_X0 rfl 0 (by decide) m_X0_init_f9 rfl tyX0 tyX0_ok nmX0 rfl hmn rfl (ty := (.array .int)) (by decide +kernel) rfl rfl (Nat.le_of_ble_eq_true rfl) dX0_init_8 [(h0, .inr (0, [.ref q_1, .null])), (q_1, .inl (cI, 5, .inl (fun _ => 0)))] rfl ?_
  refine z_aload_n C dX0_init_11 rfl 0 rfl ?_
  refine z_bipush C (v := 25) dX0_init_12 (by decide) ?_
  refine z_newaI C m_X0_init_aI 0 rfl (N := 25) (by decide) (by decide) (by decide) ⟨Nat.le_of_ble_eq_true rfl, Nat.le_of_ble_eq_true rfl⟩ dX0_init_14 (fun q_2 => ?_)
  refine z_putF C 0 rfl i_X0_init_X0 rfl 1 (by decide) m_X0_init_f15 rfl tyX0 tyX0_ok nmX0 rfl hmn rfl (ty := (.array .int)) (by decide +kernel) rfl rfl (Nat.le_of_ble_eq_true rfl) dX0_init_16 [(h0, .inr (0, [.ref q_1, .ref q_2])), (q_1, .inl (cI, 5, .inl (fun _ => 0))), (q_2, .inl (cI, 25, .inl (fun _ => 0)))] rfl ?_
  refine z_iconst C (v := 0) dX0_init_19 (by decide) ?_
  refine z_istore_n C dX0_init_20 rfl (by decide) [(0, .ref h0), (1, .int 0)] [1, 0] rfl ?_
  have L21_k_3 : ∀ (n : Nat) (i : Nat), 25 - i < n → (i ≤ 25) → zW 0 p l e ({ frames := 1, cells := 2, slots := 30, locals := 12 } : Room) s m args below meth c (MQ below (zQv (T := Nat × Nat) D vwCl (zty cI cZ cL) A (fun _ => True) (fun u => [(h0, .inr (0, [.ref u.1, .ref u.2])), (u.1, .inl (cI, 5, .inl (fun _ => 0))), (u.2, .inl (cI, 25, .inl (bnI 25)))])) args s 2 30 A) D vwCl A 2 2 30 [(h0, .inr (0, [.ref q_1, .ref q_2])), (q_1, .inl (cI, 5, .inl (fun _ => 0))), (q_2, .inl (cI, 25, .inl (bnI i)))] [(0, .ref h0), (1, .int (nI i))] 21 [] := by
    intro n
    induction n with
    | zero => intros; omega
    | succ n ih_4 =>
      intro i hm_5 hi
      refine z_iload_n C dX0_init_21 rfl 1 rfl ?_
      refine z_bipush C (v := 25) dX0_init_22 (by decide) ?_
      refine z_icmp_ge C (tgt := 41) dX0_init_24 (by decide) (fun c24_6 => ?_) (fun c24_6 => ?_)
      · skip
        have n_7 : 25 ≤ i := (nI_leI (a := 25) (b := i) (by omega) (by omega)).mp c24_6
        exact z_vret C (q_1, q_2) (by exact trivial) (by rw [show i = 25 by omega]) (by decide) (by decide) dX0_init_41
      · skip
        have n_8 : ¬ 25 ≤ i := fun q => c24_6 ((nI_leI (a := 25) (b := i) (by omega) (by omega)).mpr q)
        refine z_aload_n C dX0_init_27 rfl 0 rfl ?_
        refine z_get C 0 rfl i_X0_init_X0 rfl 1 (by decide) m_X0_init_f15 rfl rfl dX0_init_28 ?_
        refine z_iload_n C dX0_init_31 rfl 1 rfl ?_
        refine z_ldc C m_X0_init_k18 dX0_init_32 ?_
        refine z_iast C 2 0 rfl rfl i (nI_clamp (by omega)) (vp_in_nI (by omega) (by omega)) 1000000 rfl dX0_init_34 [(h0, .inr (0, [.ref q_1, .ref q_2])), (q_1, .inl (cI, 5, .inl (fun _ => 0))), (q_2, .inl (cI, 25, .inl (upd (bnI i) i 1000000)))] rfl ?_
        refine z_iinc C (v := (nI (i + 1))) dX0_init_35 1 rfl (nI_add i 1) (by decide) [(0, .ref h0), (1, .int (nI (i + 1)))] [1, 0] rfl ?_
        refine z_goto C (tgt := 21) dX0_init_38 (by decide) ?_
        refine z_ws [(h0, .inr (0, [.ref q_1, .ref q_2])), (q_1, .inl (cI, 5, .inl (fun _ => 0))), (q_2, .inl (cI, 25, .inl (bnI (i + 1))))] (by rw [bnI_s]) ?_
        exact ih_4 (i + 1) (by omega) (by first | assumption | omega)
  refine z_ws [(h0, .inr (0, [.ref q_1, .ref q_2])), (q_1, .inl (cI, 5, .inl (fun _ => 0))), (q_2, .inl (cI, 25, .inl (bnI 0)))] (by rw [bnI_0]) ?_
  refine z_lveq [(0, .ref h0), (1, .int (nI 0))] (by rfl) ?_
  exact L21_k_3 (25 - 0 + 1) 0 (Nat.lt_succ_self _) (by first | assumption | omega)
set_option maxHeartbeats 4000000 in
set_option maxRecDepth 100000 in
theorem c_X2_init (l : Launch) (sa : Nat → Nat) (D : va_G) (cI cZ cL : ClassId) (h0 : Nat)   : zMv (T := Nat × Nat × Nat × Nat × Nat × Nat) sa D vwCl (zty cI cZ cL) l yX2_init wsX2_init ({ frames := 1, cells := 6, slots := 360, locals := 12 } : Room) [.ref h0] [(h0, .inr (2, [.null, .null, .null, .null, .null, .null, .int 0]))] (fun _ => True) (fun u => [(h0, .inr (2, [.ref u.1, .ref u.2.1, .ref u.2.2.1, .ref u.2.2.2.1, .ref u.2.2.2.2.1, .ref u.2.2.2.2.2, .int 0])), (u.1, .inl (cI, 60, .inl (fun _ => 0))), (u.2.1, .inl (cI, 60, .inl (fun _ => 0))), (u.2.2.1, .inl (cI, 60, .inl (fun _ => 0))), (u.2.2.2.1, .inl (cI, 60, .inl (fun _ => 0))), (u.2.2.2.2.1, .inl (cZ, 60, .inl (fun _ => 0))), (u.2.2.2.2.2, .inl (cI, 60, .inl (fun _ => 0)))]) 6 360 := by
  refine zMv.of (ret := none) (cc := cX2_init) (nL := 1) (own := RX2) (by decide +kernel) rfl [(0, .ref h0)] rfl (Nat.le_of_ble_eq_true rfl) rfl ?_
  intro A p e s m args below meth c C hmn
  refine z_aload_n C dX2_init_0 rfl 0 rfl ?_
  refine z_objInit C m_X2_init_o3 m_X2_init_oi m_X2_init_oc ⟨Nat.le_of_ble_eq_true rfl, Nat.le_of_ble_eq_true rfl⟩ dX2_init_1 ?_
  refine z_aload_n C dX2_init_4 rfl 0 rfl ?_
  refine z_bipush C (v := 60) dX2_init_5 (by decide) ?_
  refine z_newaI C m_X2_init_aI 0 rfl (N := 60) (by decide) (by decide) (by decide) ⟨Nat.le_of_ble_eq_true rfl, Nat.le_of_ble_eq_true rfl⟩ dX2_init_7 (fun q_1 => ?_)
  refine z_putF C 0 rfl i_X2_init_X2 rfl 0 (by decide) m_X2_init_f9 rfl tyX2 tyX2_ok nmX2 rfl hmn rfl (ty := (.array .int)) (by decide +kernel) rfl rfl (Nat.le_of_ble_eq_true rfl) dX2_init_9 [(h0, .inr (2, [.ref q_1, .null, .null, .null, .null, .null, .int 0])), (q_1, .inl (cI, 60, .inl (fun _ => 0)))] rfl ?_
  refine z_aload_n C dX2_init_12 rfl 0 rfl ?_
  refine z_bipush C (v := 60) dX2_init_13 (by decide) ?_
  refine z_newaI C m_X2_init_aI 0 rfl (N := 60) (by decide) (by decide) (by decide) ⟨Nat.le_of_ble_eq_true rfl, Nat.le_of_ble_eq_true rfl⟩ dX2_init_15 (fun q_2 => ?_)
  refine z_putF C 0 rfl i_X2_init_X2 rfl 1 (by decide) m_X2_init_f15 rfl tyX2 tyX2_ok nmX2 rfl hmn rfl (ty := (.array .int)) (by decide +kernel) rfl rfl (Nat.le_of_ble_eq_true rfl) dX2_init_17 [(h0, .inr (2, [.ref q_1, .ref q_2, .null, .null, .null, .null, .int 0])), (q_1, .inl (cI, 60, .inl (fun _ => 0))), (q_2, .inl (cI, 60, .inl (fun _ => 0)))] rfl ?_
  refine z_aload_n C dX2_init_20 rfl 0 rfl ?_
  refine z_bipush C (v := 60) dX2_init_21 (by decide) ?_
  refine z_newaI C m_X2_init_aI 0 rfl (N := 60) (by decide) (by decide) (by decide) ⟨Nat.le_of_ble_eq_true rfl, Nat.le_of_ble_eq_true rfl⟩ dX2_init_23 (fun q_3 => ?_)
  refine z_putF C 0 rfl i_X2_init_X2 rfl 2 (by decide) m_X2_init_f18 rfl tyX2 tyX2_ok nmX2 rfl hmn rfl (ty := (.array .int)) (by decide +kernel) rfl rfl (Nat.le_of_ble_eq_true rfl) dX2_init_25 [(h0, .inr (2, [.ref q_1, .ref q_2, .ref q_3, .null, .null, .null, .int 0])), (q_1, .inl (cI, 60, .inl (fun _ => 0))), (q_2, .inl (cI, 60, .inl (fun _ => 0))), (q_3, .inl (cI, 60, .inl (fun _ => 0)))] rfl ?_
  refine z_aload_n C dX2_init_28 rfl 0 rfl ?_
  refine z_bipush C (v := 60) dX2_init_29 (by decide) ?_
  refine z_newaI C m_X2_init_aI 0 rfl (N := 60) (by decide) (by decide) (by decide) ⟨Nat.le_of_ble_eq_true rfl, Nat.le_of_ble_eq_true rfl⟩ dX2_init_31 (fun q_4 => ?_)
  refine z_putF C 0 rfl i_X2_init_X2 rfl 3 (by decide) m_X2_init_f21 rfl tyX2 tyX2_ok nmX2 rfl hmn rfl (ty := (.array .int)) (by decide +kernel) rfl rfl (Nat.le_of_ble_eq_true rfl) dX2_init_33 [(h0, .inr (2, [.ref q_1, .ref q_2, .ref q_3, .ref q_4, .null, .null, .int 0])), (q_1, .inl (cI, 60, .inl (fun _ => 0))), (q_2, .inl (cI, 60, .inl (fun _ => 0))), (q_3, .inl (cI, 60, .inl (fun _ => 0))), (q_4, .inl (cI, 60, .inl (fun _ => 0)))] rfl ?_
  refine z_aload_n C dX2_init_36 rfl 0 rfl ?_
  refine z_bipush C (v := 60) dX2_init_37 (by decide) ?_
  refine z_newaZ C m_X2_init_aZ 1 rfl (N := 60) (by decide) (by decide) (by decide) ⟨Nat.le_of_ble_eq_true rfl, Nat.le_of_ble_eq_true rfl⟩ dX2_init_39 (fun q_5 => ?_)
  refine z_putF C 0 rfl i_X2_init_X2 rfl 4 (by decide) m_X2_init_f24 rfl tyX2 tyX2_ok nmX2 rfl hmn rfl (ty := (.array .boolean)) (by decide +kernel) rfl rfl (Nat.le_of_ble_eq_true rfl) dX2_init_41 [(h0, .inr (2, [.ref q_1, .ref q_2, .ref q_3, .ref q_4, .ref q_5, .null, .int 0])), (q_1, .inl (cI, 60, .inl (fun _ => 0))), (q_2, .inl (cI, 60, .inl (fun _ => 0))), (q_3, .inl (cI, 60, .inl (fun _ => 0))), (q_4, .inl (cI, 60, .inl (fun _ => 0))), (q_5, .inl (cZ, 60, .inl (fun _ => 0)))] rfl ?_
  refine z_aload_n C dX2_init_44 rfl 0 rfl ?_
  refine z_bipush C (v := 60) dX2_init_45 (by decide) ?_
  refine z_newaI C m_X2_init_aI 0 rfl (N := 60) (by decide) (by decide) (by decide) ⟨Nat.le_of_ble_eq_true rfl, Nat.le_of_ble_eq_true rfl⟩ dX2_init_47 (fun q_6 => ?_)
  refine z_putF C 0 rfl i_X2_init_X2 rfl 5 (by decide) m_X2_init_f28 rfl tyX2 tyX2_ok nmX2 rfl hmn rfl (ty := (.array .int)) (by decide +kernel) rfl rfl (Nat.le_of_ble_eq_true rfl) dX2_init_49 [(h0, .inr (2, [.ref q_1, .ref q_2, .ref q_3, .ref q_4, .ref q_5, .ref q_6, .int 0])), (q_1, .inl (cI, 60, .inl (fun _ => 0))), (q_2, .inl (cI, 60, .inl (fun _ => 0))), (q_3, .inl (cI, 60, .inl (fun _ => 0))), (q_4, .inl (cI, 60, .inl (fun _ => 0))), (q_5, .inl (cZ, 60, .inl (fun _ => 0))), (q_6, .inl (cI, 60, .inl (fun _ => 0)))] rfl ?_
  exact z_vret C (q_1, q_2, q_3, q_4, q_5, q_6) (by exact trivial) rfl (by decide) (by decide) dX2_init_52
set_option maxHeartbeats 4000000 in
set_option maxRecDepth 100000 in
theorem c_X1_init (l : Launch) (sa : Nat → Nat) (D : va_G) (cI cZ cL : ClassId) (h0 : Nat)   : zMv (T := Nat × Nat × Nat × Nat) sa D vwCl (zty cI cZ cL) l yX1_init wsX1_init ({ frames := 1, cells := 4, slots := 160, locals := 12 } : Room) [.ref h0] [(h0, .inr (1, [.null, .null, .null, .null, .int 0, .int 0]))] (fun _ => True) (fun u => [(h0, .inr (1, [.ref u.1, .ref u.2.1, .ref u.2.2.1, .ref u.2.2.2, .int 0, .int 0])), (u.1, .inl (cI, 40, .inl (fun _ => 0))), (u.2.1, .inl (cI, 40, .inl (fun _ => 0))), (u.2.2.1, .inl (cI, 40, .inl (fun _ => 0))), (u.2.2.2, .inl (cI, 40, .inl (fun _ => 0)))]) 4 160 := by
  refine zMv.of (ret := none) (cc := cX1_init) (nL := 1) (own := RX1) (by decide +kernel) rfl [(0, .ref h0)] rfl (Nat.le_of_ble_eq_true rfl) rfl ?_
  intro A p e s m args below meth c C hmn
  refine z_aload_n C dX1_init_0 rfl 0 rfl ?_
  refine z_objInit C m_X1_init_o3 m_X1_init_oi m_X1_init_oc ⟨Nat.le_of_ble_eq_true rfl, Nat.le_of_ble_eq_true rfl⟩ dX1_init_1 ?_
  refine z_aload_n C dX1_init_4 rfl 0 rfl ?_
  refine z_bipush C (v := 40) dX1_init_5 (by decide) ?_
  refine z_newaI C m_X1_init_aI 0 rfl (N := 40) (by decide) (by decide) (by decide) ⟨Nat.le_of_ble_eq_true rfl, Nat.le_of_ble_eq_true rfl⟩ dX1_init_7 (fun q_1 => ?_)
  refine z_putF C 0 rfl i_X1_init_X1 rfl 0 (by decide) m_X1_init_f9 rfl tyX1 tyX1_ok nmX1 rfl hmn rfl (ty := (.array .int)) (by decide +kernel) rfl rfl (Nat.le_of_ble_eq_true rfl) dX1_init_9 [(h0, .inr (1, [.ref q_1, .null, .null, .null, .int 0, .int 0])), (q_1, .inl (cI, 40, .inl (fun _ => 0)))] rfl ?_
  refine z_aload_n C dX1_init_12 rfl 0 rfl ?_
  refine z_bipush C (v := 40) dX1_init_13 (by decide) ?_
  refine z_newaI C m_X1_init_aI 0 rfl (N := 40) (by decide) (by decide) (by decide) ⟨Nat.le_of_ble_eq_true rfl, Nat.le_of_ble_eq_true rfl⟩ dX1_init_15 (fun q_2 => ?_)
  refine z_putF C 0 rfl i_X1_init_X1 rfl 1 (by decide) m_X1_init_f15 rfl tyX1 tyX1_ok nmX1 rfl hmn rfl (ty := (.array .int)) (by decide +kernel) rfl rfl (Nat.le_of_ble_eq_true rfl) dX1_init_17 [(h0, .inr (1, [.ref q_1, .ref q_2, .null, .null, .int 0, .int 0])), (q_1, .inl (cI, 40, .inl (fun _ => 0))), (q_2, .inl (cI, 40, .inl (fun _ => 0)))] rfl ?_
  refine z_aload_n C dX1_init_20 rfl 0 rfl ?_
  refine z_bipush C (v := 40) dX1_init_21 (by decide) ?_
  refine z_newaI C m_X1_init_aI 0 rfl (N := 40) (by decide) (by decide) (by decide) ⟨Nat.le_of_ble_eq_true rfl, Nat.le_of_ble_eq_true rfl⟩ dX1_init_23 (fun q_3 => ?_)
  refine z_putF C 0 rfl i_X1_init_X1 rfl 2 (by decide) m_X1_init_f18 rfl tyX1 tyX1_ok nmX1 rfl hmn rfl (ty := (.array .int)) (by decide +kernel) rfl rfl (Nat.le_of_ble_eq_true rfl) dX1_init_25 [(h0, .inr (1, [.ref q_1, .ref q_2, .ref q_3, .null, .int 0, .int 0])), (q_1, .inl (cI, 40, .inl (fun _ => 0))), (q_2, .inl (cI, 40, .inl (fun _ => 0))), (q_3, .inl (cI, 40, .inl (fun _ => 0)))] rfl ?_
  refine z_aload_n C dX1_init_28 rfl 0 rfl ?_
  refine z_bipush C (v := 40) dX1_init_29 (by decide) ?_
  refine z_newaI C m_X1_init_aI 0 rfl (N := 40) (by decide) (by decide) (by decide) ⟨Nat.le_of_ble_eq_true rfl, Nat.le_of_ble_eq_true rfl⟩ dX1_init_31 (fun q_4 => ?_)
  refine z_putF C 0 rfl i_X1_init_X1 rfl 3 (by decide) m_X1_init_f21 rfl tyX1 tyX1_ok nmX1 rfl hmn rfl (ty := (.array .int)) (by decide +kernel) rfl rfl (Nat.le_of_ble_eq_true rfl) dX1_init_33 [(h0, .inr (1, [.ref q_1, .ref q_2, .ref q_3, .ref q_4, .int 0, .int 0])), (q_1, .inl (cI, 40, .inl (fun _ => 0))), (q_2, .inl (cI, 40, .inl (fun _ => 0))), (q_3, .inl (cI, 40, .inl (fun _ => 0))), (q_4, .inl (cI, 40, .inl (fun _ => 0)))] rfl ?_
  exact z_vret C (q_1, q_2, q_3, q_4) (by exact trivial) rfl (by decide) (by decide) dX1_init_36
set_option maxHeartbeats 4000000 in
set_option maxRecDepth 100000 in
theorem c_X4_init (l : Launch) (sa : Nat → Nat) (D : va_G) (cI cZ cL : ClassId) (h0 : Nat)   : zMv (T := Nat → Nat) sa D vwCl (zty cI cZ cL) l yX4_init wsX4_init ({ frames := 2, cells := 24, slots := 649, locals := 33 } : Room) [.ref h0] [(h0, .inr (4, [.null, .null, .null, .null, .null, .null, .null, .null, .int 0, .int 0, .int 0, .int 0]))] (fun u => u 0 = h0) (fun u => wX u cI cZ (fun _ => 0) (fun _ => 0) (fun _ => 0) (fun _ => 0) (fun _ => 0) (bnI 25) (fun _ => 0) (fun _ => 0) (fun _ => 0) (fun _ => 0) (fun _ => 0) (fun _ => 0) (fun _ => 0) (fun _ => 0) (fun _ => 0) (fun _ => 0) (fun _ => 0) (fun _ => 0) (fun _ => 0) 100 100 200 0 (nI 0) (nI 0) (nI 0)) 24 649 := by
  refine zMv.of (ret := none) (cc := cX4_init) (nL := 1) (own := RX4) (by decide +kernel) rfl [(0, .ref h0)] rfl (Nat.le_of_ble_eq_true rfl) rfl ?_
  intro A p e s m args below meth c C hmn
  refine z_aload_n C dX4_init_0 rfl 0 rfl ?_
  refine z_objInit C m_X4_init_o1 m_X4_init_oi m_X4_init_oc ⟨Nat.le_of_ble_eq_true rfl, Nat.le_of_ble_eq_true rfl⟩ dX4_init_1 ?_
  refine z_aload_n C dX4_init_4 rfl 0 rfl ?_
  refine z_new C i_X4_init_X3 tyX3 tyX3_ok m_X4_init_c7 m_X4_init_sX3 m_X4_init_nX3 (ci := 3) rfl (fs := [.null, .null]) (z_dvX3) ⟨Nat.le_of_ble_eq_true rfl, Nat.le_of_ble_eq_true rfl⟩ dX4_init_5 (fun q_1 => ?_)
  refine z_dup C dX4_init_8 rfl ?_
  refine z_callIv C (ret9 := none) (As := []) (rest := [.ref q_1, .ref h0]) (ws' := fun u_4 => [(h0, .inr (4, [.null, .null, .null, .null, .null, .null, .null, .null, .int 0, .int 0, .int 0, .int 0])), (q_1, .inr (3, [.ref u_4.1, .ref u_4.2])), (u_4.1, .inl (cI, 5, .inl (fun _ => 0))), (u_4.2, .inl (cI, 25, .inl (fun _ => 0)))]) (c_X3_init l sa D cI cZ cL q_1  ) (cwI 0 C.2.2.2.2.1 gX4_init_X3_init rfl rfl rfl (C.2.2.2.2.1 _ m_X4_init_nX3) (C.2.2.2.2.1 _ m_X4_init_l9) (C.2.2.2.2.1 _ m_X4_init_imX3_init) rfl (by decide +kernel) ⟨Nat.le_of_ble_eq_true rfl, Nat.le_of_ble_eq_true rfl⟩) (fun u_4 => (zSub.of (wr := [(h0, .inr (4, [.null, .null, .null, .null, .null, .null, .null, .null, .int 0, .int 0, .int 0, .int 0]))]) [1] [0] [0, 1, 2, 3] rfl rfl rfl rfl (by decide) rfl rfl)) (zIn.of [1] rfl rfl) rfl (Nat.le_of_ble_eq_true rfl) ⟨Nat.le_of_ble_eq_true rfl, Nat.le_of_ble_eq_true rfl⟩ dX4_init_9 (fun u_4 _ => ?_)
  obtain ⟨q_2, q_3⟩ := u_4
  refine z_putF C 0 rfl i_X4_init_X4 rfl 0 (by decide) m_X4_init_f10 rfl tyX4 tyX4_ok nmX4 rfl hmn rfl (ty := (.object "Queuefloat$Sums")) (by decide +kernel) rfl rfl (Nat.le_of_ble_eq_true rfl) dX4_init_12 [(h0, .inr (4, [.ref q_1, .null, .null, .null, .null, .null, .null, .null, .int 0, .int 0, .int 0, .int 0])), (q_1, .inr (3, [.ref q_2, .ref q_3])), (q_2, .inl (cI, 5, .inl (fun _ => 0))), (q_3, .inl (cI, 25, .inl (fun _ => 0)))] rfl ?_
  refine z_aload_n C dX4_init_15 rfl 0 rfl ?_
  refine z_new C i_X4_init_X3 tyX3 tyX3_ok m_X4_init_c7 m_X4_init_sX3 m_X4_init_nX3 (ci := 3) rfl (fs := [.null, .null]) (z_dvX3) ⟨Nat.le_of_ble_eq_true rfl, Nat.le_of_ble_eq_true rfl⟩ dX4_init_16 (fun q_5 => ?_)
  refine z_dup C dX4_init_19 rfl ?_
  refine z_callIv C (ret9 := none) (As := []) (rest := [.ref q_5, .ref h0]) (ws' := fun u_8 => [(h0, .inr (4, [.ref q_1, .null, .null, .null, .null, .null, .null, .null, .int 0, .int 0, .int 0, .int 0])), (q_1, .inr (3, [.ref q_2, .ref q_3])), (q_2, .inl (cI, 5, .inl (fun _ => 0))), (q_3, .inl (cI, 25, .inl (fun _ => 0))), (q_5, .inr (3, [.ref u_8.1, .ref u_8.2])), (u_8.1, .inl (cI, 5, .inl (fun _ => 0))), (u_8.2, .inl (cI, 25, .inl (fun _ => 0)))]) (c_X3_init l sa D cI cZ cL q_5  ) (cwI 0 C.2.2.2.2.1 gX4_init_X3_init rfl rfl rfl (C.2.2.2.2.1 _ m_X4_init_nX3) (C.2.2.2.2.1 _ m_X4_init_l9) (C.2.2.2.2.1 _ m_X4_init_imX3_init) rfl (by decide +kernel) ⟨Nat.le_of_ble_eq_true rfl, Nat.le_of_ble_eq_true rfl⟩) (fun u_8 => (zSub.of (wr := [(h0, .inr (4, [.ref q_1, .null, .null, .null, .null, .null, .null, .null, .int 0, .int 0, .int 0, .int 0])), (q_1, .inr (3, [.ref q_2, .ref q_3])), (q_2, .inl (cI, 5, .inl (fun _ => 0))), (q_3, .inl (cI, 25, .inl (fun _ => 0)))]) [4] [0, 1, 2, 3] [0, 1, 2, 3, 4, 5, 6] rfl rfl rfl rfl (by decide) rfl rfl)) (zIn.of [4] rfl rfl) rfl (Nat.le_of_ble_eq_true rfl) ⟨Nat.le_of_ble_eq_true rfl, Nat.le_of_ble_eq_true rfl⟩ dX4_init_20 (fun u_8 _ => ?_)
  obtain ⟨q_6, q_7⟩ := u_8
  refine z_putF C 0 rfl i_X4_init_X4 rfl 1 (by decide) m_X4_init_f16 rfl tyX4 tyX4_ok nmX4 rfl hmn rfl (ty := (.object "Queuefloat$Sums")) (by decide +kernel) rfl rfl (Nat.le_of_ble_eq_true rfl) dX4_init_23 [(h0, .inr (4, [.ref q_1, .ref q_5, .null, .null, .null, .null, .null, .null, .int 0, .int 0, .int 0, .int 0])), (q_1, .inr (3, [.ref q_2, .ref q_3])), (q_2, .inl (cI, 5, .inl (fun _ => 0))), (q_3, .inl (cI, 25, .inl (fun _ => 0))), (q_5, .inr (3, [.ref q_6, .ref q_7])), (q_6, .inl (cI, 5, .inl (fun _ => 0))), (q_7, .inl (cI, 25, .inl (fun _ => 0)))] rfl ?_
  refine z_aload_n C dX4_init_26 rfl 0 rfl ?_
  refine z_new C i_X4_init_X0 tyX0 tyX0_ok m_X4_init_c19 m_X4_init_sX0 m_X4_init_nX0 (ci := 0) rfl (fs := [.null, .null]) (z_dvX0) ⟨Nat.le_of_ble_eq_true rfl, Nat.le_of_ble_eq_true rfl⟩ dX4_init_27 (fun q_9 => ?_)
  refine z_dup C dX4_init_30 rfl ?_
  refine z_callIv C (ret9 := none) (As := []) (rest := [.ref q_9, .ref h0]) (ws' := fun u_12 => [(h0, .inr (4, [.ref q_1, .ref q_5, .null, .null, .null, .null, .null, .null, .int 0, .int 0, .int 0, .int 0])), (q_1, .inr (3, [.ref q_2, .ref q_3])), (q_2, .inl (cI, 5, .inl (fun _ => 0))), (q_3, .inl (cI, 25, .inl (fun _ => 0))), (q_5, .inr (3, [.ref q_6, .ref q_7])), (q_6, .inl (cI, 5, .inl (fun _ => 0))), (q_7, .inl (cI, 25, .inl (fun _ => 0))), (q_9, .inr (0, [.ref u_12.1, .ref u_12.2])), (u_12.1, .inl (cI, 5, .inl (fun _ => 0))), (u_12.2, .inl (cI, 25, .inl (bnI 25)))]) (c_X0_init l sa D cI cZ cL q_9  ) (cwI 0 C.2.2.2.2.1 gX4_init_X0_init rfl rfl rfl (C.2.2.2.2.1 _ m_X4_init_nX0) (C.2.2.2.2.1 _ m_X4_init_l21) (C.2.2.2.2.1 _ m_X4_init_imX0_init) rfl (by decide +kernel) ⟨Nat.le_of_ble_eq_true rfl, Nat.le_of_ble_eq_true rfl⟩) (fun u_12 => (zSub.of (wr := [(h0, .inr (4, [.ref q_1, .ref q_5, .null, .null, .null, .null, .null, .null, .int 0, .int 0, .int 0, .int 0])), (q_1, .inr (3, [.ref q_2, .ref q_3])), (q_2, .inl (cI, 5, .inl (fun _ => 0))), (q_3, .inl (cI, 25, .inl (fun _ => 0))), (q_5, .inr (3, [.ref q_6, .ref q_7])), (q_6, .inl (cI, 5, .inl (fun _ => 0))), (q_7, .inl (cI, 25, .inl (fun _ => 0)))]) [7] [0, 1, 2, 3, 4, 5, 6] [0, 1, 2, 3, 4, 5, 6, 7, 8, 9] rfl rfl rfl rfl (by decide) rfl rfl)) (zIn.of [7] rfl rfl) rfl (Nat.le_of_ble_eq_true rfl) ⟨Nat.le_of_ble_eq_true rfl, Nat.le_of_ble_eq_true rfl⟩ dX4_init_31 (fun u_12 _ => ?_)
  obtain ⟨q_10, q_11⟩ := u_12
  refine z_putF C 0 rfl i_X4_init_X4 rfl 2 (by decide) m_X4_init_f22 rfl tyX4 tyX4_ok nmX4 rfl hmn rfl (ty := (.object "Queuefloat$Limits")) (by decide +kernel) rfl rfl (Nat.le_of_ble_eq_true rfl) dX4_init_34 [(h0, .inr (4, [.ref q_1, .ref q_5, .ref q_9, .null, .null, .null, .null, .null, .int 0, .int 0, .int 0, .int 0])), (q_1, .inr (3, [.ref q_2, .ref q_3])), (q_2, .inl (cI, 5, .inl (fun _ => 0))), (q_3, .inl (cI, 25, .inl (fun _ => 0))), (q_5, .inr (3, [.ref q_6, .ref q_7])), (q_6, .inl (cI, 5, .inl (fun _ => 0))), (q_7, .inl (cI, 25, .inl (fun _ => 0))), (q_9, .inr (0, [.ref q_10, .ref q_11])), (q_10, .inl (cI, 5, .inl (fun _ => 0))), (q_11, .inl (cI, 25, .inl (bnI 25)))] rfl ?_
  refine z_aload_n C dX4_init_37 rfl 0 rfl ?_
  refine z_new C i_X4_init_X2 tyX2 tyX2_ok m_X4_init_c26 m_X4_init_sX2 m_X4_init_nX2 (ci := 2) rfl (fs := [.null, .null, .null, .null, .null, .null, .int 0]) (z_dvX2) ⟨Nat.le_of_ble_eq_true rfl, Nat.le_of_ble_eq_true rfl⟩ dX4_init_38 (fun q_13 => ?_)
  refine z_dup C dX4_init_41 rfl ?_
  refine z_callIv C (ret9 := none) (As := []) (rest := [.ref q_13, .ref h0]) (ws' := fun u_20 => [(h0, .inr (4, [.ref q_1, .ref q_5, .ref q_9, .null, .null, .null, .null, .null, .int 0, .int 0, .int 0, .int 0])), (q_1, .inr (3, [.ref q_2, .ref q_3])), (q_2, .inl (cI, 5, .inl (fun _ => 0))), (q_3, .inl (cI, 25, .inl (fun _ => 0))), (q_5, .inr (3, [.ref q_6, .ref q_7])), (q_6, .inl (cI, 5, .inl (fun _ => 0))), (q_7, .inl (cI, 25, .inl (fun _ => 0))), (q_9, .inr (0, [.ref q_10, .ref q_11])), (q_10, .inl (cI, 5, .inl (fun _ => 0))), (q_11, .inl (cI, 25, .inl (bnI 25))), (q_13, .inr (2, [.ref u_20.1, .ref u_20.2.1, .ref u_20.2.2.1, .ref u_20.2.2.2.1, .ref u_20.2.2.2.2.1, .ref u_20.2.2.2.2.2, .int 0])), (u_20.1, .inl (cI, 60, .inl (fun _ => 0))), (u_20.2.1, .inl (cI, 60, .inl (fun _ => 0))), (u_20.2.2.1, .inl (cI, 60, .inl (fun _ => 0))), (u_20.2.2.2.1, .inl (cI, 60, .inl (fun _ => 0))), (u_20.2.2.2.2.1, .inl (cZ, 60, .inl (fun _ => 0))), (u_20.2.2.2.2.2, .inl (cI, 60, .inl (fun _ => 0)))]) (c_X2_init l sa D cI cZ cL q_13  ) (cwI 0 C.2.2.2.2.1 gX4_init_X2_init rfl rfl rfl (C.2.2.2.2.1 _ m_X4_init_nX2) (C.2.2.2.2.1 _ m_X4_init_l28) (C.2.2.2.2.1 _ m_X4_init_imX2_init) rfl (by decide +kernel) ⟨Nat.le_of_ble_eq_true rfl, Nat.le_of_ble_eq_true rfl⟩) (fun u_20 => (zSub.of (wr := [(h0, .inr (4, [.ref q_1, .ref q_5, .ref q_9, .null, .null, .null, .null, .null, .int 0, .int 0, .int 0, .int 0])), (q_1, .inr (3, [.ref q_2, .ref q_3])), (q_2, .inl (cI, 5, .inl (fun _ => 0))), (q_3, .inl (cI, 25, .inl (fun _ => 0))), (q_5, .inr (3, [.ref q_6, .ref q_7])), (q_6, .inl (cI, 5, .inl (fun _ => 0))), (q_7, .inl (cI, 25, .inl (fun _ => 0))), (q_9, .inr (0, [.ref q_10, .ref q_11])), (q_10, .inl (cI, 5, .inl (fun _ => 0))), (q_11, .inl (cI, 25, .inl (bnI 25)))]) [10] [0, 1, 2, 3, 4, 5, 6, 7, 8, 9] [0, 1, 2, 3, 4, 5, 6, 7, 8, 9, 10, 11, 12, 13, 14, 15, 16] rfl rfl rfl rfl (by decide) rfl rfl)) (zIn.of [10] rfl rfl) rfl (Nat.le_of_ble_eq_true rfl) ⟨Nat.le_of_ble_eq_true rfl, Nat.le_of_ble_eq_true rfl⟩ dX4_init_42 (fun u_20 _ => ?_)
  obtain ⟨q_14, q_15, q_16, q_17, q_18, q_19⟩ := u_20
  refine z_putF C 0 rfl i_X4_init_X4 rfl 3 (by decide) m_X4_init_f29 rfl tyX4 tyX4_ok nmX4 rfl hmn rfl (ty := (.object "Queuefloat$Payments")) (by decide +kernel) rfl rfl (Nat.le_of_ble_eq_true rfl) dX4_init_45 [(h0, .inr (4, [.ref q_1, .ref q_5, .ref q_9, .ref q_13, .null, .null, .null, .null, .int 0, .int 0, .int 0, .int 0])), (q_1, .inr (3, [.ref q_2, .ref q_3])), (q_2, .inl (cI, 5, .inl (fun _ => 0))), (q_3, .inl (cI, 25, .inl (fun _ => 0))), (q_5, .inr (3, [.ref q_6, .ref q_7])), (q_6, .inl (cI, 5, .inl (fun _ => 0))), (q_7, .inl (cI, 25, .inl (fun _ => 0))), (q_9, .inr (0, [.ref q_10, .ref q_11])), (q_10, .inl (cI, 5, .inl (fun _ => 0))), (q_11, .inl (cI, 25, .inl (bnI 25))), (q_13, .inr (2, [.ref q_14, .ref q_15, .ref q_16, .ref q_17, .ref q_18, .ref q_19, .int 0])), (q_14, .inl (cI, 60, .inl (fun _ => 0))), (q_15, .inl (cI, 60, .inl (fun _ => 0))), (q_16, .inl (cI, 60, .inl (fun _ => 0))), (q_17, .inl (cI, 60, .inl (fun _ => 0))), (q_18, .inl (cZ, 60, .inl (fun _ => 0))), (q_19, .inl (cI, 60, .inl (fun _ => 0)))] rfl ?_
  refine z_aload_n C dX4_init_48 rfl 0 rfl ?_
  refine z_new C i_X4_init_X1 tyX1 tyX1_ok m_X4_init_c33 m_X4_init_sX1 m_X4_init_nX1 (ci := 1) rfl (fs := [.null, .null, .null, .null, .int 0, .int 0]) (z_dvX1) ⟨Nat.le_of_ble_eq_true rfl, Nat.le_of_ble_eq_true rfl⟩ dX4_init_49 (fun q_21 => ?_)
  refine z_dup C dX4_init_52 rfl ?_
  refine z_callIv C (ret9 := none) (As := []) (rest := [.ref q_21, .ref h0]) (ws' := fun u_26 => [(h0, .inr (4, [.ref q_1, .ref q_5, .ref q_9, .ref q_13, .null, .null, .null, .null, .int 0, .int 0, .int 0, .int 0])), (q_1, .inr (3, [.ref q_2, .ref q_3])), (q_2, .inl (cI, 5, .inl (fun _ => 0))), (q_3, .inl (cI, 25, .inl (fun _ => 0))), (q_5, .inr (3, [.ref q_6, .ref q_7])), (q_6, .inl (cI, 5, .inl (fun _ => 0))), (q_7, .inl (cI, 25, .inl (fun _ => 0))), (q_9, .inr (0, [.ref q_10, .ref q_11])), (q_10, .inl (cI, 5, .inl (fun _ => 0))), (q_11, .inl (cI, 25, .inl (bnI 25))), (q_13, .inr (2, [.ref q_14, .ref q_15, .ref q_16, .ref q_17, .ref q_18, .ref q_19, .int 0])), (q_14, .inl (cI, 60, .inl (fun _ => 0))), (q_15, .inl (cI, 60, .inl (fun _ => 0))), (q_16, .inl (cI, 60, .inl (fun _ => 0))), (q_17, .inl (cI, 60, .inl (fun _ => 0))), (q_18, .inl (cZ, 60, .inl (fun _ => 0))), (q_19, .inl (cI, 60, .inl (fun _ => 0))), (q_21, .inr (1, [.ref u_26.1, .ref u_26.2.1, .ref u_26.2.2.1, .ref u_26.2.2.2, .int 0, .int 0])), (u_26.1, .inl (cI, 40, .inl (fun _ => 0))), (u_26.2.1, .inl (cI, 40, .inl (fun _ => 0))), (u_26.2.2.1, .inl (cI, 40, .inl (fun _ => 0))), (u_26.2.2.2, .inl (cI, 40, .inl (fun _ => 0)))]) (c_X1_init l sa D cI cZ cL q_21  ) (cwI 0 C.2.2.2.2.1 gX4_init_X1_init rfl rfl rfl (C.2.2.2.2.1 _ m_X4_init_nX1) (C.2.2.2.2.1 _ m_X4_init_l35) (C.2.2.2.2.1 _ m_X4_init_imX1_init) rfl (by decide +kernel) ⟨Nat.le_of_ble_eq_true rfl, Nat.le_of_ble_eq_true rfl⟩) (fun u_26 => (zSub.of (wr := [(h0, .inr (4, [.ref q_1, .ref q_5, .ref q_9, .ref q_13, .null, .null, .null, .null, .int 0, .int 0, .int 0, .int 0])), (q_1, .inr (3, [.ref q_2, .ref q_3])), (q_2, .inl (cI, 5, .inl (fun _ => 0))), (q_3, .inl (cI, 25, .inl (fun _ => 0))), (q_5, .inr (3, [.ref q_6, .ref q_7])), (q_6, .inl (cI, 5, .inl (fun _ => 0))), (q_7, .inl (cI, 25, .inl (fun _ => 0))), (q_9, .inr (0, [.ref q_10, .ref q_11])), (q_10, .inl (cI, 5, .inl (fun _ => 0))), (q_11, .inl (cI, 25, .inl (bnI 25))), (q_13, .inr (2, [.ref q_14, .ref q_15, .ref q_16, .ref q_17, .ref q_18, .ref q_19, .int 0])), (q_14, .inl (cI, 60, .inl (fun _ => 0))), (q_15, .inl (cI, 60, .inl (fun _ => 0))), (q_16, .inl (cI, 60, .inl (fun _ => 0))), (q_17, .inl (cI, 60, .inl (fun _ => 0))), (q_18, .inl (cZ, 60, .inl (fun _ => 0))), (q_19, .inl (cI, 60, .inl (fun _ => 0)))]) [17] [0, 1, 2, 3, 4, 5, 6, 7, 8, 9, 10, 11, 12, 13, 14, 15, 16] [0, 1, 2, 3, 4, 5, 6, 7, 8, 9, 10, 11, 12, 13, 14, 15, 16, 17, 18, 19, 20, 21] rfl rfl rfl rfl (by decide) rfl rfl)) (zIn.of [17] rfl rfl) rfl (Nat.le_of_ble_eq_true rfl) ⟨Nat.le_of_ble_eq_true rfl, Nat.le_of_ble_eq_true rfl⟩ dX4_init_53 (fun u_26 _ => ?_)
  obtain ⟨q_22, q_23, q_24, q_25⟩ := u_26
  refine z_putF C 0 rfl i_X4_init_X4 rfl 4 (by decide) m_X4_init_f36 rfl tyX4 tyX4_ok nmX4 rfl hmn rfl (ty := (.object "Queuefloat$Loans")) (by decide +kernel) rfl rfl (Nat.le_of_ble_eq_true rfl) dX4_init_56 [(h0, .inr (4, [.ref q_1, .ref q_5, .ref q_9, .ref q_13, .ref q_21, .null, .null, .null, .int 0, .int 0, .int 0, .int 0])), (q_1, .inr (3, [.ref q_2, .ref q_3])), (q_2, .inl (cI, 5, .inl (fun _ => 0))), (q_3, .inl (cI, 25, .inl (fun _ => 0))), (q_5, .inr (3, [.ref q_6, .ref q_7])), (q_6, .inl (cI, 5, .inl (fun _ => 0))), (q_7, .inl (cI, 25, .inl (fun _ => 0))), (q_9, .inr (0, [.ref q_10, .ref q_11])), (q_10, .inl (cI, 5, .inl (fun _ => 0))), (q_11, .inl (cI, 25, .inl (bnI 25))), (q_13, .inr (2, [.ref q_14, .ref q_15, .ref q_16, .ref q_17, .ref q_18, .ref q_19, .int 0])), (q_14, .inl (cI, 60, .inl (fun _ => 0))), (q_15, .inl (cI, 60, .inl (fun _ => 0))), (q_16, .inl (cI, 60, .inl (fun _ => 0))), (q_17, .inl (cI, 60, .inl (fun _ => 0))), (q_18, .inl (cZ, 60, .inl (fun _ => 0))), (q_19, .inl (cI, 60, .inl (fun _ => 0))), (q_21, .inr (1, [.ref q_22, .ref q_23, .ref q_24, .ref q_25, .int 0, .int 0])), (q_22, .inl (cI, 40, .inl (fun _ => 0))), (q_23, .inl (cI, 40, .inl (fun _ => 0))), (q_24, .inl (cI, 40, .inl (fun _ => 0))), (q_25, .inl (cI, 40, .inl (fun _ => 0)))] rfl ?_
  refine z_aload_n C dX4_init_59 rfl 0 rfl ?_
  refine z_iconst C (v := 5) dX4_init_60 (by decide) ?_
  refine z_newaZ C m_X4_init_aZ 1 rfl (N := 5) (by decide) (by decide) (by decide) ⟨Nat.le_of_ble_eq_true rfl, Nat.le_of_ble_eq_true rfl⟩ dX4_init_61 (fun q_27 => ?_)
  refine z_putF C 0 rfl i_X4_init_X4 rfl 5 (by decide) m_X4_init_f40 rfl tyX4 tyX4_ok nmX4 rfl hmn rfl (ty := (.array .boolean)) (by decide +kernel) rfl rfl (Nat.le_of_ble_eq_true rfl) dX4_init_63 [(h0, .inr (4, [.ref q_1, .ref q_5, .ref q_9, .ref q_13, .ref q_21, .ref q_27, .null, .null, .int 0, .int 0, .int 0, .int 0])), (q_1, .inr (3, [.ref q_2, .ref q_3])), (q_2, .inl (cI, 5, .inl (fun _ => 0))), (q_3, .inl (cI, 25, .inl (fun _ => 0))), (q_5, .inr (3, [.ref q_6, .ref q_7])), (q_6, .inl (cI, 5, .inl (fun _ => 0))), (q_7, .inl (cI, 25, .inl (fun _ => 0))), (q_9, .inr (0, [.ref q_10, .ref q_11])), (q_10, .inl (cI, 5, .inl (fun _ => 0))), (q_11, .inl (cI, 25, .inl (bnI 25))), (q_13, .inr (2, [.ref q_14, .ref q_15, .ref q_16, .ref q_17, .ref q_18, .ref q_19, .int 0])), (q_14, .inl (cI, 60, .inl (fun _ => 0))), (q_15, .inl (cI, 60, .inl (fun _ => 0))), (q_16, .inl (cI, 60, .inl (fun _ => 0))), (q_17, .inl (cI, 60, .inl (fun _ => 0))), (q_18, .inl (cZ, 60, .inl (fun _ => 0))), (q_19, .inl (cI, 60, .inl (fun _ => 0))), (q_21, .inr (1, [.ref q_22, .ref q_23, .ref q_24, .ref q_25, .int 0, .int 0])), (q_22, .inl (cI, 40, .inl (fun _ => 0))), (q_23, .inl (cI, 40, .inl (fun _ => 0))), (q_24, .inl (cI, 40, .inl (fun _ => 0))), (q_25, .inl (cI, 40, .inl (fun _ => 0))), (q_27, .inl (cZ, 5, .inl (fun _ => 0)))] rfl ?_
  refine z_aload_n C dX4_init_66 rfl 0 rfl ?_
  refine z_iconst C (v := 5) dX4_init_67 (by decide) ?_
  refine z_newaI C m_X4_init_aI 0 rfl (N := 5) (by decide) (by decide) (by decide) ⟨Nat.le_of_ble_eq_true rfl, Nat.le_of_ble_eq_true rfl⟩ dX4_init_68 (fun q_28 => ?_)
  refine z_putF C 0 rfl i_X4_init_X4 rfl 6 (by decide) m_X4_init_f44 rfl tyX4 tyX4_ok nmX4 rfl hmn rfl (ty := (.array .int)) (by decide +kernel) rfl rfl (Nat.le_of_ble_eq_true rfl) dX4_init_70 [(h0, .inr (4, [.ref q_1, .ref q_5, .ref q_9, .ref q_13, .ref q_21, .ref q_27, .ref q_28, .null, .int 0, .int 0, .int 0, .int 0])), (q_1, .inr (3, [.ref q_2, .ref q_3])), (q_2, .inl (cI, 5, .inl (fun _ => 0))), (q_3, .inl (cI, 25, .inl (fun _ => 0))), (q_5, .inr (3, [.ref q_6, .ref q_7])), (q_6, .inl (cI, 5, .inl (fun _ => 0))), (q_7, .inl (cI, 25, .inl (fun _ => 0))), (q_9, .inr (0, [.ref q_10, .ref q_11])), (q_10, .inl (cI, 5, .inl (fun _ => 0))), (q_11, .inl (cI, 25, .inl (bnI 25))), (q_13, .inr (2, [.ref q_14, .ref q_15, .ref q_16, .ref q_17, .ref q_18, .ref q_19, .int 0])), (q_14, .inl (cI, 60, .inl (fun _ => 0))), (q_15, .inl (cI, 60, .inl (fun _ => 0))), (q_16, .inl (cI, 60, .inl (fun _ => 0))), (q_17, .inl (cI, 60, .inl (fun _ => 0))), (q_18, .inl (cZ, 60, .inl (fun _ => 0))), (q_19, .inl (cI, 60, .inl (fun _ => 0))), (q_21, .inr (1, [.ref q_22, .ref q_23, .ref q_24, .ref q_25, .int 0, .int 0])), (q_22, .inl (cI, 40, .inl (fun _ => 0))), (q_23, .inl (cI, 40, .inl (fun _ => 0))), (q_24, .inl (cI, 40, .inl (fun _ => 0))), (q_25, .inl (cI, 40, .inl (fun _ => 0))), (q_27, .inl (cZ, 5, .inl (fun _ => 0))), (q_28, .inl (cI, 5, .inl (fun _ => 0)))] rfl ?_
  refine z_aload_n C dX4_init_73 rfl 0 rfl ?_
  refine z_bipush C (v := 10) dX4_init_74 (by decide) ?_
  refine z_newaI C m_X4_init_aI 0 rfl (N := 10) (by decide) (by decide) (by decide) ⟨Nat.le_of_ble_eq_true rfl, Nat.le_of_ble_eq_true rfl⟩ dX4_init_76 (fun q_29 => ?_)
  refine z_putF C 0 rfl i_X4_init_X4 rfl 7 (by decide) m_X4_init_f48 rfl tyX4 tyX4_ok nmX4 rfl hmn rfl (ty := (.array .int)) (by decide +kernel) rfl rfl (Nat.le_of_ble_eq_true rfl) dX4_init_78 [(h0, .inr (4, [.ref q_1, .ref q_5, .ref q_9, .ref q_13, .ref q_21, .ref q_27, .ref q_28, .ref q_29, .int 0, .int 0, .int 0, .int 0])), (q_1, .inr (3, [.ref q_2, .ref q_3])), (q_2, .inl (cI, 5, .inl (fun _ => 0))), (q_3, .inl (cI, 25, .inl (fun _ => 0))), (q_5, .inr (3, [.ref q_6, .ref q_7])), (q_6, .inl (cI, 5, .inl (fun _ => 0))), (q_7, .inl (cI, 25, .inl (fun _ => 0))), (q_9, .inr (0, [.ref q_10, .ref q_11])), (q_10, .inl (cI, 5, .inl (fun _ => 0))), (q_11, .inl (cI, 25, .inl (bnI 25))), (q_13, .inr (2, [.ref q_14, .ref q_15, .ref q_16, .ref q_17, .ref q_18, .ref q_19, .int 0])), (q_14, .inl (cI, 60, .inl (fun _ => 0))), (q_15, .inl (cI, 60, .inl (fun _ => 0))), (q_16, .inl (cI, 60, .inl (fun _ => 0))), (q_17, .inl (cI, 60, .inl (fun _ => 0))), (q_18, .inl (cZ, 60, .inl (fun _ => 0))), (q_19, .inl (cI, 60, .inl (fun _ => 0))), (q_21, .inr (1, [.ref q_22, .ref q_23, .ref q_24, .ref q_25, .int 0, .int 0])), (q_22, .inl (cI, 40, .inl (fun _ => 0))), (q_23, .inl (cI, 40, .inl (fun _ => 0))), (q_24, .inl (cI, 40, .inl (fun _ => 0))), (q_25, .inl (cI, 40, .inl (fun _ => 0))), (q_27, .inl (cZ, 5, .inl (fun _ => 0))), (q_28, .inl (cI, 5, .inl (fun _ => 0))), (q_29, .inl (cI, 10, .inl (fun _ => 0)))] rfl ?_
  refine z_aload_n C dX4_init_81 rfl 0 rfl ?_
  refine z_bipush C (v := 100) dX4_init_82 (by decide) ?_
  refine z_put C 0 rfl i_X4_init_X4 rfl 8 (by decide) m_X4_init_f51 rfl tyX4 tyX4_ok nmX4 rfl (ty := .int) (by decide +kernel) rfl rfl (Nat.le_of_ble_eq_true rfl) dX4_init_84 [(h0, .inr (4, [.ref q_1, .ref q_5, .ref q_9, .ref q_13, .ref q_21, .ref q_27, .ref q_28, .ref q_29, .int 100, .int 0, .int 0, .int 0])), (q_1, .inr (3, [.ref q_2, .ref q_3])), (q_2, .inl (cI, 5, .inl (fun _ => 0))), (q_3, .inl (cI, 25, .inl (fun _ => 0))), (q_5, .inr (3, [.ref q_6, .ref q_7])), (q_6, .inl (cI, 5, .inl (fun _ => 0))), (q_7, .inl (cI, 25, .inl (fun _ => 0))), (q_9, .inr (0, [.ref q_10, .ref q_11])), (q_10, .inl (cI, 5, .inl (fun _ => 0))), (q_11, .inl (cI, 25, .inl (bnI 25))), (q_13, .inr (2, [.ref q_14, .ref q_15, .ref q_16, .ref q_17, .ref q_18, .ref q_19, .int 0])), (q_14, .inl (cI, 60, .inl (fun _ => 0))), (q_15, .inl (cI, 60, .inl (fun _ => 0))), (q_16, .inl (cI, 60, .inl (fun _ => 0))), (q_17, .inl (cI, 60, .inl (fun _ => 0))), (q_18, .inl (cZ, 60, .inl (fun _ => 0))), (q_19, .inl (cI, 60, .inl (fun _ => 0))), (q_21, .inr (1, [.ref q_22, .ref q_23, .ref q_24, .ref q_25, .int 0, .int 0])), (q_22, .inl (cI, 40, .inl (fun _ => 0))), (q_23, .inl (cI, 40, .inl (fun _ => 0))), (q_24, .inl (cI, 40, .inl (fun _ => 0))), (q_25, .inl (cI, 40, .inl (fun _ => 0))), (q_27, .inl (cZ, 5, .inl (fun _ => 0))), (q_28, .inl (cI, 5, .inl (fun _ => 0))), (q_29, .inl (cI, 10, .inl (fun _ => 0)))] rfl ?_
  refine z_aload_n C dX4_init_87 rfl 0 rfl ?_
  refine z_bipush C (v := 100) dX4_init_88 (by decide) ?_
  refine z_put C 0 rfl i_X4_init_X4 rfl 9 (by decide) m_X4_init_f55 rfl tyX4 tyX4_ok nmX4 rfl (ty := .int) (by decide +kernel) rfl rfl (Nat.le_of_ble_eq_true rfl) dX4_init_90 [(h0, .inr (4, [.ref q_1, .ref q_5, .ref q_9, .ref q_13, .ref q_21, .ref q_27, .ref q_28, .ref q_29, .int 100, .int 100, .int 0, .int 0])), (q_1, .inr (3, [.ref q_2, .ref q_3])), (q_2, .inl (cI, 5, .inl (fun _ => 0))), (q_3, .inl (cI, 25, .inl (fun _ => 0))), (q_5, .inr (3, [.ref q_6, .ref q_7])), (q_6, .inl (cI, 5, .inl (fun _ => 0))), (q_7, .inl (cI, 25, .inl (fun _ => 0))), (q_9, .inr (0, [.ref q_10, .ref q_11])), (q_10, .inl (cI, 5, .inl (fun _ => 0))), (q_11, .inl (cI, 25, .inl (bnI 25))), (q_13, .inr (2, [.ref q_14, .ref q_15, .ref q_16, .ref q_17, .ref q_18, .ref q_19, .int 0])), (q_14, .inl (cI, 60, .inl (fun _ => 0))), (q_15, .inl (cI, 60, .inl (fun _ => 0))), (q_16, .inl (cI, 60, .inl (fun _ => 0))), (q_17, .inl (cI, 60, .inl (fun _ => 0))), (q_18, .inl (cZ, 60, .inl (fun _ => 0))), (q_19, .inl (cI, 60, .inl (fun _ => 0))), (q_21, .inr (1, [.ref q_22, .ref q_23, .ref q_24, .ref q_25, .int 0, .int 0])), (q_22, .inl (cI, 40, .inl (fun _ => 0))), (q_23, .inl (cI, 40, .inl (fun _ => 0))), (q_24, .inl (cI, 40, .inl (fun _ => 0))), (q_25, .inl (cI, 40, .inl (fun _ => 0))), (q_27, .inl (cZ, 5, .inl (fun _ => 0))), (q_28, .inl (cI, 5, .inl (fun _ => 0))), (q_29, .inl (cI, 10, .inl (fun _ => 0)))] rfl ?_
  refine z_aload_n C dX4_init_93 rfl 0 rfl ?_
  refine z_sipush C (v := 200) dX4_init_94 (by decide) ?_
  refine z_put C 0 rfl i_X4_init_X4 rfl 10 (by decide) m_X4_init_f58 rfl tyX4 tyX4_ok nmX4 rfl (ty := .int) (by decide +kernel) rfl rfl (Nat.le_of_ble_eq_true rfl) dX4_init_97 [(h0, .inr (4, [.ref q_1, .ref q_5, .ref q_9, .ref q_13, .ref q_21, .ref q_27, .ref q_28, .ref q_29, .int 100, .int 100, .int 200, .int 0])), (q_1, .inr (3, [.ref q_2, .ref q_3])), (q_2, .inl (cI, 5, .inl (fun _ => 0))), (q_3, .inl (cI, 25, .inl (fun _ => 0))), (q_5, .inr (3, [.ref q_6, .ref q_7])), (q_6, .inl (cI, 5, .inl (fun _ => 0))), (q_7, .inl (cI, 25, .inl (fun _ => 0))), (q_9, .inr (0, [.ref q_10, .ref q_11])), (q_10, .inl (cI, 5, .inl (fun _ => 0))), (q_11, .inl (cI, 25, .inl (bnI 25))), (q_13, .inr (2, [.ref q_14, .ref q_15, .ref q_16, .ref q_17, .ref q_18, .ref q_19, .int 0])), (q_14, .inl (cI, 60, .inl (fun _ => 0))), (q_15, .inl (cI, 60, .inl (fun _ => 0))), (q_16, .inl (cI, 60, .inl (fun _ => 0))), (q_17, .inl (cI, 60, .inl (fun _ => 0))), (q_18, .inl (cZ, 60, .inl (fun _ => 0))), (q_19, .inl (cI, 60, .inl (fun _ => 0))), (q_21, .inr (1, [.ref q_22, .ref q_23, .ref q_24, .ref q_25, .int 0, .int 0])), (q_22, .inl (cI, 40, .inl (fun _ => 0))), (q_23, .inl (cI, 40, .inl (fun _ => 0))), (q_24, .inl (cI, 40, .inl (fun _ => 0))), (q_25, .inl (cI, 40, .inl (fun _ => 0))), (q_27, .inl (cZ, 5, .inl (fun _ => 0))), (q_28, .inl (cI, 5, .inl (fun _ => 0))), (q_29, .inl (cI, 10, .inl (fun _ => 0)))] rfl ?_
  refine z_perm (wX (fun i => ([h0, q_1, q_5, q_9, q_13, q_21, q_2, q_3, q_6, q_7, q_10, q_11, q_14, q_15, q_16, q_17, q_18, q_19, q_22, q_23, q_24, q_25, q_27, q_28, q_29] : List Nat).getD i 0) cI cZ (fun _ => 0) (fun _ => 0) (fun _ => 0) (fun _ => 0) (fun _ => 0) (bnI 25) (fun _ => 0) (fun _ => 0) (fun _ => 0) (fun _ => 0) (fun _ => 0) (fun _ => 0) (fun _ => 0) (fun _ => 0) (fun _ => 0) (fun _ => 0) (fun _ => 0) (fun _ => 0) (fun _ => 0) 100 100 200 0 (nI 0) (nI 0) (nI 0)) [0, 1, 4, 7, 10, 17, 2, 3, 5, 6, 8, 9, 11, 12, 13, 14, 15, 16, 18, 19, 20, 21, 22, 23, 24] rfl (by decide) ?_
  exact z_vret C (fun i => ([h0, q_1, q_5, q_9, q_13, q_21, q_2, q_3, q_6, q_7, q_10, q_11, q_14, q_15, q_16, q_17, q_18, q_19, q_22, q_23, q_24, q_25, q_27, q_28, q_29] : List Nat).getD i 0) (by exact rfl) rfl (by decide) (by decide) dX4_init_100
