theorem m_L_all_k85 : Cond.constantLong RL 85 (41) ∈ wsL_all := by decide +kernel
theorem m_L_all_k90 : Cond.constantLong RL 90 (1000003) ∈ wsL_all := by decide +kernel
theorem m_L_all_k92 : Cond.constantLong RL 92 (100019) ∈ wsL_all := by decide +kernel
theorem m_L_all_k94 : Cond.constantLong RL 94 (3) ∈ wsL_all := by decide +kernel
theorem m_L_all_k96 : Cond.constantLong RL 96 (61) ∈ wsL_all := by decide +kernel
theorem m_L_kept_k16 : Cond.constant RL 16 (-2000000021) ∈ wsL_kept := by decide +kernel
theorem m_L_pays_k16 : Cond.constant RL 16 (-2000000021) ∈ wsL_pays := by decide +kernel
theorem m_L_sets_k110 : Cond.constant RL 110 (1000001) ∈ wsL_sets := by decide +kernel
theorem m_L_sets_k16 : Cond.constant RL 16 (-2000000021) ∈ wsL_sets := by decide +kernel
set_option maxHeartbeats 4000000 in
set_option maxRecDepth 100000 in
theorem c_L_all (l : Launch) (sa : Nat → Nat) (D : va_G) (cI cZ cL : ClassId) (ad : Nat → Nat) (tacc tnet cnd : Nat → Int32)   : zMl (T := Unit) sa D vwCl (zty cI cZ cL) l yL_all wsL_all ({ frames := 8, cells := 0, slots := 0, locals := 124 } : Room) [.ref (ad 0), .int 0] (wX ad cI cZ (fun _ => 0) (fun _ => 0) tacc tnet (fun _ => 0) (bnI 25) (fun _ => 0) (fun _ => 0) (fun _ => 0) (fun _ => 0) (fun _ => 0) (fun _ => 0) (fun _ => 0) (fun _ => 0) (fun _ => 0) (fun _ => 0) (fun _ => 0) (fun _ => 0) cnd 100 100 200 0 (nI 0) (nI 0) (nI 0)) (fun r9 _ => r9 = 5421326277993579420) (fun _ => (wX ad cI cZ (fun _ => 0) (fun _ => 0) tacc tnet (fun _ => 0) (bnI 25) (fun _ => 0) (fun _ => 0) (fun _ => 0) (fun _ => 0) (fun _ => 0) (fun _ => 0) (fun _ => 0) (fun _ => 0) (fun _ => 0) (fun _ => 0) (fun _ => 0) (fun _ => 0) cnd 100 100 200 0 (nI 0) (nI 0) (nI 0))) 0 0 := by
  refine zMl.of (ret := (some .long)) (cc := cL_all) (nL := 6) (own := RL) (by decide +kernel) rfl [(0, .ref (ad 0)), (1, .int 0)] rfl (Nat.le_of_ble_eq_true rfl) rfl ?_
  intro A p e s m args below meth c C hmn
  refine z_aload_n C dL_all_0 rfl 0 rfl ?_
  refine z_callVi C (T := Unit) (As := []) (rest := []) (ws' := fun _ => (wX ad cI cZ (fun _ => 0) (fun _ => 0) tacc tnet (fun _ => 0) (bnI 25) (fun _ => 0) (fun _ => 0) (fun _ => 0) (fun _ => 0) (fun _ => 0) (fun _ => 0) (fun _ => 0) (fun _ => 0) (fun _ => 0) (fun _ => 0) (fun _ => 0) (fun _ => 0) cnd 100 100 200 0 (nI 0) (nI 0) (nI 0))) (f_loans l sa D cI cZ cL ad tacc tnet cnd  ) (cwV 0 C.2.2.2.2.1 gL_all_X4_loans rfl rfl rfl (by decide +kernel) ⟨Nat.le_of_ble_eq_true rfl, Nat.le_of_ble_eq_true rfl⟩) 0 rfl rfl rfl (fun _ => zSub.full) zIn.full rfl (Nat.le_of_ble_eq_true rfl) ⟨Nat.le_of_ble_eq_true rfl, Nat.le_of_ble_eq_true rfl⟩ dL_all_1 (fun r_1 _ h_2 => ?_)
  obtain rfl : r_1 = 0 := h_2
  refine z_i2l C (v := 0) dL_all_4 (by decide +kernel) ?_
  refine z_ldc2 C m_L_all_k85 dL_all_5 ?_
  refine z_lmul C (v := 0) dL_all_8 (by decide +kernel) ?_
  refine z_aload_n C dL_all_9 rfl 0 rfl ?_
  refine z_callVi C (T := Unit) (As := []) (rest := [.long 0]) (ws' := fun _ => (wX ad cI cZ (fun _ => 0) (fun _ => 0) tacc tnet (fun _ => 0) (bnI 25) (fun _ => 0) (fun _ => 0) (fun _ => 0) (fun _ => 0) (fun _ => 0) (fun _ => 0) (fun _ => 0) (fun _ => 0) (fun _ => 0) (fun _ => 0) (fun _ => 0) (fun _ => 0) cnd 100 100 200 0 (nI 0) (nI 0) (nI 0))) (f_sold l sa D cI cZ cL ad tacc tnet cnd  ) (cwV 0 C.2.2.2.2.1 gL_all_X4_sold rfl rfl rfl (by decide +kernel) ⟨Nat.le_of_ble_eq_true rfl, Nat.le_of_ble_eq_true rfl⟩) 0 rfl rfl rfl (fun _ => zSub.full) zIn.full rfl (Nat.le_of_ble_eq_true rfl) ⟨Nat.le_of_ble_eq_true rfl, Nat.le_of_ble_eq_true rfl⟩ dL_all_10 (fun r_3 _ h_4 => ?_)
  obtain rfl : r_3 = 0 := h_4
  refine z_i2l C (v := 0) dL_all_13 (by decide +kernel) ?_
  refine z_ladd C (v := 0) dL_all_14 (by decide +kernel) ?_
  refine z_lstore_n C dL_all_15 rfl (by decide) [(0, .ref (ad 0)), (1, .int 0), (2, .long 0)] [1, 2, 0] rfl ?_
  refine z_iconst C (v := 0) dL_all_16 (by decide) ?_
  refine z_istore C dL_all_17 (by decide) [(0, .ref (ad 0)), (1, .int 0), (2, .long 0), (4, .int 0)] [1, 2, 3, 0] rfl ?_
  refine z_iload C dL_all_19 3 rfl ?_
  refine z_iconst C (v := 5) dL_all_21 (by decide) ?_
  refine z_icmp_ge C (tgt := 124) dL_all_22 (by decide) (fun h => absurd h (by decide)) (fun _ => ?_)
  refine z_lload_n C dL_all_25 rfl 2 rfl ?_
  refine z_ldc2 C m_L_all_k90 dL_all_26 ?_
  refine z_lmul C (v := 0) dL_all_29 (by decide +kernel) ?_
  refine z_aload_n C dL_all_30 rfl 0 rfl ?_
  refine z_iload C dL_all_31 3 rfl ?_
  refine z_callVi C (T := Unit) (As := [.int 0]) (rest := [.long 0]) (ws' := fun _ => (wX ad cI cZ (fun _ => 0) (fun _ => 0) tacc tnet (fun _ => 0) (bnI 25) (fun _ => 0) (fun _ => 0) (fun _ => 0) (fun _ => 0) (fun _ => 0) (fun _ => 0) (fun _ => 0) (fun _ => 0) (fun _ => 0) (fun _ => 0) (fun _ => 0) (fun _ => 0) cnd 100 100 200 0 (nI 0) (nI 0) (nI 0))) (f_account l sa D cI cZ cL ad tacc tnet cnd 0 (by first | assumption | omega | decide)) (cwV 1 C.2.2.2.2.1 gL_all_X4_account rfl rfl rfl (by decide +kernel) ⟨Nat.le_of_ble_eq_true rfl, Nat.le_of_ble_eq_true rfl⟩) 0 rfl rfl rfl (fun _ => zSub.full) zIn.full rfl (Nat.le_of_ble_eq_true rfl) ⟨Nat.le_of_ble_eq_true rfl, Nat.le_of_ble_eq_true rfl⟩ dL_all_33 (fun r_5 _ h_6 => ?_)
  obtain rfl : r_5 = 0 := h_6
  refine z_i2l C (v := 0) dL_all_36 (by decide +kernel) ?_
  refine z_ladd C (v := 0) dL_all_37 (by decide +kernel) ?_
  refine z_ldc2 C m_L_all_k92 dL_all_38 ?_
  refine z_lmul C (v := 0) dL_all_41 (by decide +kernel) ?_
  refine z_aload_n C dL_all_42 rfl 0 rfl ?_
  refine z_iload C dL_all_43 3 rfl ?_
  refine z_callVi C (T := Unit) (As := [.int 0]) (rest := [.long 0]) (ws' := fun _ => (wX ad cI cZ (fun _ => 0) (fun _ => 0) tacc tnet (fun _ => 0) (bnI 25) (fun _ => 0) (fun _ => 0) (fun _ => 0) (fun _ => 0) (fun _ => 0) (fun _ => 0) (fun _ => 0) (fun _ => 0) (fun _ => 0) (fun _ => 0) (fun _ => 0) (fun _ => 0) cnd 100 100 200 0 (nI 0) (nI 0) (nI 0))) (f_papers l sa D cI cZ cL ad tacc tnet cnd 0 (by first | assumption | omega | decide)) (cwV 1 C.2.2.2.2.1 gL_all_X4_papers rfl rfl rfl (by decide +kernel) ⟨Nat.le_of_ble_eq_true rfl, Nat.le_of_ble_eq_true rfl⟩) 0 rfl rfl rfl (fun _ => zSub.full) zIn.full rfl (Nat.le_of_ble_eq_true rfl) ⟨Nat.le_of_ble_eq_true rfl, Nat.le_of_ble_eq_true rfl⟩ dL_all_45 (fun r_7 _ h_8 => ?_)
  obtain rfl : r_7 = 0 := h_8
  refine z_i2l C (v := 0) dL_all_48 (by decide +kernel) ?_
  refine z_ladd C (v := 0) dL_all_49 (by decide +kernel) ?_
  refine z_ldc2 C m_L_all_k94 dL_all_50 ?_
  refine z_lmul C (v := 0) dL_all_53 (by decide +kernel) ?_
  refine z_aload_n C dL_all_54 rfl 0 rfl ?_
  refine z_iload C dL_all_55 3 rfl ?_
  refine z_callVi C (T := Unit) (As := [.int 0]) (rest := [.long 0]) (ws' := fun _ => (wX ad cI cZ (fun _ => 0) (fun _ => 0) tacc tnet (fun _ => 0) (bnI 25) (fun _ => 0) (fun _ => 0) (fun _ => 0) (fun _ => 0) (fun _ => 0) (fun _ => 0) (fun _ => 0) (fun _ => 0) (fun _ => 0) (fun _ => 0) (fun _ => 0) (fun _ => 0) cnd 100 100 200 0 (nI 0) (nI 0) (nI 0))) (f_isOpen l sa D cI cZ cL ad tacc tnet cnd 0 (by first | assumption | omega | decide)) (cwV 1 C.2.2.2.2.1 gL_all_X4_isOpen rfl rfl rfl (by decide +kernel) ⟨Nat.le_of_ble_eq_true rfl, Nat.le_of_ble_eq_true rfl⟩) 0 rfl rfl rfl (fun _ => zSub.full) zIn.full rfl (Nat.le_of_ble_eq_true rfl) ⟨Nat.le_of_ble_eq_true rfl, Nat.le_of_ble_eq_true rfl⟩ dL_all_57 (fun r_9 _ h_10 => ?_)
  obtain rfl : r_9 = 1 := h_10
  refine z_if_eq C (tgt := 67) dL_all_60 (by decide) (fun h => absurd h (by decide)) (fun _ => ?_)
  refine z_iconst C (v := 1) dL_all_63 (by decide) ?_
  refine z_goto C (tgt := 68) dL_all_64 (by decide) ?_
  refine z_i2l C (v := 1) dL_all_68 (by decide +kernel) ?_
  refine z_ladd C (v := 1) dL_all_69 (by decide +kernel) ?_
  refine z_lstore_n C dL_all_70 rfl (by decide) [(0, .ref (ad 0)), (1, .int 0), (2, .long 1), (4, .int 0)] [1, 2, 0, 3] rfl ?_
  refine z_lload_n C dL_all_71 rfl 2 rfl ?_
  refine z_ldc2 C m_L_all_k96 dL_all_72 ?_
  refine z_lmul C (v := 61) dL_all_75 (by decide +kernel) ?_
  refine z_aload_n C dL_all_76 rfl 0 rfl ?_
  refine z_iload C dL_all_77 3 rfl ?_
  refine z_iconst C (v := 0) dL_all_79 (by decide) ?_
  refine z_callVi C (T := Unit) (As := [.int 0, .int 0]) (rest := [.long 61]) (ws' := fun _ => (wX ad cI cZ (fun _ => 0) (fun _ => 0) tacc tnet (fun _ => 0) (bnI 25) (fun _ => 0) (fun _ => 0) (fun _ => 0) (fun _ => 0) (fun _ => 0) (fun _ => 0) (fun _ => 0) (fun _ => 0) (fun _ => 0) (fun _ => 0) (fun _ => 0) (fun _ => 0) cnd 100 100 200 0 (nI 0) (nI 0) (nI 0))) (f_queued l sa D cI cZ cL ad tacc tnet cnd 0 0 (by first | assumption | omega | decide) (by first | assumption | omega | decide)) (cwV 2 C.2.2.2.2.1 gL_all_X4_queued rfl rfl rfl (by decide +kernel) ⟨Nat.le_of_ble_eq_true rfl, Nat.le_of_ble_eq_true rfl⟩) 0 rfl rfl rfl (fun _ => zSub.full) zIn.full rfl (Nat.le_of_ble_eq_true rfl) ⟨Nat.le_of_ble_eq_true rfl, Nat.le_of_ble_eq_true rfl⟩ dL_all_80 (fun r_11 _ h_12 => ?_)
  obtain rfl : r_11 = (-1) := h_12
  refine z_i2l C (v := (-1)) dL_all_83 (by decide +kernel) ?_
  refine z_ladd C (v := 60) dL_all_84 (by decide +kernel) ?_
  refine z_lstore_n C dL_all_85 rfl (by decide) [(0, .ref (ad 0)), (1, .int 0), (2, .long 60), (4, .int 0)] [1, 2, 0, 3] rfl ?_
  refine z_iconst C (v := 0) dL_all_86 (by decide) ?_
  refine z_istore C dL_all_87 (by decide) [(0, .ref (ad 0)), (1, .int 0), (2, .long 60), (4, .int 0), (5, .int 0)] [1, 2, 3, 4, 0] rfl ?_
  refine z_iload C dL_all_89 4 rfl ?_
  refine z_iload C dL_all_91 3 rfl ?_
  refine z_icmp_ge C (tgt := 118) dL_all_93 (by decide) (fun _ => ?_) (fun h => absurd h (by decide))
  refine z_iinc C (v := 1) dL_all_118 3 rfl (by decide) (by decide) [(0, .ref (ad 0)), (1, .int 0), (2, .long 60), (4, .int 1), (5, .int 0)] [1, 2, 3, 0, 4] rfl ?_
  refine z_goto C (tgt := 19) dL_all_121 (by decide) ?_
  refine z_iload C dL_all_19 3 rfl ?_
  refine z_iconst C (v := 5) dL_all_21 (by decide) ?_
  refine z_icmp_ge C (tgt := 124) dL_all_22 (by decide) (fun h => absurd h (by decide)) (fun _ => ?_)
  refine z_lload_n C dL_all_25 rfl 2 rfl ?_
  refine z_ldc2 C m_L_all_k90 dL_all_26 ?_
  refine z_lmul C (v := 60000180) dL_all_29 (by decide +kernel) ?_
  refine z_aload_n C dL_all_30 rfl 0 rfl ?_
  refine z_iload C dL_all_31 3 rfl ?_
  refine z_callVi C (T := Unit) (As := [.int 1]) (rest := [.long 60000180]) (ws' := fun _ => (wX ad cI cZ (fun _ => 0) (fun _ => 0) tacc tnet (fun _ => 0) (bnI 25) (fun _ => 0) (fun _ => 0) (fun _ => 0) (fun _ => 0) (fun _ => 0) (fun _ => 0) (fun _ => 0) (fun _ => 0) (fun _ => 0) (fun _ => 0) (fun _ => 0) (fun _ => 0) cnd 100 100 200 0 (nI 0) (nI 0) (nI 0))) (f_account l sa D cI cZ cL ad tacc tnet cnd 1 (by first | assumption | omega | decide)) (cwV 1 C.2.2.2.2.1 gL_all_X4_account rfl rfl rfl (by decide +kernel) ⟨Nat.le_of_ble_eq_true rfl, Nat.le_of_ble_eq_true rfl⟩) 0 rfl rfl rfl (fun _ => zSub.full) zIn.full rfl (Nat.le_of_ble_eq_true rfl) ⟨Nat.le_of_ble_eq_true rfl, Nat.le_of_ble_eq_true rfl⟩ dL_all_33 (fun r_13 _ h_14 => ?_)
  obtain rfl : r_13 = 0 := h_14
  refine z_i2l C (v := 0) dL_all_36 (by decide +kernel) ?_
  refine z_ladd C (v := 60000180) dL_all_37 (by decide +kernel) ?_
  refine z_ldc2 C m_L_all_k92 dL_all_38 ?_
  refine z_lmul C (v := 6001158003420) dL_all_41 (by decide +kernel) ?_
  refine z_aload_n C dL_all_42 rfl 0 rfl ?_
  refine z_iload C dL_all_43 3 rfl ?_
  refine z_callVi C (T := Unit) (As := [.int 1]) (rest := [.long 6001158003420]) (ws' := fun _ => (wX ad cI cZ (fun _ => 0) (fun _ => 0) tacc tnet (fun _ => 0) (bnI 25) (fun _ => 0) (fun _ => 0) (fun _ => 0) (fun _ => 0) (fun _ => 0) (fun _ => 0) (fun _ => 0) (fun _ => 0) (fun _ => 0) (fun _ => 0) (fun _ => 0) (fun _ => 0) cnd 100 100 200 0 (nI 0) (nI 0) (nI 0))) (f_papers l sa D cI cZ cL ad tacc tnet cnd 1 (by first | assumption | omega | decide)) (cwV 1 C.2.2.2.2.1 gL_all_X4_papers rfl rfl rfl (by decide +kernel) ⟨Nat.le_of_ble_eq_true rfl, Nat.le_of_ble_eq_true rfl⟩) 0 rfl rfl rfl (fun _ => zSub.full) zIn.full rfl (Nat.le_of_ble_eq_true rfl) ⟨Nat.le_of_ble_eq_true rfl, Nat.le_of_ble_eq_true rfl⟩ dL_all_45 (fun r_15 _ h_16 => ?_)
  obtain rfl : r_15 = 0 := h_16
  refine z_i2l C (v := 0) dL_all_48 (by decide +kernel) ?_
  refine z_ladd C (v := 6001158003420) dL_all_49 (by decide +kernel) ?_
  refine z_ldc2 C m_L_all_k94 dL_all_50 ?_
  refine z_lmul C (v := 18003474010260) dL_all_53 (by decide +kernel) ?_
  refine z_aload_n C dL_all_54 rfl 0 rfl ?_
  refine z_iload C dL_all_55 3 rfl ?_
  refine z_callVi C (T := Unit) (As := [.int 1]) (rest := [.long 18003474010260]) (ws' := fun _ => (wX ad cI cZ (fun _ => 0) (fun _ => 0) tacc tnet (fun _ => 0) (bnI 25) (fun _ => 0) (fun _ => 0) (fun _ => 0) (fun _ => 0) (fun _ => 0) (fun _ => 0) (fun _ => 0) (fun _ => 0) (fun _ => 0) (fun _ => 0) (fun _ => 0) (fun _ => 0) cnd 100 100 200 0 (nI 0) (nI 0) (nI 0))) (f_isOpen l sa D cI cZ cL ad tacc tnet cnd 1 (by first | assumption | omega | decide)) (cwV 1 C.2.2.2.2.1 gL_all_X4_isOpen rfl rfl rfl (by decide +kernel) ⟨Nat.le_of_ble_eq_true rfl, Nat.le_of_ble_eq_true rfl⟩) 0 rfl rfl rfl (fun _ => zSub.full) zIn.full rfl (Nat.le_of_ble_eq_true rfl) ⟨Nat.le_of_ble_eq_true rfl, Nat.le_of_ble_eq_true rfl⟩ dL_all_57 (fun r_17 _ h_18 => ?_)
  obtain rfl : r_17 = 1 := h_18
  refine z_if_eq C (tgt := 67) dL_all_60 (by decide) (fun h => absurd h (by decide)) (fun _ => ?_)
  refine z_iconst C (v := 1) dL_all_63 (by decide) ?_
  refine z_goto C (tgt := 68) dL_all_64 (by decide) ?_
  refine z_i2l C (v := 1) dL_all_68 (by decide +kernel) ?_
  refine z_ladd C (v := 18003474010261) dL_all_69 (by decide +kernel) ?_
  refine z_lstore_n C dL_all_70 rfl (by decide) [(0, .ref (ad 0)), (1, .int 0), (2, .long 18003474010261), (4, .int 1), (5, .int 0)] [1, 2, 0, 3, 4] rfl ?_
  refine z_lload_n C dL_all_71 rfl 2 rfl ?_
  refine z_ldc2 C m_L_all_k96 dL_all_72 ?_
  refine z_lmul C (v := 1098211914625921) dL_all_75 (by decide +kernel) ?_
  refine z_aload_n C dL_all_76 rfl 0 rfl ?_
  refine z_iload C dL_all_77 3 rfl ?_
  refine z_iconst C (v := 0) dL_all_79 (by decide) ?_
  refine z_callVi C (T := Unit) (As := [.int 1, .int 0]) (rest := [.long 1098211914625921]) (ws' := fun _ => (wX ad cI cZ (fun _ => 0) (fun _ => 0) tacc tnet (fun _ => 0) (bnI 25) (fun _ => 0) (fun _ => 0) (fun _ => 0) (fun _ => 0) (fun _ => 0) (fun _ => 0) (fun _ => 0) (fun _ => 0) (fun _ => 0) (fun _ => 0) (fun _ => 0) (fun _ => 0) cnd 100 100 200 0 (nI 0) (nI 0) (nI 0))) (f_queued l sa D cI cZ cL ad tacc tnet cnd 1 0 (by first | assumption | omega | decide) (by first | assumption | omega | decide)) (cwV 2 C.2.2.2.2.1 gL_all_X4_queued rfl rfl rfl (by decide +kernel) ⟨Nat.le_of_ble_eq_true rfl, Nat.le_of_ble_eq_true rfl⟩) 0 rfl rfl rfl (fun _ => zSub.full) zIn.full rfl (Nat.le_of_ble_eq_true rfl) ⟨Nat.le_of_ble_eq_true rfl, Nat.le_of_ble_eq_true rfl⟩ dL_all_80 (fun r_19 _ h_20 => ?_)
  obtain rfl : r_19 = (-1) := h_20
  refine z_i2l C (v := (-1)) dL_all_83 (by decide +kernel) ?_
  refine z_ladd C (v := 1098211914625920) dL_all_84 (by decide +kernel) ?_
  refine z_lstore_n C dL_all_85 rfl (by decide) [(0, .ref (ad 0)), (1, .int 0), (2, .long 1098211914625920), (4, .int 1), (5, .int 0)] [1, 2, 0, 3, 4] rfl ?_
  refine z_iconst C (v := 0) dL_all_86 (by decide) ?_
  refine z_istore C dL_all_87 (by decide) [(0, .ref (ad 0)), (1, .int 0), (2, .long 1098211914625920), (4, .int 1), (5, .int 0)] [1, 2, 3, 4, 0] rfl ?_
  refine z_iload C dL_all_89 4 rfl ?_
  refine z_iload C dL_all_91 3 rfl ?_
  refine z_icmp_ge C (tgt := 118) dL_all_93 (by decide) (fun h => absurd h (by decide)) (fun _ => ?_)
  refine z_lload_n C dL_all_96 rfl 2 rfl ?_
  refine z_ldc2 C m_L_all_k90 dL_all_97 ?_
  refine z_lmul C (v := (-8589435160909219200)) dL_all_100 (by decide +kernel) ?_
  refine z_aload_n C dL_all_101 rfl 0 rfl ?_
  refine z_iload C dL_all_102 3 rfl ?_
  refine z_iload C dL_all_104 4 rfl ?_
  refine z_callVi C (T := Unit) (As := [.int 1, .int 0]) (rest := [.long (-8589435160909219200)]) (ws' := fun _ => (wX ad cI cZ (fun _ => 0) (fun _ => 0) tacc tnet (fun _ => 0) (bnI 25) (fun _ => 0) (fun _ => 0) (fun _ => 0) (fun _ => 0) (fun _ => 0) (fun _ => 0) (fun _ => 0) (fun _ => 0) (fun _ => 0) (fun _ => 0) (fun _ => 0) (fun _ => 0) cnd 100 100 200 0 (nI 0) (nI 0) (nI 0))) (f_paid l sa D cI cZ cL ad tacc tnet cnd 1 0 (by first | assumption | omega | decide) (by first | assumption | omega | decide)) (cwV 2 C.2.2.2.2.1 gL_all_X4_paid rfl rfl rfl (by decide +kernel) ⟨Nat.le_of_ble_eq_true rfl, Nat.le_of_ble_eq_true rfl⟩) 0 rfl rfl rfl (fun _ => zSub.full) zIn.full rfl (Nat.le_of_ble_eq_true rfl) ⟨Nat.le_of_ble_eq_true rfl, Nat.le_of_ble_eq_true rfl⟩ dL_all_106 (fun r_21 _ h_22 => ?_)
  obtain rfl : r_21 = 0 := h_22
  refine z_i2l C (v := 0) dL_all_109 (by decide +kernel) ?_
  refine z_ladd C (v := (-8589435160909219200)) dL_all_110 (by decide +kernel) ?_
  refine z_lstore_n C dL_all_111 rfl (by decide) [(0, .ref (ad 0)), (1, .int 0), (2, .long (-8589435160909219200)), (4, .int 1), (5, .int 0)] [1, 2, 0, 3, 4] rfl ?_
  refine z_iinc C (v := 1) dL_all_112 4 rfl (by decide) (by decide) [(0, .ref (ad 0)), (1, .int 0), (2, .long (-8589435160909219200)), (4, .int 1), (5, .int 1)] [1, 2, 3, 4, 0] rfl ?_
  refine z_goto C (tgt := 89) dL_all_115 (by decide) ?_
  refine z_iload C dL_all_89 4 rfl ?_
  refine z_iload C dL_all_91 3 rfl ?_
  refine z_icmp_ge C (tgt := 118) dL_all_93 (by decide) (fun _ => ?_) (fun h => absurd h (by decide))
  refine z_iinc C (v := 2) dL_all_118 3 rfl (by decide) (by decide) [(0, .ref (ad 0)), (1, .int 0), (2, .long (-8589435160909219200)), (4, .int 2), (5, .int 1)] [1, 2, 3, 0, 4] rfl ?_
  refine z_goto C (tgt := 19) dL_all_121 (by decide) ?_
  refine z_iload C dL_all_19 3 rfl ?_
  refine z_iconst C (v := 5) dL_all_21 (by decide) ?_
  refine z_icmp_ge C (tgt := 124) dL_all_22 (by decide) (fun h => absurd h (by decide)) (fun _ => ?_)
  refine z_lload_n C dL_all_25 rfl 2 rfl ?_
  refine z_ldc2 C m_L_all_k90 dL_all_26 ?_
  refine z_lmul C (v := 7194291118848610176) dL_all_29 (by decide +kernel) ?_
  refine z_aload_n C dL_all_30 rfl 0 rfl ?_
  refine z_iload C dL_all_31 3 rfl ?_
  refine z_callVi C (T := Unit) (As := [.int 2]) (rest := [.long 7194291118848610176]) (ws' := fun _ => (wX ad cI cZ (fun _ => 0) (fun _ => 0) tacc tnet (fun _ => 0) (bnI 25) (fun _ => 0) (fun _ => 0) (fun _ => 0) (fun _ => 0) (fun _ => 0) (fun _ => 0) (fun _ => 0) (fun _ => 0) (fun _ => 0) (fun _ => 0) (fun _ => 0) (fun _ => 0) cnd 100 100 200 0 (nI 0) (nI 0) (nI 0))) (f_account l sa D cI cZ cL ad tacc tnet cnd 2 (by first | assumption | omega | decide)) (cwV 1 C.2.2.2.2.1 gL_all_X4_account rfl rfl rfl (by decide +kernel) ⟨Nat.le_of_ble_eq_true rfl, Nat.le_of_ble_eq_true rfl⟩) 0 rfl rfl rfl (fun _ => zSub.full) zIn.full rfl (Nat.le_of_ble_eq_true rfl) ⟨Nat.le_of_ble_eq_true rfl, Nat.le_of_ble_eq_true rfl⟩ dL_all_33 (fun r_23 _ h_24 => ?_)
  obtain rfl : r_23 = 0 := h_24
  refine z_i2l C (v := 0) dL_all_36 (by decide +kernel) ?_
  refine z_ladd C (v := 7194291118848610176) dL_all_37 (by decide +kernel) ?_
  refine z_ldc2 C m_L_all_k92 dL_all_38 ?_
  refine z_lmul C (v := (-4789411143048243584)) dL_all_41 (by decide +kernel) ?_
  refine z_aload_n C dL_all_42 rfl 0 rfl ?_
  refine z_iload C dL_all_43 3 rfl ?_
  refine z_callVi C (T := Unit) (As := [.int 2]) (rest := [.long (-4789411143048243584)]) (ws' := fun _ => (wX ad cI cZ (fun _ => 0) (fun _ => 0) tacc tnet (fun _ => 0) (bnI 25) (fun _ => 0) (fun _ => 0) (fun _ => 0) (fun _ => 0) (fun _ => 0) (fun _ => 0) (fun _ => 0) (fun _ => 0) (fun _ => 0) (fun _ => 0) (fun _ => 0) (fun _ => 0) cnd 100 100 200 0 (nI 0) (nI 0) (nI 0))) (f_papers l sa D cI cZ cL ad tacc tnet cnd 2 (by first | assumption | omega | decide)) (cwV 1 C.2.2.2.2.1 gL_all_X4_papers rfl rfl rfl (by decide +kernel) ⟨Nat.le_of_ble_eq_true rfl, Nat.le_of_ble_eq_true rfl⟩) 0 rfl rfl rfl (fun _ => zSub.full) zIn.full rfl (Nat.le_of_ble_eq_true rfl) ⟨Nat.le_of_ble_eq_true rfl, Nat.le_of_ble_eq_true rfl⟩ dL_all_45 (fun r_25 _ h_26 => ?_)
  obtain rfl : r_25 = 0 := h_26
  refine z_i2l C (v := 0) dL_all_48 (by decide +kernel) ?_
  refine z_ladd C (v := (-4789411143048243584)) dL_all_49 (by decide +kernel) ?_
  refine z_ldc2 C m_L_all_k94 dL_all_50 ?_
  refine z_lmul C (v := 4078510644564820864) dL_all_53 (by decide +kernel) ?_
  refine z_aload_n C dL_all_54 rfl 0 rfl ?_
  refine z_iload C dL_all_55 3 rfl ?_
  refine z_callVi C (T := Unit) (As := [.int 2]) (rest := [.long 4078510644564820864]) (ws' := fun _ => (wX ad cI cZ (fun _ => 0) (fun _ => 0) tacc tnet (fun _ => 0) (bnI 25) (fun _ => 0) (fun _ => 0) (fun _ => 0) (fun _ => 0) (fun _ => 0) (fun _ => 0) (fun _ => 0) (fun _ => 0) (fun _ => 0) (fun _ => 0) (fun _ => 0) (fun _ => 0) cnd 100 100 200 0 (nI 0) (nI 0) (nI 0))) (f_isOpen l sa D cI cZ cL ad tacc tnet cnd 2 (by first | assumption | omega | decide)) (cwV 1 C.2.2.2.2.1 gL_all_X4_isOpen rfl rfl rfl (by decide +kernel) ⟨Nat.le_of_ble_eq_true rfl, Nat.le_of_ble_eq_true rfl⟩) 0 rfl rfl rfl (fun _ => zSub.full) zIn.full rfl (Nat.le_of_ble_eq_true rfl) ⟨Nat.le_of_ble_eq_true rfl, Nat.le_of_ble_eq_true rfl⟩ dL_all_57 (fun r_27 _ h_28 => ?_)
  obtain rfl : r_27 = 1 := h_28
  refine z_if_eq C (tgt := 67) dL_all_60 (by decide) (fun h => absurd h (by decide)) (fun _ => ?_)
  refine z_iconst C (v := 1) dL_all_63 (by decide) ?_
  refine z_goto C (tgt := 68) dL_all_64 (by decide) ?_
  refine z_i2l C (v := 1) dL_all_68 (by decide +kernel) ?_
  refine z_ladd C (v := 4078510644564820865) dL_all_69 (by decide +kernel) ?_
  refine z_lstore_n C dL_all_70 rfl (by decide) [(0, .ref (ad 0)), (1, .int 0), (2, .long 4078510644564820865), (4, .int 2), (5, .int 1)] [1, 2, 0, 3, 4] rfl ?_
  refine z_lload_n C dL_all_71 rfl 2 rfl ?_
  refine z_ldc2 C m_L_all_k96 dL_all_72 ?_
  refine z_lmul C (v := 8981476360229901757) dL_all_75 (by decide +kernel) ?_
  refine z_aload_n C dL_all_76 rfl 0 rfl ?_
  refine z_iload C dL_all_77 3 rfl ?_
  refine z_iconst C (v := 0) dL_all_79 (by decide) ?_
  refine z_callVi C (T := Unit) (As := [.int 2, .int 0]) (rest := [.long 8981476360229901757]) (ws' := fun _ => (wX ad cI cZ (fun _ => 0) (fun _ => 0) tacc tnet (fun _ => 0) (bnI 25) (fun _ => 0) (fun _ => 0) (fun _ => 0) (fun _ => 0) (fun _ => 0) (fun _ => 0) (fun _ => 0) (fun _ => 0) (fun _ => 0) (fun _ => 0) (fun _ => 0) (fun _ => 0) cnd 100 100 200 0 (nI 0) (nI 0) (nI 0))) (f_queued l sa D cI cZ cL ad tacc tnet cnd 2 0 (by first | assumption | omega | decide) (by first | assumption | omega | decide)) (cwV 2 C.2.2.2.2.1 gL_all_X4_queued rfl rfl rfl (by decide +kernel) ⟨Nat.le_of_ble_eq_true rfl, Nat.le_of_ble_eq_true rfl⟩) 0 rfl rfl rfl (fun _ => zSub.full) zIn.full rfl (Nat.le_of_ble_eq_true rfl) ⟨Nat.le_of_ble_eq_true rfl, Nat.le_of_ble_eq_true rfl⟩ dL_all_80 (fun r_29 _ h_30 => ?_)
  obtain rfl : r_29 = (-1) := h_30
  refine z_i2l C (v := (-1)) dL_all_83 (by decide +kernel) ?_
  refine z_ladd C (v := 8981476360229901756) dL_all_84 (by decide +kernel) ?_
  refine z_lstore_n C dL_all_85 rfl (by decide) [(0, .ref (ad 0)), (1, .int 0), (2, .long 8981476360229901756), (4, .int 2), (5, .int 1)] [1, 2, 0, 3, 4] rfl ?_
  refine z_iconst C (v := 0) dL_all_86 (by decide) ?_
  refine z_istore C dL_all_87 (by decide) [(0, .ref (ad 0)), (1, .int 0), (2, .long 8981476360229901756), (4, .int 2), (5, .int 0)] [1, 2, 3, 4, 0] rfl ?_
  refine z_iload C dL_all_89 4 rfl ?_
  refine z_iload C dL_all_91 3 rfl ?_
  refine z_icmp_ge C (tgt := 118) dL_all_93 (by decide) (fun h => absurd h (by decide)) (fun _ => ?_)
  refine z_lload_n C dL_all_96 rfl 2 rfl ?_
  refine z_ldc2 C m_L_all_k90 dL_all_97 ?_
  refine z_lmul C (v := 4976098686278494260) dL_all_100 (by decide +kernel) ?_
  refine z_aload_n C dL_all_101 rfl 0 rfl ?_
  refine z_iload C dL_all_102 3 rfl ?_
  refine z_iload C dL_all_104 4 rfl ?_
  refine z_callVi C (T := Unit) (As := [.int 2, .int 0]) (rest := [.long 4976098686278494260]) (ws' := fun _ => (wX ad cI cZ (fun _ => 0) (fun _ => 0) tacc tnet (fun _ => 0) (bnI 25) (fun _ => 0) (fun _ => 0) (fun _ => 0) (fun _ => 0) (fun _ => 0) (fun _ => 0) (fun _ => 0) (fun _ => 0) (fun _ => 0) (fun _ => 0) (fun _ => 0) (fun _ => 0) cnd 100 100 200 0 (nI 0) (nI 0) (nI 0))) (f_paid l sa D cI cZ cL ad tacc tnet cnd 2 0 (by first | assumption | omega | decide) (by first | assumption | omega | decide)) (cwV 2 C.2.2.2.2.1 gL_all_X4_paid rfl rfl rfl (by decide +kernel) ⟨Nat.le_of_ble_eq_true rfl, Nat.le_of_ble_eq_true rfl⟩) 0 rfl rfl rfl (fun _ => zSub.full) zIn.full rfl (Nat.le_of_ble_eq_true rfl) ⟨Nat.le_of_ble_eq_true rfl, Nat.le_of_ble_eq_true rfl⟩ dL_all_106 (fun r_31 _ h_32 => ?_)
  obtain rfl : r_31 = 0 := h_32
  refine z_i2l C (v := 0) dL_all_109 (by decide +kernel) ?_
  refine z_ladd C (v := 4976098686278494260) dL_all_110 (by decide +kernel) ?_
  refine z_lstore_n C dL_all_111 rfl (by decide) [(0, .ref (ad 0)), (1, .int 0), (2, .long 4976098686278494260), (4, .int 2), (5, .int 0)] [1, 2, 0, 3, 4] rfl ?_
  refine z_iinc C (v := 1) dL_all_112 4 rfl (by decide) (by decide) [(0, .ref (ad 0)), (1, .int 0), (2, .long 4976098686278494260), (4, .int 2), (5, .int 1)] [1, 2, 3, 4, 0] rfl ?_
  refine z_goto C (tgt := 89) dL_all_115 (by decide) ?_
  refine z_iload C dL_all_89 4 rfl ?_
  refine z_iload C dL_all_91 3 rfl ?_
  refine z_icmp_ge C (tgt := 118) dL_all_93 (by decide) (fun h => absurd h (by decide)) (fun _ => ?_)
  refine z_lload_n C dL_all_96 rfl 2 rfl ?_
  refine z_ldc2 C m_L_all_k90 dL_all_97 ?_
  refine z_lmul C (v := (-6279773040710242916)) dL_all_100 (by decide +kernel) ?_
  refine z_aload_n C dL_all_101 rfl 0 rfl ?_
  refine z_iload C dL_all_102 3 rfl ?_
  refine z_iload C dL_all_104 4 rfl ?_
  refine z_callVi C (T := Unit) (As := [.int 2, .int 1]) (rest := [.long (-6279773040710242916)]) (ws' := fun _ => (wX ad cI cZ (fun _ => 0) (fun _ => 0) tacc tnet (fun _ => 0) (bnI 25) (fun _ => 0) (fun _ => 0) (fun _ => 0) (fun _ => 0) (fun _ => 0) (fun _ => 0) (fun _ => 0) (fun _ => 0) (fun _ => 0) (fun _ => 0) (fun _ => 0) (fun _ => 0) cnd 100 100 200 0 (nI 0) (nI 0) (nI 0))) (f_paid l sa D cI cZ cL ad tacc tnet cnd 2 1 (by first | assumption | omega | decide) (by first | assumption | omega | decide)) (cwV 2 C.2.2.2.2.1 gL_all_X4_paid rfl rfl rfl (by decide +kernel) ⟨Nat.le_of_ble_eq_true rfl, Nat.le_of_ble_eq_true rfl⟩) 0 rfl rfl rfl (fun _ => zSub.full) zIn.full rfl (Nat.le_of_ble_eq_true rfl) ⟨Nat.le_of_ble_eq_true rfl, Nat.le_of_ble_eq_true rfl⟩ dL_all_106 (fun r_33 _ h_34 => ?_)
  obtain rfl : r_33 = 0 := h_34
  refine z_i2l C (v := 0) dL_all_109 (by decide +kernel) ?_
  refine z_ladd C (v := (-6279773040710242916)) dL_all_110 (by decide +kernel) ?_
  refine z_lstore_n C dL_all_111 rfl (by decide) [(0, .ref (ad 0)), (1, .int 0), (2, .long (-6279773040710242916)), (4, .int 2), (5, .int 1)] [1, 2, 0, 3, 4] rfl ?_
  refine z_iinc C (v := 2) dL_all_112 4 rfl (by decide) (by decide) [(0, .ref (ad 0)), (1, .int 0), (2, .long (-6279773040710242916)), (4, .int 2), (5, .int 2)] [1, 2, 3, 4, 0] rfl ?_
  refine z_goto C (tgt := 89) dL_all_115 (by decide) ?_
  refine z_iload C dL_all_89 4 rfl ?_
  refine z_iload C dL_all_91 3 rfl ?_
  refine z_icmp_ge C (tgt := 118) dL_all_93 (by decide) (fun _ => ?_) (fun h => absurd h (by decide))
  refine z_iinc C (v := 3) dL_all_118 3 rfl (by decide) (by decide) [(0, .ref (ad 0)), (1, .int 0), (2, .long (-6279773040710242916)), (4, .int 3), (5, .int 2)] [1, 2, 3, 0, 4] rfl ?_
  refine z_goto C (tgt := 19) dL_all_121 (by decide) ?_
  refine z_iload C dL_all_19 3 rfl ?_
  refine z_iconst C (v := 5) dL_all_21 (by decide) ?_
  refine z_icmp_ge C (tgt := 124) dL_all_22 (by decide) (fun h => absurd h (by decide)) (fun _ => ?_)
  refine z_lload_n C dL_all_25 rfl 2 rfl ?_
  refine z_ldc2 C m_L_all_k90 dL_all_26 ?_
  refine z_lmul C (v := (-3688504569809197100)) dL_all_29 (by decide +kernel) ?_
  refine z_aload_n C dL_all_30 rfl 0 rfl ?_
  refine z_iload C dL_all_31 3 rfl ?_
  refine z_callVi C (T := Unit) (As := [.int 3]) (rest := [.long (-3688504569809197100)]) (ws' := fun _ => (wX ad cI cZ (fun _ => 0) (fun _ => 0) tacc tnet (fun _ => 0) (bnI 25) (fun _ => 0) (fun _ => 0) (fun _ => 0) (fun _ => 0) (fun _ => 0) (fun _ => 0) (fun _ => 0) (fun _ => 0) (fun _ => 0) (fun _ => 0) (fun _ => 0) (fun _ => 0) cnd 100 100 200 0 (nI 0) (nI 0) (nI 0))) (f_account l sa D cI cZ cL ad tacc tnet cnd 3 (by first | assumption | omega | decide)) (cwV 1 C.2.2.2.2.1 gL_all_X4_account rfl rfl rfl (by decide +kernel) ⟨Nat.le_of_ble_eq_true rfl, Nat.le_of_ble_eq_true rfl⟩) 0 rfl rfl rfl (fun _ => zSub.full) zIn.full rfl (Nat.le_of_ble_eq_true rfl) ⟨Nat.le_of_ble_eq_true rfl, Nat.le_of_ble_eq_true rfl⟩ dL_all_33 (fun r_35 _ h_36 => ?_)
  obtain rfl : r_35 = 0 := h_36
  refine z_i2l C (v := 0) dL_all_36 (by decide +kernel) ?_
  refine z_ladd C (v := (-3688504569809197100)) dL_all_37 (by decide +kernel) ?_
  refine z_ldc2 C m_L_all_k92 dL_all_38 ?_
  refine z_lmul C (v := (-4103837628761976516)) dL_all_41 (by decide +kernel) ?_
  refine z_aload_n C dL_all_42 rfl 0 rfl ?_
  refine z_iload C dL_all_43 3 rfl ?_
  refine z_callVi C (T := Unit) (As := [.int 3]) (rest := [.long (-4103837628761976516)]) (ws' := fun _ => (wX ad cI cZ (fun _ => 0) (fun _ => 0) tacc tnet (fun _ => 0) (bnI 25) (fun _ => 0) (fun _ => 0) (fun _ => 0) (fun _ => 0) (fun _ => 0) (fun _ => 0) (fun _ => 0) (fun _ => 0) (fun _ => 0) (fun _ => 0) (fun _ => 0) (fun _ => 0) cnd 100 100 200 0 (nI 0) (nI 0) (nI 0))) (f_papers l sa D cI cZ cL ad tacc tnet cnd 3 (by first | assumption | omega | decide)) (cwV 1 C.2.2.2.2.1 gL_all_X4_papers rfl rfl rfl (by decide +kernel) ⟨Nat.le_of_ble_eq_true rfl, Nat.le_of_ble_eq_true rfl⟩) 0 rfl rfl rfl (fun _ => zSub.full) zIn.full rfl (Nat.le_of_ble_eq_true rfl) ⟨Nat.le_of_ble_eq_true rfl, Nat.le_of_ble_eq_true rfl⟩ dL_all_45 (fun r_37 _ h_38 => ?_)
  obtain rfl : r_37 = 0 := h_38
  refine z_i2l C (v := 0) dL_all_48 (by decide +kernel) ?_
  refine z_ladd C (v := (-4103837628761976516)) dL_all_49 (by decide +kernel) ?_
  refine z_ldc2 C m_L_all_k94 dL_all_50 ?_
  refine z_lmul C (v := 6135231187423622068) dL_all_53 (by decide +kernel) ?_
  refine z_aload_n C dL_all_54 rfl 0 rfl ?_
  refine z_iload C dL_all_55 3 rfl ?_
  refine z_callVi C (T := Unit) (As := [.int 3]) (rest := [.long 6135231187423622068]) (ws' := fun _ => (wX ad cI cZ (fun _ => 0) (fun _ => 0) tacc tnet (fun _ => 0) (bnI 25) (fun _ => 0) (fun _ => 0) (fun _ => 0) (fun _ => 0) (fun _ => 0) (fun _ => 0) (fun _ => 0) (fun _ => 0) (fun _ => 0) (fun _ => 0) (fun _ => 0) (fun _ => 0) cnd 100 100 200 0 (nI 0) (nI 0) (nI 0))) (f_isOpen l sa D cI cZ cL ad tacc tnet cnd 3 (by first | assumption | omega | decide)) (cwV 1 C.2.2.2.2.1 gL_all_X4_isOpen rfl rfl rfl (by decide +kernel) ⟨Nat.le_of_ble_eq_true rfl, Nat.le_of_ble_eq_true rfl⟩) 0 rfl rfl rfl (fun _ => zSub.full) zIn.full rfl (Nat.le_of_ble_eq_true rfl) ⟨Nat.le_of_ble_eq_true rfl, Nat.le_of_ble_eq_true rfl⟩ dL_all_57 (fun r_39 _ h_40 => ?_)
  obtain rfl : r_39 = 1 := h_40
  refine z_if_eq C (tgt := 67) dL_all_60 (by decide) (fun h => absurd h (by decide)) (fun _ => ?_)
  refine z_iconst C (v := 1) dL_all_63 (by decide) ?_
  refine z_goto C (tgt := 68) dL_all_64 (by decide) ?_
  refine z_i2l C (v := 1) dL_all_68 (by decide +kernel) ?_
  refine z_ladd C (v := 6135231187423622069) dL_all_69 (by decide +kernel) ?_
  refine z_lstore_n C dL_all_70 rfl (by decide) [(0, .ref (ad 0)), (1, .int 0), (2, .long 6135231187423622069), (4, .int 3), (5, .int 2)] [1, 2, 0, 3, 4] rfl ?_
  refine z_lload_n C dL_all_71 rfl 2 rfl ?_
  refine z_ldc2 C m_L_all_k96 dL_all_72 ?_
  refine z_lmul C (v := 5314220958649913889) dL_all_75 (by decide +kernel) ?_
  refine z_aload_n C dL_all_76 rfl 0 rfl ?_
  refine z_iload C dL_all_77 3 rfl ?_
  refine z_iconst C (v := 0) dL_all_79 (by decide) ?_
  refine z_callVi C (T := Unit) (As := [.int 3, .int 0]) (rest := [.long 5314220958649913889]) (ws' := fun _ => (wX ad cI cZ (fun _ => 0) (fun _ => 0) tacc tnet (fun _ => 0) (bnI 25) (fun _ => 0) (fun _ => 0) (fun _ => 0) (fun _ => 0) (fun _ => 0) (fun _ => 0) (fun _ => 0) (fun _ => 0) (fun _ => 0) (fun _ => 0) (fun _ => 0) (fun _ => 0) cnd 100 100 200 0 (nI 0) (nI 0) (nI 0))) (f_queued l sa D cI cZ cL ad tacc tnet cnd 3 0 (by first | assumption | omega | decide) (by first | assumption | omega | decide)) (cwV 2 C.2.2.2.2.1 gL_all_X4_queued rfl rfl rfl (by decide +kernel) ⟨Nat.le_of_ble_eq_true rfl, Nat.le_of_ble_eq_true rfl⟩) 0 rfl rfl rfl (fun _ => zSub.full) zIn.full rfl (Nat.le_of_ble_eq_true rfl) ⟨Nat.le_of_ble_eq_true rfl, Nat.le_of_ble_eq_true rfl⟩ dL_all_80 (fun r_41 _ h_42 => ?_)
  obtain rfl : r_41 = (-1) := h_42
  refine z_i2l C (v := (-1)) dL_all_83 (by decide +kernel) ?_
  refine z_ladd C (v := 5314220958649913888) dL_all_84 (by decide +kernel) ?_
  refine z_lstore_n C dL_all_85 rfl (by decide) [(0, .ref (ad 0)), (1, .int 0), (2, .long 5314220958649913888), (4, .int 3), (5, .int 2)] [1, 2, 0, 3, 4] rfl ?_
  refine z_iconst C (v := 0) dL_all_86 (by decide) ?_
  refine z_istore C dL_all_87 (by decide) [(0, .ref (ad 0)), (1, .int 0), (2, .long 5314220958649913888), (4, .int 3), (5, .int 0)] [1, 2, 3, 4, 0] rfl ?_
  refine z_iload C dL_all_89 4 rfl ?_
  refine z_iload C dL_all_91 3 rfl ?_
  refine z_icmp_ge C (tgt := 118) dL_all_93 (by decide) (fun h => absurd h (by decide)) (fun _ => ?_)
  refine z_lload_n C dL_all_96 rfl 2 rfl ?_
  refine z_ldc2 C m_L_all_k90 dL_all_97 ?_
  refine z_lmul C (v := 6634838173660446304) dL_all_100 (by decide +kernel) ?_
  refine z_aload_n C dL_all_101 rfl 0 rfl ?_
  refine z_iload C dL_all_102 3 rfl ?_
  refine z_iload C dL_all_104 4 rfl ?_
  refine z_callVi C (T := Unit) (As := [.int 3, .int 0]) (rest := [.long 6634838173660446304]) (ws' := fun _ => (wX ad cI cZ (fun _ => 0) (fun _ => 0) tacc tnet (fun _ => 0) (bnI 25) (fun _ => 0) (fun _ => 0) (fun _ => 0) (fun _ => 0) (fun _ => 0) (fun _ => 0) (fun _ => 0) (fun _ => 0) (fun _ => 0) (fun _ => 0) (fun _ => 0) (fun _ => 0) cnd 100 100 200 0 (nI 0) (nI 0) (nI 0))) (f_paid l sa D cI cZ cL ad tacc tnet cnd 3 0 (by first | assumption | omega | decide) (by first | assumption | omega | decide)) (cwV 2 C.2.2.2.2.1 gL_all_X4_paid rfl rfl rfl (by decide +kernel) ⟨Nat.le_of_ble_eq_true rfl, Nat.le_of_ble_eq_true rfl⟩) 0 rfl rfl rfl (fun _ => zSub.full) zIn.full rfl (Nat.le_of_ble_eq_true rfl) ⟨Nat.le_of_ble_eq_true rfl, Nat.le_of_ble_eq_true rfl⟩ dL_all_106 (fun r_43 _ h_44 => ?_)
  obtain rfl : r_43 = 0 := h_44
  refine z_i2l C (v := 0) dL_all_109 (by decide +kernel) ?_
  refine z_ladd C (v := 6634838173660446304) dL_all_110 (by decide +kernel) ?_
  refine z_lstore_n C dL_all_111 rfl (by decide) [(0, .ref (ad 0)), (1, .int 0), (2, .long 6634838173660446304), (4, .int 3), (5, .int 0)] [1, 2, 0, 3, 4] rfl ?_
  refine z_iinc C (v := 1) dL_all_112 4 rfl (by decide) (by decide) [(0, .ref (ad 0)), (1, .int 0), (2, .long 6634838173660446304), (4, .int 3), (5, .int 1)] [1, 2, 3, 4, 0] rfl ?_
  refine z_goto C (tgt := 89) dL_all_115 (by decide) ?_
  refine z_iload C dL_all_89 4 rfl ?_
  refine z_iload C dL_all_91 3 rfl ?_
  refine z_icmp_ge C (tgt := 118) dL_all_93 (by decide) (fun h => absurd h (by decide)) (fun _ => ?_)
  refine z_lload_n C dL_all_96 rfl 2 rfl ?_
  refine z_ldc2 C m_L_all_k90 dL_all_97 ?_
  refine z_lmul C (v := 6956719410598302496) dL_all_100 (by decide +kernel) ?_
  refine z_aload_n C dL_all_101 rfl 0 rfl ?_
  refine z_iload C dL_all_102 3 rfl ?_
  refine z_iload C dL_all_104 4 rfl ?_
  refine z_callVi C (T := Unit) (As := [.int 3, .int 1]) (rest := [.long 6956719410598302496]) (ws' := fun _ => (wX ad cI cZ (fun _ => 0) (fun _ => 0) tacc tnet (fun _ => 0) (bnI 25) (fun _ => 0) (fun _ => 0) (fun _ => 0) (fun _ => 0) (fun _ => 0) (fun _ => 0) (fun _ => 0) (fun _ => 0) (fun _ => 0) (fun _ => 0) (fun _ => 0) (fun _ => 0) cnd 100 100 200 0 (nI 0) (nI 0) (nI 0))) (f_paid l sa D cI cZ cL ad tacc tnet cnd 3 1 (by first | assumption | omega | decide) (by first | assumption | omega | decide)) (cwV 2 C.2.2.2.2.1 gL_all_X4_paid rfl rfl rfl (by decide +kernel) ⟨Nat.le_of_ble_eq_true rfl, Nat.le_of_ble_eq_true rfl⟩) 0 rfl rfl rfl (fun _ => zSub.full) zIn.full rfl (Nat.le_of_ble_eq_true rfl) ⟨Nat.le_of_ble_eq_true rfl, Nat.le_of_ble_eq_true rfl⟩ dL_all_106 (fun r_45 _ h_46 => ?_)
  obtain rfl : r_45 = 0 := h_46
  refine z_i2l C (v := 0) dL_all_109 (by decide +kernel) ?_
  refine z_ladd C (v := 6956719410598302496) dL_all_110 (by decide +kernel) ?_
  refine z_lstore_n C dL_all_111 rfl (by decide) [(0, .ref (ad 0)), (1, .int 0), (2, .long 6956719410598302496), (4, .int 3), (5, .int 1)] [1, 2, 0, 3, 4] rfl ?_
  refine z_iinc C (v := 2) dL_all_112 4 rfl (by decide) (by decide) [(0, .ref (ad 0)), (1, .int 0), (2, .long 6956719410598302496), (4, .int 3), (5, .int 2)] [1, 2, 3, 4, 0] rfl ?_
  refine z_goto C (tgt := 89) dL_all_115 (by decide) ?_
  refine z_iload C dL_all_89 4 rfl ?_
  refine z_iload C dL_all_91 3 rfl ?_
  refine z_icmp_ge C (tgt := 118) dL_all_93 (by decide) (fun h => absurd h (by decide)) (fun _ => ?_)
  refine z_lload_n C dL_all_96 rfl 2 rfl ?_
  refine z_ldc2 C m_L_all_k90 dL_all_97 ?_
  refine z_lmul C (v := (-6524785254071828128)) dL_all_100 (by decide +kernel) ?_
  refine z_aload_n C dL_all_101 rfl 0 rfl ?_
  refine z_iload C dL_all_102 3 rfl ?_
  refine z_iload C dL_all_104 4 rfl ?_
  refine z_callVi C (T := Unit) (As := [.int 3, .int 2]) (rest := [.long (-6524785254071828128)]) (ws' := fun _ => (wX ad cI cZ (fun _ => 0) (fun _ => 0) tacc tnet (fun _ => 0) (bnI 25) (fun _ => 0) (fun _ => 0) (fun _ => 0) (fun _ => 0) (fun _ => 0) (fun _ => 0) (fun _ => 0) (fun _ => 0) (fun _ => 0) (fun _ => 0) (fun _ => 0) (fun _ => 0) cnd 100 100 200 0 (nI 0) (nI 0) (nI 0))) (f_paid l sa D cI cZ cL ad tacc tnet cnd 3 2 (by first | assumption | omega | decide) (by first | assumption | omega | decide)) (cwV 2 C.2.2.2.2.1 gL_all_X4_paid rfl rfl rfl (by decide +kernel) ⟨Nat.le_of_ble_eq_true rfl, Nat.le_of_ble_eq_true rfl⟩) 0 rfl rfl rfl (fun _ => zSub.full) zIn.full rfl (Nat.le_of_ble_eq_true rfl) ⟨Nat.le_of_ble_eq_true rfl, Nat.le_of_ble_eq_true rfl⟩ dL_all_106 (fun r_47 _ h_48 => ?_)
  obtain rfl : r_47 = 0 := h_48
  refine z_i2l C (v := 0) dL_all_109 (by decide +kernel) ?_
  refine z_ladd C (v := (-6524785254071828128)) dL_all_110 (by decide +kernel) ?_
  refine z_lstore_n C dL_all_111 rfl (by decide) [(0, .ref (ad 0)), (1, .int 0), (2, .long (-6524785254071828128)), (4, .int 3), (5, .int 2)] [1, 2, 0, 3, 4] rfl ?_
  refine z_iinc C (v := 3) dL_all_112 4 rfl (by decide) (by decide) [(0, .ref (ad 0)), (1, .int 0), (2, .long (-6524785254071828128)), (4, .int 3), (5, .int 3)] [1, 2, 3, 4, 0] rfl ?_
  refine z_goto C (tgt := 89) dL_all_115 (by decide) ?_
  refine z_iload C dL_all_89 4 rfl ?_
  refine z_iload C dL_all_91 3 rfl ?_
  refine z_icmp_ge C (tgt := 118) dL_all_93 (by decide) (fun _ => ?_) (fun h => absurd h (by decide))
  refine z_iinc C (v := 4) dL_all_118 3 rfl (by decide) (by decide) [(0, .ref (ad 0)), (1, .int 0), (2, .long (-6524785254071828128)), (4, .int 4), (5, .int 3)] [1, 2, 3, 0, 4] rfl ?_
  refine z_goto C (tgt := 19) dL_all_121 (by decide) ?_
  refine z_iload C dL_all_19 3 rfl ?_
  refine z_iconst C (v := 5) dL_all_21 (by decide) ?_
  refine z_icmp_ge C (tgt := 124) dL_all_22 (by decide) (fun h => absurd h (by decide)) (fun _ => ?_)
  refine z_lload_n C dL_all_25 rfl 2 rfl ?_
  refine z_ldc2 C m_L_all_k90 dL_all_26 ?_
  refine z_lmul C (v := (-6982115784841389024)) dL_all_29 (by decide +kernel) ?_
  refine z_aload_n C dL_all_30 rfl 0 rfl ?_
  refine z_iload C dL_all_31 3 rfl ?_
  refine z_callVi C (T := Unit) (As := [.int 4]) (rest := [.long (-6982115784841389024)]) (ws' := fun _ => (wX ad cI cZ (fun _ => 0) (fun _ => 0) tacc tnet (fun _ => 0) (bnI 25) (fun _ => 0) (fun _ => 0) (fun _ => 0) (fun _ => 0) (fun _ => 0) (fun _ => 0) (fun _ => 0) (fun _ => 0) (fun _ => 0) (fun _ => 0) (fun _ => 0) (fun _ => 0) cnd 100 100 200 0 (nI 0) (nI 0) (nI 0))) (f_account l sa D cI cZ cL ad tacc tnet cnd 4 (by first | assumption | omega | decide)) (cwV 1 C.2.2.2.2.1 gL_all_X4_account rfl rfl rfl (by decide +kernel) ⟨Nat.le_of_ble_eq_true rfl, Nat.le_of_ble_eq_true rfl⟩) 0 rfl rfl rfl (fun _ => zSub.full) zIn.full rfl (Nat.le_of_ble_eq_true rfl) ⟨Nat.le_of_ble_eq_true rfl, Nat.le_of_ble_eq_true rfl⟩ dL_all_33 (fun r_49 _ h_50 => ?_)
  obtain rfl : r_49 = 0 := h_50
  refine z_i2l C (v := 0) dL_all_36 (by decide +kernel) ?_
  refine z_ladd C (v := (-6982115784841389024)) dL_all_37 (by decide +kernel) ?_
  refine z_ldc2 C m_L_all_k92 dL_all_38 ?_
  refine z_lmul C (v := (-5848285628393264544)) dL_all_41 (by decide +kernel) ?_
  refine z_aload_n C dL_all_42 rfl 0 rfl ?_
  refine z_iload C dL_all_43 3 rfl ?_
  refine z_callVi C (T := Unit) (As := [.int 4]) (rest := [.long (-5848285628393264544)]) (ws' := fun _ => (wX ad cI cZ (fun _ => 0) (fun _ => 0) tacc tnet (fun _ => 0) (bnI 25) (fun _ => 0) (fun _ => 0) (fun _ => 0) (fun _ => 0) (fun _ => 0) (fun _ => 0) (fun _ => 0) (fun _ => 0) (fun _ => 0) (fun _ => 0) (fun _ => 0) (fun _ => 0) cnd 100 100 200 0 (nI 0) (nI 0) (nI 0))) (f_papers l sa D cI cZ cL ad tacc tnet cnd 4 (by first | assumption | omega | decide)) (cwV 1 C.2.2.2.2.1 gL_all_X4_papers rfl rfl rfl (by decide +kernel) ⟨Nat.le_of_ble_eq_true rfl, Nat.le_of_ble_eq_true rfl⟩) 0 rfl rfl rfl (fun _ => zSub.full) zIn.full rfl (Nat.le_of_ble_eq_true rfl) ⟨Nat.le_of_ble_eq_true rfl, Nat.le_of_ble_eq_true rfl⟩ dL_all_45 (fun r_51 _ h_52 => ?_)
  obtain rfl : r_51 = 0 := h_52
  refine z_i2l C (v := 0) dL_all_48 (by decide +kernel) ?_
  refine z_ladd C (v := (-5848285628393264544)) dL_all_49 (by decide +kernel) ?_
  refine z_ldc2 C m_L_all_k94 dL_all_50 ?_
  refine z_lmul C (v := 901887188529757984) dL_all_53 (by decide +kernel) ?_
  refine z_aload_n C dL_all_54 rfl 0 rfl ?_
  refine z_iload C dL_all_55 3 rfl ?_
  refine z_callVi C (T := Unit) (As := [.int 4]) (rest := [.long 901887188529757984]) (ws' := fun _ => (wX ad cI cZ (fun _ => 0) (fun _ => 0) tacc tnet (fun _ => 0) (bnI 25) (fun _ => 0) (fun _ => 0) (fun _ => 0) (fun _ => 0) (fun _ => 0) (fun _ => 0) (fun _ => 0) (fun _ => 0) (fun _ => 0) (fun _ => 0) (fun _ => 0) (fun _ => 0) cnd 100 100 200 0 (nI 0) (nI 0) (nI 0))) (f_isOpen l sa D cI cZ cL ad tacc tnet cnd 4 (by first | assumption | omega | decide)) (cwV 1 C.2.2.2.2.1 gL_all_X4_isOpen rfl rfl rfl (by decide +kernel) ⟨Nat.le_of_ble_eq_true rfl, Nat.le_of_ble_eq_true rfl⟩) 0 rfl rfl rfl (fun _ => zSub.full) zIn.full rfl (Nat.le_of_ble_eq_true rfl) ⟨Nat.le_of_ble_eq_true rfl, Nat.le_of_ble_eq_true rfl⟩ dL_all_57 (fun r_53 _ h_54 => ?_)
  obtain rfl : r_53 = 1 := h_54
  refine z_if_eq C (tgt := 67) dL_all_60 (by decide) (fun h => absurd h (by decide)) (fun _ => ?_)
  refine z_iconst C (v := 1) dL_all_63 (by decide) ?_
  refine z_goto C (tgt := 68) dL_all_64 (by decide) ?_
  refine z_i2l C (v := 1) dL_all_68 (by decide +kernel) ?_
  refine z_ladd C (v := 901887188529757985) dL_all_69 (by decide +kernel) ?_
  refine z_lstore_n C dL_all_70 rfl (by decide) [(0, .ref (ad 0)), (1, .int 0), (2, .long 901887188529757985), (4, .int 4), (5, .int 3)] [1, 2, 0, 3, 4] rfl ?_
  refine z_lload_n C dL_all_71 rfl 2 rfl ?_
  refine z_ldc2 C m_L_all_k96 dL_all_72 ?_
  refine z_lmul C (v := (-325113720813417763)) dL_all_75 (by decide +kernel) ?_
  refine z_aload_n C dL_all_76 rfl 0 rfl ?_
  refine z_iload C dL_all_77 3 rfl ?_
  refine z_iconst C (v := 0) dL_all_79 (by decide) ?_
  refine z_callVi C (T := Unit) (As := [.int 4, .int 0]) (rest := [.long (-325113720813417763)]) (ws' := fun _ => (wX ad cI cZ (fun _ => 0) (fun _ => 0) tacc tnet (fun _ => 0) (bnI 25) (fun _ => 0) (fun _ => 0) (fun _ => 0) (fun _ => 0) (fun _ => 0) (fun _ => 0) (fun _ => 0) (fun _ => 0) (fun _ => 0) (fun _ => 0) (fun _ => 0) (fun _ => 0) cnd 100 100 200 0 (nI 0) (nI 0) (nI 0))) (f_queued l sa D cI cZ cL ad tacc tnet cnd 4 0 (by first | assumption | omega | decide) (by first | assumption | omega | decide)) (cwV 2 C.2.2.2.2.1 gL_all_X4_queued rfl rfl rfl (by decide +kernel) ⟨Nat.le_of_ble_eq_true rfl, Nat.le_of_ble_eq_true rfl⟩) 0 rfl rfl rfl (fun _ => zSub.full) zIn.full rfl (Nat.le_of_ble_eq_true rfl) ⟨Nat.le_of_ble_eq_true rfl, Nat.le_of_ble_eq_true rfl⟩ dL_all_80 (fun r_55 _ h_56 => ?_)
  obtain rfl : r_55 = (-1) := h_56
  refine z_i2l C (v := (-1)) dL_all_83 (by decide +kernel) ?_
  refine z_ladd C (v := (-325113720813417764)) dL_all_84 (by decide +kernel) ?_
  refine z_lstore_n C dL_all_85 rfl (by decide) [(0, .ref (ad 0)), (1, .int 0), (2, .long (-325113720813417764)), (4, .int 4), (5, .int 3)] [1, 2, 0, 3, 4] rfl ?_
  refine z_iconst C (v := 0) dL_all_86 (by decide) ?_
  refine z_istore C dL_all_87 (by decide) [(0, .ref (ad 0)), (1, .int 0), (2, .long (-325113720813417764)), (4, .int 4), (5, .int 0)] [1, 2, 3, 4, 0] rfl ?_
  refine z_iload C dL_all_89 4 rfl ?_
  refine z_iload C dL_all_91 3 rfl ?_
  refine z_icmp_ge C (tgt := 118) dL_all_93 (by decide) (fun h => absurd h (by decide)) (fun _ => ?_)
  refine z_lload_n C dL_all_96 rfl 2 rfl ?_
  refine z_ldc2 C m_L_all_k90 dL_all_97 ?_
  refine z_lmul C (v := 9168144550642978708) dL_all_100 (by decide +kernel) ?_
  refine z_aload_n C dL_all_101 rfl 0 rfl ?_
  refine z_iload C dL_all_102 3 rfl ?_
  refine z_iload C dL_all_104 4 rfl ?_
  refine z_callVi C (T := Unit) (As := [.int 4, .int 0]) (rest := [.long 9168144550642978708]) (ws' := fun _ => (wX ad cI cZ (fun _ => 0) (fun _ => 0) tacc tnet (fun _ => 0) (bnI 25) (fun _ => 0) (fun _ => 0) (fun _ => 0) (fun _ => 0) (fun _ => 0) (fun _ => 0) (fun _ => 0) (fun _ => 0) (fun _ => 0) (fun _ => 0) (fun _ => 0) (fun _ => 0) cnd 100 100 200 0 (nI 0) (nI 0) (nI 0))) (f_paid l sa D cI cZ cL ad tacc tnet cnd 4 0 (by first | assumption | omega | decide) (by first | assumption | omega | decide)) (cwV 2 C.2.2.2.2.1 gL_all_X4_paid rfl rfl rfl (by decide +kernel) ⟨Nat.le_of_ble_eq_true rfl, Nat.le_of_ble_eq_true rfl⟩) 0 rfl rfl rfl (fun _ => zSub.full) zIn.full rfl (Nat.le_of_ble_eq_true rfl) ⟨Nat.le_of_ble_eq_true rfl, Nat.le_of_ble_eq_true rfl⟩ dL_all_106 (fun r_57 _ h_58 => ?_)
  obtain rfl : r_57 = 0 := h_58
  refine z_i2l C (v := 0) dL_all_109 (by decide +kernel) ?_
  refine z_ladd C (v := 9168144550642978708) dL_all_110 (by decide +kernel) ?_
  refine z_lstore_n C dL_all_111 rfl (by decide) [(0, .ref (ad 0)), (1, .int 0), (2, .long 9168144550642978708), (4, .int 4), (5, .int 0)] [1, 2, 0, 3, 4] rfl ?_
  refine z_iinc C (v := 1) dL_all_112 4 rfl (by decide) (by decide) [(0, .ref (ad 0)), (1, .int 0), (2, .long 9168144550642978708), (4, .int 4), (5, .int 1)] [1, 2, 3, 4, 0] rfl ?_
  refine z_goto C (tgt := 89) dL_all_115 (by decide) ?_
  refine z_iload C dL_all_89 4 rfl ?_
  refine z_iload C dL_all_91 3 rfl ?_
  refine z_icmp_ge C (tgt := 118) dL_all_93 (by decide) (fun h => absurd h (by decide)) (fun _ => ?_)
  refine z_lload_n C dL_all_96 rfl 2 rfl ?_
  refine z_ldc2 C m_L_all_k90 dL_all_97 ?_
  refine z_lmul C (v := (-7323509606192628804)) dL_all_100 (by decide +kernel) ?_
  refine z_aload_n C dL_all_101 rfl 0 rfl ?_
  refine z_iload C dL_all_102 3 rfl ?_
  refine z_iload C dL_all_104 4 rfl ?_
  refine z_callVi C (T := Unit) (As := [.int 4, .int 1]) (rest := [.long (-7323509606192628804)]) (ws' := fun _ => (wX ad cI cZ (fun _ => 0) (fun _ => 0) tacc tnet (fun _ => 0) (bnI 25) (fun _ => 0) (fun _ => 0) (fun _ => 0) (fun _ => 0) (fun _ => 0) (fun _ => 0) (fun _ => 0) (fun _ => 0) (fun _ => 0) (fun _ => 0) (fun _ => 0) (fun _ => 0) cnd 100 100 200 0 (nI 0) (nI 0) (nI 0))) (f_paid l sa D cI cZ cL ad tacc tnet cnd 4 1 (by first | assumption | omega | decide) (by first | assumption | omega | decide)) (cwV 2 C.2.2.2.2.1 gL_all_X4_paid rfl rfl rfl (by decide +kernel) ⟨Nat.le_of_ble_eq_true rfl, Nat.le_of_ble_eq_true rfl⟩) 0 rfl rfl rfl (fun _ => zSub.full) zIn.full rfl (Nat.le_of_ble_eq_true rfl) ⟨Nat.le_of_ble_eq_true rfl, Nat.le_of_ble_eq_true rfl⟩ dL_all_106 (fun r_59 _ h_60 => ?_)
  obtain rfl : r_59 = 0 := h_60
  refine z_i2l C (v := 0) dL_all_109 (by decide +kernel) ?_
  refine z_ladd C (v := (-7323509606192628804)) dL_all_110 (by decide +kernel) ?_
  refine z_lstore_n C dL_all_111 rfl (by decide) [(0, .ref (ad 0)), (1, .int 0), (2, .long (-7323509606192628804)), (4, .int 4), (5, .int 1)] [1, 2, 0, 3, 4] rfl ?_
  refine z_iinc C (v := 2) dL_all_112 4 rfl (by decide) (by decide) [(0, .ref (ad 0)), (1, .int 0), (2, .long (-7323509606192628804)), (4, .int 4), (5, .int 2)] [1, 2, 3, 4, 0] rfl ?_
  refine z_goto C (tgt := 89) dL_all_115 (by decide) ?_
  refine z_iload C dL_all_89 4 rfl ?_
  refine z_iload C dL_all_91 3 rfl ?_
  refine z_icmp_ge C (tgt := 118) dL_all_93 (by decide) (fun h => absurd h (by decide)) (fun _ => ?_)
  refine z_lload_n C dL_all_96 rfl 2 rfl ?_
  refine z_ldc2 C m_L_all_k90 dL_all_97 ?_
  refine z_lmul C (v := (-8158762092004369868)) dL_all_100 (by decide +kernel) ?_
  refine z_aload_n C dL_all_101 rfl 0 rfl ?_
  refine z_iload C dL_all_102 3 rfl ?_
  refine z_iload C dL_all_104 4 rfl ?_
  refine z_callVi C (T := Unit) (As := [.int 4, .int 2]) (rest := [.long (-8158762092004369868)]) (ws' := fun _ => (wX ad cI cZ (fun _ => 0) (fun _ => 0) tacc tnet (fun _ => 0) (bnI 25) (fun _ => 0) (fun _ => 0) (fun _ => 0) (fun _ => 0) (fun _ => 0) (fun _ => 0) (fun _ => 0) (fun _ => 0) (fun _ => 0) (fun _ => 0) (fun _ => 0) (fun _ => 0) cnd 100 100 200 0 (nI 0) (nI 0) (nI 0))) (f_paid l sa D cI cZ cL ad tacc tnet cnd 4 2 (by first | assumption | omega | decide) (by first | assumption | omega | decide)) (cwV 2 C.2.2.2.2.1 gL_all_X4_paid rfl rfl rfl (by decide +kernel) ⟨Nat.le_of_ble_eq_true rfl, Nat.le_of_ble_eq_true rfl⟩) 0 rfl rfl rfl (fun _ => zSub.full) zIn.full rfl (Nat.le_of_ble_eq_true rfl) ⟨Nat.le_of_ble_eq_true rfl, Nat.le_of_ble_eq_true rfl⟩ dL_all_106 (fun r_61 _ h_62 => ?_)
  obtain rfl : r_61 = 0 := h_62
  refine z_i2l C (v := 0) dL_all_109 (by decide +kernel) ?_
  refine z_ladd C (v := (-8158762092004369868)) dL_all_110 (by decide +kernel) ?_
  refine z_lstore_n C dL_all_111 rfl (by decide) [(0, .ref (ad 0)), (1, .int 0), (2, .long (-8158762092004369868)), (4, .int 4), (5, .int 2)] [1, 2, 0, 3, 4] rfl ?_
  refine z_iinc C (v := 3) dL_all_112 4 rfl (by decide) (by decide) [(0, .ref (ad 0)), (1, .int 0), (2, .long (-8158762092004369868)), (4, .int 4), (5, .int 3)] [1, 2, 3, 4, 0] rfl ?_
  refine z_goto C (tgt := 89) dL_all_115 (by decide) ?_
  refine z_iload C dL_all_89 4 rfl ?_
  refine z_iload C dL_all_91 3 rfl ?_
  refine z_icmp_ge C (tgt := 118) dL_all_93 (by decide) (fun h => absurd h (by decide)) (fun _ => ?_)
  refine z_lload_n C dL_all_96 rfl 2 rfl ?_
  refine z_ldc2 C m_L_all_k90 dL_all_97 ?_
  refine z_lmul C (v := 5421326277993579420) dL_all_100 (by decide +kernel) ?_
  refine z_aload_n C dL_all_101 rfl 0 rfl ?_
  refine z_iload C dL_all_102 3 rfl ?_
  refine z_iload C dL_all_104 4 rfl ?_
  refine z_callVi C (T := Unit) (As := [.int 4, .int 3]) (rest := [.long 5421326277993579420]) (ws' := fun _ => (wX ad cI cZ (fun _ => 0) (fun _ => 0) tacc tnet (fun _ => 0) (bnI 25) (fun _ => 0) (fun _ => 0) (fun _ => 0) (fun _ => 0) (fun _ => 0) (fun _ => 0) (fun _ => 0) (fun _ => 0) (fun _ => 0) (fun _ => 0) (fun _ => 0) (fun _ => 0) cnd 100 100 200 0 (nI 0) (nI 0) (nI 0))) (f_paid l sa D cI cZ cL ad tacc tnet cnd 4 3 (by first | assumption | omega | decide) (by first | assumption | omega | decide)) (cwV 2 C.2.2.2.2.1 gL_all_X4_paid rfl rfl rfl (by decide +kernel) ⟨Nat.le_of_ble_eq_true rfl, Nat.le_of_ble_eq_true rfl⟩) 0 rfl rfl rfl (fun _ => zSub.full) zIn.full rfl (Nat.le_of_ble_eq_true rfl) ⟨Nat.le_of_ble_eq_true rfl, Nat.le_of_ble_eq_true rfl⟩ dL_all_106 (fun r_63 _ h_64 => ?_)
  obtain rfl : r_63 = 0 := h_64
  refine z_i2l C (v := 0) dL_all_109 (by decide +kernel) ?_
  refine z_ladd C (v := 5421326277993579420) dL_all_110 (by decide +kernel) ?_
  refine z_lstore_n C dL_all_111 rfl (by decide) [(0, .ref (ad 0)), (1, .int 0), (2, .long 5421326277993579420), (4, .int 4), (5, .int 3)] [1, 2, 0, 3, 4] rfl ?_
  refine z_iinc C (v := 4) dL_all_112 4 rfl (by decide) (by decide) [(0, .ref (ad 0)), (1, .int 0), (2, .long 5421326277993579420), (4, .int 4), (5, .int 4)] [1, 2, 3, 4, 0] rfl ?_
  refine z_goto C (tgt := 89) dL_all_115 (by decide) ?_
  refine z_iload C dL_all_89 4 rfl ?_
  refine z_iload C dL_all_91 3 rfl ?_
  refine z_icmp_ge C (tgt := 118) dL_all_93 (by decide) (fun _ => ?_) (fun h => absurd h (by decide))
  refine z_iinc C (v := 5) dL_all_118 3 rfl (by decide) (by decide) [(0, .ref (ad 0)), (1, .int 0), (2, .long 5421326277993579420), (4, .int 5), (5, .int 4)] [1, 2, 3, 0, 4] rfl ?_
  refine z_goto C (tgt := 19) dL_all_121 (by decide) ?_
  refine z_iload C dL_all_19 3 rfl ?_
  refine z_iconst C (v := 5) dL_all_21 (by decide) ?_
  refine z_icmp_ge C (tgt := 124) dL_all_22 (by decide) (fun _ => ?_) (fun h => absurd h (by decide))
  refine z_iconst C (v := 0) dL_all_124 (by decide) ?_
  refine z_istore C dL_all_125 (by decide) [(0, .ref (ad 0)), (1, .int 0), (2, .long 5421326277993579420), (4, .int 0), (5, .int 4)] [1, 2, 3, 0, 4] rfl ?_
  refine z_iload C dL_all_127 3 rfl ?_
  refine z_iload_n C dL_all_129 rfl 1 rfl ?_
  refine z_icmp_ge C (tgt := 162) dL_all_130 (by decide) (fun _ => ?_) (fun h => absurd h (by decide))
  refine z_lload_n C dL_all_162 rfl 2 rfl ?_
  exact z_lret C () rfl rfl (by decide) (by decide) dL_all_163
set_option maxHeartbeats 4000000 in
set_option maxRecDepth 100000 in
theorem c_L_kept (l : Launch) (hfl : l.stackTraces = false) (sa : Nat → Nat) (D : va_G) (cI cZ cL : ClassId) (ad : Nat → Nat) (tacc tnet cnd : Nat → Int32)   : zNi (T := (Nat → Int32) × (Nat → Int32) × (Nat → Int32)) 6 sa D vwCl (zty cI cZ cL) l yL_kept wsL_kept ({ frames := 10, cells := 6, slots := 36, locals := 175 } : Room) [.ref (ad 0), .int 0] (wX ad cI cZ (fun _ => 0) (fun _ => 0) tacc tnet (fun _ => 0) (bnI 25) (fun _ => 0) (fun _ => 0) (fun _ => 0) (fun _ => 0) (fun _ => 0) (fun _ => 0) (fun _ => 0) (fun _ => 0) (fun _ => 0) (fun _ => 0) (fun _ => 0) (fun _ => 0) cnd 100 100 200 0 (nI 0) (nI 0) (nI 0)) (fun r9 u => r9 = 1) (fun u => (wX ad cI cZ (fun _ => 0) (fun _ => 0) u.2.1 u.2.2 (fun _ => 0) (bnI 25) (fun _ => 0) (fun _ => 0) (fun _ => 0) (fun _ => 0) (fun _ => 0) (fun _ => 0) (fun _ => 0) (fun _ => 0) (fun _ => 0) (fun _ => 0) (fun _ => 0) (fun _ => 0) u.1 100 100 200 0 (nI 0) (nI 0) (nI 0))) 6 36 := by
  refine zNi.of (ret := (some .boolean)) (cc := cL_kept) (nL := 8) (own := RL) (by decide +kernel) rfl [(0, .ref (ad 0)), (1, .int 0)] rfl (Nat.le_of_ble_eq_true rfl) rfl ?_
  intro A p e s m args below meth c C hmn
  refine z_iconst C (v := 0) dL_kept_0 (by decide) ?_
  refine z_istore_n C dL_kept_1 rfl (by decide) [(0, .ref (ad 0)), (1, .int 0), (2, .int 0)] [1, 2, 0] rfl ?_
  refine z_iconst C (v := 0) dL_kept_2 (by decide) ?_
  refine z_istore_n C dL_kept_3 rfl (by decide) [(0, .ref (ad 0)), (1, .int 0), (2, .int 0), (3, .int 0)] [1, 2, 3, 0] rfl ?_
  refine z_aload_n C dL_kept_4 rfl 0 rfl ?_
  refine z_iconst C (v := 4) dL_kept_5 (by decide) ?_
  refine z_iconst C (v := 5) dL_kept_6 (by decide) ?_
  refine z_iconst C (v := 0) dL_kept_7 (by decide) ?_
  refine z_iconst C (v := 0) dL_kept_8 (by decide) ?_
  refine z_iconst C (v := 0) dL_kept_9 (by decide) ?_
  refine z_callSWn C (T := Unit) (As := [.ref (ad 0), .int 4, .int 5, .int 0, .int 0, .int 0]) (rest := []) (ws' := fun _ => (wX ad cI cZ (fun _ => 0) (fun _ => 0) tacc tnet (fun _ => 0) (bnI 25) (fun _ => 0) (fun _ => 0) (fun _ => 0) (fun _ => 0) (fun _ => 0) (fun _ => 0) (fun _ => 0) (fun _ => 0) (fun _ => 0) (fun _ => 0) (fun _ => 0) (fun _ => 0) cnd 100 100 200 0 (nI 0) (nI 0) (nI 0))) (call_account l hfl sa D cI cZ cL ad tacc tnet cnd  ) (vx_cwSW 6 C.2.2.2.2.1 gL_kept_L_call rfl rfl rfl (by decide +kernel) ⟨Nat.le_of_ble_eq_true rfl, Nat.le_of_ble_eq_true rfl⟩) (fun _ => zSub.full) zIn.full rfl (Nat.le_of_ble_eq_true rfl) ⟨Nat.le_of_ble_eq_true rfl, Nat.le_of_ble_eq_true rfl⟩ dL_kept_10 (fun r_1 _ h_2 => ?_)
  obtain rfl : r_1 = (-2000000021) := h_2
  refine z_ldc C m_L_kept_k16 dL_kept_13 ?_
  refine z_icmp_ne C (tgt := 96) dL_kept_15 (by decide) (fun h => absurd h (by decide)) (fun _ => ?_)
  refine z_aload_n C dL_kept_18 rfl 0 rfl ?_
  refine z_iconst C (v := 5) dL_kept_19 (by decide) ?_
  refine z_iconst C (v := (-1)) dL_kept_20 (by decide) ?_
  refine z_iconst C (v := 0) dL_kept_21 (by decide) ?_
  refine z_iconst C (v := 0) dL_kept_22 (by decide) ?_
  refine z_iconst C (v := 0) dL_kept_23 (by decide) ?_
  refine z_callSWn C (T := Unit) (As := [.ref (ad 0), .int 5, .int (-1), .int 0, .int 0, .int 0]) (rest := []) (ws' := fun _ => (wX ad cI cZ (fun _ => 0) (fun _ => 0) tacc tnet (fun _ => 0) (bnI 25) (fun _ => 0) (fun _ => 0) (fun _ => 0) (fun _ => 0) (fun _ => 0) (fun _ => 0) (fun _ => 0) (fun _ => 0) (fun _ => 0) (fun _ => 0) (fun _ => 0) (fun _ => 0) cnd 100 100 200 0 (nI 0) (nI 0) (nI 0))) (call_papers l hfl sa D cI cZ cL ad tacc tnet cnd  ) (vx_cwSW 6 C.2.2.2.2.1 gL_kept_L_call rfl rfl rfl (by decide +kernel) ⟨Nat.le_of_ble_eq_true rfl, Nat.le_of_ble_eq_true rfl⟩) (fun _ => zSub.full) zIn.full rfl (Nat.le_of_ble_eq_true rfl) ⟨Nat.le_of_ble_eq_true rfl, Nat.le_of_ble_eq_true rfl⟩ dL_kept_24 (fun r_3 _ h_4 => ?_)
  obtain rfl : r_3 = (-2000000021) := h_4
  refine z_ldc C m_L_kept_k16 dL_kept_27 ?_
  refine z_icmp_ne C (tgt := 96) dL_kept_29 (by decide) (fun h => absurd h (by decide)) (fun _ => ?_)
  refine z_aload_n C dL_kept_32 rfl 0 rfl ?_
  refine z_bipush C (v := 6) dL_kept_33 (by decide) ?_
  refine z_iconst C (v := 5) dL_kept_35 (by decide) ?_
  refine z_iconst C (v := 0) dL_kept_36 (by decide) ?_
  refine z_iconst C (v := 0) dL_kept_37 (by decide) ?_
  refine z_iconst C (v := 0) dL_kept_38 (by decide) ?_
  refine z_callSWn C (T := Unit) (As := [.ref (ad 0), .int 6, .int 5, .int 0, .int 0, .int 0]) (rest := []) (ws' := fun _ => (wX ad cI cZ (fun _ => 0) (fun _ => 0) tacc tnet (fun _ => 0) (bnI 25) (fun _ => 0) (fun _ => 0) (fun _ => 0) (fun _ => 0) (fun _ => 0) (fun _ => 0) (fun _ => 0) (fun _ => 0) (fun _ => 0) (fun _ => 0) (fun _ => 0) (fun _ => 0) cnd 100 100 200 0 (nI 0) (nI 0) (nI 0))) (call_isOpen l hfl sa D cI cZ cL ad tacc tnet cnd  ) (vx_cwSW 6 C.2.2.2.2.1 gL_kept_L_call rfl rfl rfl (by decide +kernel) ⟨Nat.le_of_ble_eq_true rfl, Nat.le_of_ble_eq_true rfl⟩) (fun _ => zSub.full) zIn.full rfl (Nat.le_of_ble_eq_true rfl) ⟨Nat.le_of_ble_eq_true rfl, Nat.le_of_ble_eq_true rfl⟩ dL_kept_39 (fun r_5 _ h_6 => ?_)
  obtain rfl : r_5 = (-2000000021) := h_6
  refine z_ldc C m_L_kept_k16 dL_kept_42 ?_
  refine z_icmp_ne C (tgt := 96) dL_kept_44 (by decide) (fun h => absurd h (by decide)) (fun _ => ?_)
  refine z_aload_n C dL_kept_47 rfl 0 rfl ?_
  refine z_bipush C (v := 7) dL_kept_48 (by decide) ?_
  refine z_iconst C (v := 0) dL_kept_50 (by decide) ?_
  refine z_iconst C (v := 5) dL_kept_51 (by decide) ?_
  refine z_iconst C (v := 0) dL_kept_52 (by decide) ?_
  refine z_iconst C (v := 0) dL_kept_53 (by decide) ?_
  refine z_callSWn C (T := Unit) (As := [.ref (ad 0), .int 7, .int 0, .int 5, .int 0, .int 0]) (rest := []) (ws' := fun _ => (wX ad cI cZ (fun _ => 0) (fun _ => 0) tacc tnet (fun _ => 0) (bnI 25) (fun _ => 0) (fun _ => 0) (fun _ => 0) (fun _ => 0) (fun _ => 0) (fun _ => 0) (fun _ => 0) (fun _ => 0) (fun _ => 0) (fun _ => 0) (fun _ => 0) (fun _ => 0) cnd 100 100 200 0 (nI 0) (nI 0) (nI 0))) (call_paid l hfl sa D cI cZ cL ad tacc tnet cnd  ) (vx_cwSW 6 C.2.2.2.2.1 gL_kept_L_call rfl rfl rfl (by decide +kernel) ⟨Nat.le_of_ble_eq_true rfl, Nat.le_of_ble_eq_true rfl⟩) (fun _ => zSub.full) zIn.full rfl (Nat.le_of_ble_eq_true rfl) ⟨Nat.le_of_ble_eq_true rfl, Nat.le_of_ble_eq_true rfl⟩ dL_kept_54 (fun r_7 _ h_8 => ?_)
  obtain rfl : r_7 = (-2000000021) := h_8
  refine z_ldc C m_L_kept_k16 dL_kept_57 ?_
  refine z_icmp_ne C (tgt := 96) dL_kept_59 (by decide) (fun h => absurd h (by decide)) (fun _ => ?_)
  refine z_aload_n C dL_kept_62 rfl 0 rfl ?_
  refine z_bipush C (v := 11) dL_kept_63 (by decide) ?_
  refine z_iconst C (v := 0) dL_kept_65 (by decide) ?_
  refine z_iconst C (v := (-1)) dL_kept_66 (by decide) ?_
  refine z_iconst C (v := 0) dL_kept_67 (by decide) ?_
  refine z_iconst C (v := 0) dL_kept_68 (by decide) ?_
  refine z_callSWn C (T := Unit) (As := [.ref (ad 0), .int 11, .int 0, .int (-1), .int 0, .int 0]) (rest := []) (ws' := fun _ => (wX ad cI cZ (fun _ => 0) (fun _ => 0) tacc tnet (fun _ => 0) (bnI 25) (fun _ => 0) (fun _ => 0) (fun _ => 0) (fun _ => 0) (fun _ => 0) (fun _ => 0) (fun _ => 0) (fun _ => 0) (fun _ => 0) (fun _ => 0) (fun _ => 0) (fun _ => 0) cnd 100 100 200 0 (nI 0) (nI 0) (nI 0))) (call_queued l hfl sa D cI cZ cL ad tacc tnet cnd  ) (vx_cwSW 6 C.2.2.2.2.1 gL_kept_L_call rfl rfl rfl (by decide +kernel) ⟨Nat.le_of_ble_eq_true rfl, Nat.le_of_ble_eq_true rfl⟩) (fun _ => zSub.full) zIn.full rfl (Nat.le_of_ble_eq_true rfl) ⟨Nat.le_of_ble_eq_true rfl, Nat.le_of_ble_eq_true rfl⟩ dL_kept_69 (fun r_9 _ h_10 => ?_)
  obtain rfl : r_9 = (-2000000021) := h_10
  refine z_ldc C m_L_kept_k16 dL_kept_72 ?_
  refine z_icmp_ne C (tgt := 96) dL_kept_74 (by decide) (fun h => absurd h (by decide)) (fun _ => ?_)
  refine z_aload_n C dL_kept_77 rfl 0 rfl ?_
  refine z_bipush C (v := 12) dL_kept_78 (by decide) ?_
  refine z_iload_n C dL_kept_80 rfl 1 rfl ?_
  refine z_iconst C (v := 0) dL_kept_81 (by decide) ?_
  refine z_iconst C (v := 0) dL_kept_82 (by decide) ?_
  refine z_iconst C (v := 0) dL_kept_83 (by decide) ?_
  refine z_callSWn C (T := Unit) (As := [.ref (ad 0), .int 12, .int 0, .int 0, .int 0, .int 0]) (rest := []) (ws' := fun _ => (wX ad cI cZ (fun _ => 0) (fun _ => 0) tacc tnet (fun _ => 0) (bnI 25) (fun _ => 0) (fun _ => 0) (fun _ => 0) (fun _ => 0) (fun _ => 0) (fun _ => 0) (fun _ => 0) (fun _ => 0) (fun _ => 0) (fun _ => 0) (fun _ => 0) (fun _ => 0) cnd 100 100 200 0 (nI 0) (nI 0) (nI 0))) (call_why l hfl sa D cI cZ cL ad tacc tnet cnd  ) (vx_cwSW 6 C.2.2.2.2.1 gL_kept_L_call rfl rfl rfl (by decide +kernel) ⟨Nat.le_of_ble_eq_true rfl, Nat.le_of_ble_eq_true rfl⟩) (fun _ => zSub.full) zIn.full rfl (Nat.le_of_ble_eq_true rfl) ⟨Nat.le_of_ble_eq_true rfl, Nat.le_of_ble_eq_true rfl⟩ dL_kept_84 (fun r_11 _ h_12 => ?_)
  obtain rfl : r_11 = (-2000000021) := h_12
  refine z_ldc C m_L_kept_k16 dL_kept_87 ?_
  refine z_icmp_ne C (tgt := 96) dL_kept_89 (by decide) (fun h => absurd h (by decide)) (fun _ => ?_)
  refine z_iconst C (v := 1) dL_kept_92 (by decide) ?_
  refine z_goto C (tgt := 97) dL_kept_93 (by decide) ?_
  refine z_istore C dL_kept_97 (by decide) [(0, .ref (ad 0)), (1, .int 0), (2, .int 0), (3, .int 0), (4, .int 1)] [1, 2, 3, 4, 0] rfl ?_
  refine z_iconst C (v := 0) dL_kept_99 (by decide) ?_
  refine z_istore C dL_kept_100 (by decide) [(0, .ref (ad 0)), (1, .int 0), (2, .int 0), (3, .int 0), (4, .int 1), (5, .int 0)] [1, 2, 3, 4, 5, 0] rfl ?_
  refine z_iload C dL_kept_102 5 rfl ?_
  refine z_iload_n C dL_kept_104 rfl 1 rfl ?_
  refine z_icmp_ge C (tgt := 132) dL_kept_105 (by decide) (fun _ => ?_) (fun h => absurd h (by decide))
  refine z_iconst C (v := 0) dL_kept_132 (by decide) ?_
  refine z_istore C dL_kept_133 (by decide) [(0, .ref (ad 0)), (1, .int 0), (2, .int 0), (3, .int 0), (4, .int 1), (5, .int 0)] [1, 2, 3, 4, 5, 0] rfl ?_
  have L135_k_13 : ∀ (n : Nat) (a : Nat), 5 - a < n → (a ≤ 5) → zW ((((((0 + 1) + 1) + 1) + 1) + 1) + 1) p l e ({ frames := 10, cells := 6, slots := 36, locals := 175 } : Room) s m args below meth c (MQ below (zQn (T := (Nat → Int32) × (Nat → Int32) × (Nat → Int32)) (s.heap.size + 6) D vwCl (zty cI cZ cL) A (fun r9 u => r9 = 1) (fun u => (wX ad cI cZ (fun _ => 0) (fun _ => 0) u.2.1 u.2.2 (fun _ => 0) (bnI 25) (fun _ => 0) (fun _ => 0) (fun _ => 0) (fun _ => 0) (fun _ => 0) (fun _ => 0) (fun _ => 0) (fun _ => 0) (fun _ => 0) (fun _ => 0) (fun _ => 0) (fun _ => 0) u.1 100 100 200 0 (nI 0) (nI 0) (nI 0)))) args s 6 36 A) D vwCl A 8 6 36 (wX ad cI cZ (fun _ => 0) (fun _ => 0) tacc tnet (fun _ => 0) (bnI 25) (fun _ => 0) (fun _ => 0) (fun _ => 0) (fun _ => 0) (fun _ => 0) (fun _ => 0) (fun _ => 0) (fun _ => 0) (fun _ => 0) (fun _ => 0) (fun _ => 0) (fun _ => 0) cnd 100 100 200 0 (nI 0) (nI 0) (nI 0)) [(0, .ref (ad 0)), (1, .int 0), (2, .int 0), (3, .int 0), (4, .int 1), (5, .int (nI a))] 135 [] := by
    intro n
    induction n with
    | zero => intros; omega
    | succ n ih_14 =>
      intro a hm_15 ha
      refine z_iload C dL_kept_135 5 rfl ?_
      refine z_iconst C (v := 5) dL_kept_137 (by decide) ?_
      refine z_icmp_ge C (tgt := 294) dL_kept_138 (by decide) (fun c138_16 => ?_) (fun c138_16 => ?_)
      · skip
        have n_17 : 5 ≤ a := (nI_leI (a := 5) (b := a) (by omega) (by omega)).mp c138_16
        refine z_iload C dL_kept_294 4 rfl ?_
        refine z_if_eq C (tgt := 356) dL_kept_296 (by decide) (fun h => absurd h (by decide)) (fun _ => ?_)
        refine z_iload_n C dL_kept_299 rfl 3 rfl ?_
        refine z_iload_n C dL_kept_300 rfl 2 rfl ?_
        refine z_icmp_ne C (tgt := 356) dL_kept_301 (by decide) (fun h => absurd h (by decide)) (fun _ => ?_)
        refine z_iload_n C dL_kept_304 rfl 2 rfl ?_
        refine z_bipush C (v := 10) dL_kept_305 (by decide) ?_
        refine z_icmp_le C (tgt := 328) dL_kept_307 (by decide) (fun _ => ?_) (fun h => absurd h (by decide))
        refine z_aload_n C dL_kept_328 rfl 0 rfl ?_
        refine z_bipush C (v := 13) dL_kept_329 (by decide) ?_
        refine z_iconst C (v := 0) dL_kept_331 (by decide) ?_
        refine z_iconst C (v := 0) dL_kept_332 (by decide) ?_
        refine z_iconst C (v := 0) dL_kept_333 (by decide) ?_
        refine z_iconst C (v := 0) dL_kept_334 (by decide) ?_
        refine z_callSWi C (As := [.ref (ad 0), .int 13, .int 0, .int 0, .int 0, .int 0]) (rest := []) (ws' := fun u_18 => (wX ad cI cZ (fun _ => 0) (fun _ => 0) u_18.2.1 u_18.2.2 (fun _ => 0) (bnI 25) (fun _ => 0) (fun _ => 0) (fun _ => 0) (fun _ => 0) (fun _ => 0) (fun _ => 0) (fun _ => 0) (fun _ => 0) (fun _ => 0) (fun _ => 0) (fun _ => 0) (fun _ => 0) u_18.1 100 100 200 0 (nI 0) (nI 0) (nI 0))) (call_canAny l sa D cI cZ cL ad tacc tnet cnd  ) (vx_cwSW 6 C.2.2.2.2.1 gL_kept_L_call rfl rfl rfl (by decide +kernel) ⟨Nat.le_of_ble_eq_true rfl, Nat.le_of_ble_eq_true rfl⟩) (fun _ => zSub.full) zIn.full rfl (Nat.le_of_ble_eq_true rfl) ⟨Nat.le_of_ble_eq_true rfl, Nat.le_of_ble_eq_true rfl⟩ dL_kept_335 (fun r_19 u_18 h_20 => ?_)
        obtain rfl : r_19 = 0 := h_20
        refine z_if_lt C (tgt := 356) dL_kept_338 (by decide) (fun h => absurd h (by decide)) (fun _ => ?_)
        refine z_iload_n C dL_kept_341 rfl 2 rfl ?_
        refine z_if_gt C (tgt := 352) dL_kept_342 (by decide) (fun h => absurd h (by decide)) (fun _ => ?_)
        refine z_aload_n C dL_kept_345 rfl 0 rfl ?_
        refine z_callVi C (As := []) (rest := []) (ws' := fun u_21 => (wX ad cI cZ (fun _ => 0) (fun _ => 0) u_21.2.1 u_21.2.2 (fun _ => 0) (bnI 25) (fun _ => 0) (fun _ => 0) (fun _ => 0) (fun _ => 0) (fun _ => 0) (fun _ => 0) (fun _ => 0) (fun _ => 0) (fun _ => 0) (fun _ => 0) (fun _ => 0) (fun _ => 0) u_21.1 100 100 200 0 (nI 0) (nI 0) (nI 0))) (f_canAny l sa D cI cZ cL ad u_18.2.1 u_18.2.2 u_18.1  ) (cwV 0 C.2.2.2.2.1 gL_kept_X4_canAny rfl rfl rfl (by decide +kernel) ⟨Nat.le_of_ble_eq_true rfl, Nat.le_of_ble_eq_true rfl⟩) 0 rfl rfl rfl (fun _ => zSub.full) zIn.full rfl (Nat.le_of_ble_eq_true rfl) ⟨Nat.le_of_ble_eq_true rfl, Nat.le_of_ble_eq_true rfl⟩ dL_kept_346 (fun r_22 u_21 h_23 => ?_)
        obtain rfl : r_22 = 0 := h_23
        refine z_if_ne C (tgt := 356) dL_kept_349 (by decide) (fun h => absurd h (by decide)) (fun _ => ?_)
        refine z_iconst C (v := 1) dL_kept_352 (by decide) ?_
        refine z_goto C (tgt := 357) dL_kept_353 (by decide) ?_
        exact z_zretn C (u_21.1, u_21.2.1, u_21.2.2) (by omega) rfl rfl (by decide) (by decide) (by decide) dL_kept_357
      · skip
        have n_24 : ¬ 5 ≤ a := fun q => c138_16 ((nI_leI (a := 5) (b := a) (by omega) (by omega)).mpr q)
        refine z_iload C dL_kept_141 4 rfl ?_
        refine z_if_eq C (tgt := 294) dL_kept_143 (by decide) (fun h => absurd h (by decide)) (fun _ => ?_)
        refine z_iconst C (v := 0) dL_kept_146 (by decide) ?_
        refine z_istore C dL_kept_147 (by decide) [(0, .ref (ad 0)), (1, .int 0), (2, .int 0), (3, .int 0), (4, .int 1), (5, .int (nI a)), (6, .int 0)] [1, 2, 3, 4, 5, 6, 0] rfl ?_
        refine z_aload_n C dL_kept_149 rfl 0 rfl ?_
        refine z_iload C dL_kept_150 5 rfl ?_
        refine z_iload C dL_kept_152 6 rfl ?_
        refine z_callVi C (T := Unit) (As := [.int (nI a), .int 0]) (rest := []) (ws' := fun _ => (wX ad cI cZ (fun _ => 0) (fun _ => 0) tacc tnet (fun _ => 0) (bnI 25) (fun _ => 0) (fun _ => 0) (fun _ => 0) (fun _ => 0) (fun _ => 0) (fun _ => 0) (fun _ => 0) (fun _ => 0) (fun _ => 0) (fun _ => 0) (fun _ => 0) (fun _ => 0) cnd 100 100 200 0 (nI 0) (nI 0) (nI 0))) (f_queued l sa D cI cZ cL ad tacc tnet cnd a 0 (by first | assumption | omega | decide) (by first | assumption | omega | decide)) (cwV 2 C.2.2.2.2.1 gL_kept_X4_queued rfl rfl rfl (by decide +kernel) ⟨Nat.le_of_ble_eq_true rfl, Nat.le_of_ble_eq_true rfl⟩) 0 rfl rfl rfl (fun _ => zSub.full) zIn.full rfl (Nat.le_of_ble_eq_true rfl) ⟨Nat.le_of_ble_eq_true rfl, Nat.le_of_ble_eq_true rfl⟩ dL_kept_154 (fun r_25 _ h_26 => ?_)
        obtain rfl : r_25 = (-1) := h_26
        refine z_iconst C (v := (-1)) dL_kept_157 (by decide) ?_
        refine z_icmp_eq C (tgt := 204) dL_kept_158 (by decide) (fun _ => ?_) (fun h => absurd h (by decide))
        refine z_iload_n C dL_kept_204 rfl 3 rfl ?_
        refine z_iload C dL_kept_205 6 rfl ?_
        refine z_iadd C (v := 0) dL_kept_207 (z_add0 _) ?_
        refine z_istore_n C dL_kept_208 rfl (by decide) [(0, .ref (ad 0)), (1, .int 0), (2, .int 0), (3, .int 0), (4, .int 1), (5, .int (nI a)), (6, .int 0)] [1, 2, 3, 0, 4, 5, 6] rfl ?_
        refine z_iload C dL_kept_209 4 rfl ?_
        refine z_if_eq C (tgt := 238) dL_kept_211 (by decide) (fun h => absurd h (by decide)) (fun _ => ?_)
        refine z_aload_n C dL_kept_214 rfl 0 rfl ?_
        refine z_iload C dL_kept_215 5 rfl ?_
        refine z_callVi C (T := Unit) (As := [.int (nI a)]) (rest := []) (ws' := fun _ => (wX ad cI cZ (fun _ => 0) (fun _ => 0) tacc tnet (fun _ => 0) (bnI 25) (fun _ => 0) (fun _ => 0) (fun _ => 0) (fun _ => 0) (fun _ => 0) (fun _ => 0) (fun _ => 0) (fun _ => 0) (fun _ => 0) (fun _ => 0) (fun _ => 0) (fun _ => 0) cnd 100 100 200 0 (nI 0) (nI 0) (nI 0))) (f_papers l sa D cI cZ cL ad tacc tnet cnd a (by first | assumption | omega | decide)) (cwV 1 C.2.2.2.2.1 gL_kept_X4_papers rfl rfl rfl (by decide +kernel) ⟨Nat.le_of_ble_eq_true rfl, Nat.le_of_ble_eq_true rfl⟩) 0 rfl rfl rfl (fun _ => zSub.full) zIn.full rfl (Nat.le_of_ble_eq_true rfl) ⟨Nat.le_of_ble_eq_true rfl, Nat.le_of_ble_eq_true rfl⟩ dL_kept_217 (fun r_27 _ h_28 => ?_)
        obtain rfl : r_27 = 0 := h_28
        refine z_if_lt C (tgt := 238) dL_kept_220 (by decide) (fun h => absurd h (by decide)) (fun _ => ?_)
        refine z_aload_n C dL_kept_223 rfl 0 rfl ?_
        refine z_iload C dL_kept_224 5 rfl ?_
        refine z_iload C dL_kept_226 5 rfl ?_
        refine z_callVi C (T := Unit) (As := [.int (nI a), .int (nI a)]) (rest := []) (ws' := fun _ => (wX ad cI cZ (fun _ => 0) (fun _ => 0) tacc tnet (fun _ => 0) (bnI 25) (fun _ => 0) (fun _ => 0) (fun _ => 0) (fun _ => 0) (fun _ => 0) (fun _ => 0) (fun _ => 0) (fun _ => 0) (fun _ => 0) (fun _ => 0) (fun _ => 0) (fun _ => 0) cnd 100 100 200 0 (nI 0) (nI 0) (nI 0))) (f_paid l sa D cI cZ cL ad tacc tnet cnd a a (by first | assumption | omega | decide) (by first | assumption | omega | decide)) (cwV 2 C.2.2.2.2.1 gL_kept_X4_paid rfl rfl rfl (by decide +kernel) ⟨Nat.le_of_ble_eq_true rfl, Nat.le_of_ble_eq_true rfl⟩) 0 rfl rfl rfl (fun _ => zSub.full) zIn.full rfl (Nat.le_of_ble_eq_true rfl) ⟨Nat.le_of_ble_eq_true rfl, Nat.le_of_ble_eq_true rfl⟩ dL_kept_228 (fun r_29 _ h_30 => ?_)
        obtain rfl : r_29 = 0 := h_30
        refine z_if_ne C (tgt := 238) dL_kept_231 (by decide) (fun h => absurd h (by decide)) (fun _ => ?_)
        refine z_iconst C (v := 1) dL_kept_234 (by decide) ?_
        refine z_goto C (tgt := 239) dL_kept_235 (by decide) ?_
        refine z_istore C dL_kept_239 (by decide) [(0, .ref (ad 0)), (1, .int 0), (2, .int 0), (3, .int 0), (4, .int 1), (5, .int (nI a)), (6, .int 0)] [1, 2, 3, 4, 0, 5, 6] rfl ?_
        refine z_iconst C (v := 0) dL_kept_241 (by decide) ?_
        refine z_istore C dL_kept_242 (by decide) [(0, .ref (ad 0)), (1, .int 0), (2, .int 0), (3, .int 0), (4, .int 1), (5, .int (nI a)), (6, .int 0), (7, .int 0)] [1, 2, 3, 4, 5, 6, 7, 0] rfl ?_
        have L244_k_31 : ∀ (n : Nat) (b : Nat), 5 - b < n → (b ≤ 5) → zW ((((((0 + 1) + 1) + 1) + 1) + 1) + 1) p l e ({ frames := 10, cells := 6, slots := 36, locals := 175 } : Room) s m args below meth c (MQ below (zQn (T := (Nat → Int32) × (Nat → Int32) × (Nat → Int32)) (s.heap.size + 6) D vwCl (zty cI cZ cL) A (fun r9 u => r9 = 1) (fun u => (wX ad cI cZ (fun _ => 0) (fun _ => 0) u.2.1 u.2.2 (fun _ => 0) (bnI 25) (fun _ => 0) (fun _ => 0) (fun _ => 0) (fun _ => 0) (fun _ => 0) (fun _ => 0) (fun _ => 0) (fun _ => 0) (fun _ => 0) (fun _ => 0) (fun _ => 0) (fun _ => 0) u.1 100 100 200 0 (nI 0) (nI 0) (nI 0)))) args s 6 36 A) D vwCl A 8 6 36 (wX ad cI cZ (fun _ => 0) (fun _ => 0) tacc tnet (fun _ => 0) (bnI 25) (fun _ => 0) (fun _ => 0) (fun _ => 0) (fun _ => 0) (fun _ => 0) (fun _ => 0) (fun _ => 0) (fun _ => 0) (fun _ => 0) (fun _ => 0) (fun _ => 0) (fun _ => 0) cnd 100 100 200 0 (nI 0) (nI 0) (nI 0)) [(0, .ref (ad 0)), (1, .int 0), (2, .int 0), (3, .int 0), (4, .int 1), (5, .int (nI a)), (6, .int 0), (7, .int (nI b))] 244 [] := by
          intro n
          induction n with
          | zero => intros; omega
          | succ n ih_32 =>
            intro b hm_33 hb
            refine z_iload C dL_kept_244 7 rfl ?_
            refine z_iconst C (v := 5) dL_kept_246 (by decide) ?_
            refine z_icmp_ge C (tgt := 288) dL_kept_247 (by decide) (fun c247_34 => ?_) (fun c247_34 => ?_)
            · skip
              have n_35 : 5 ≤ b := (nI_leI (a := 5) (b := b) (by omega) (by omega)).mp c247_34
              refine z_iinc C (v := (nI (a + 1))) dL_kept_288 5 rfl (nI_add a 1) (by decide) [(0, .ref (ad 0)), (1, .int 0), (2, .int 0), (3, .int 0), (4, .int 1), (5, .int (nI (a + 1))), (6, .int 0), (7, .int (nI b))] [1, 2, 3, 4, 5, 0, 6, 7] rfl ?_
              refine z_goto C (tgt := 135) dL_kept_291 (by decide) ?_
              refine z_lv [(0, .ref (ad 0)), (1, .int 0), (2, .int 0), (3, .int 0), (4, .int 1), (5, .int (nI (a + 1)))] [0, 1, 2, 3, 4, 5] rfl ?_
              exact ih_14 (a + 1) (by omega) (by first | assumption | omega)
            · skip
              have n_36 : ¬ 5 ≤ b := fun q => c247_34 ((nI_leI (a := 5) (b := b) (by omega) (by omega)).mpr q)
              refine z_iload C dL_kept_250 4 rfl ?_
              refine z_if_eq C (tgt := 288) dL_kept_252 (by decide) (fun h => absurd h (by decide)) (fun _ => ?_)
              refine z_aload_n C dL_kept_255 rfl 0 rfl ?_
              refine z_iload C dL_kept_256 5 rfl ?_
              refine z_iload C dL_kept_258 7 rfl ?_
              refine z_callVi C (T := Unit) (As := [.int (nI a), .int (nI b)]) (rest := []) (ws' := fun _ => (wX ad cI cZ (fun _ => 0) (fun _ => 0) tacc tnet (fun _ => 0) (bnI 25) (fun _ => 0) (fun _ => 0) (fun _ => 0) (fun _ => 0) (fun _ => 0) (fun _ => 0) (fun _ => 0) (fun _ => 0) (fun _ => 0) (fun _ => 0) (fun _ => 0) (fun _ => 0) cnd 100 100 200 0 (nI 0) (nI 0) (nI 0))) (f_paid l sa D cI cZ cL ad tacc tnet cnd a b (by first | assumption | omega | decide) (by first | assumption | omega | decide)) (cwV 2 C.2.2.2.2.1 gL_kept_X4_paid rfl rfl rfl (by decide +kernel) ⟨Nat.le_of_ble_eq_true rfl, Nat.le_of_ble_eq_true rfl⟩) 0 rfl rfl rfl (fun _ => zSub.full) zIn.full rfl (Nat.le_of_ble_eq_true rfl) ⟨Nat.le_of_ble_eq_true rfl, Nat.le_of_ble_eq_true rfl⟩ dL_kept_260 (fun r_37 _ h_38 => ?_)
              obtain rfl : r_37 = 0 := h_38
              refine z_aload_n C dL_kept_263 rfl 0 rfl ?_
              refine z_iload C dL_kept_264 7 rfl ?_
              refine z_iload C dL_kept_266 5 rfl ?_
              refine z_callVi C (T := Unit) (As := [.int (nI b), .int (nI a)]) (rest := [.int 0]) (ws' := fun _ => (wX ad cI cZ (fun _ => 0) (fun _ => 0) tacc tnet (fun _ => 0) (bnI 25) (fun _ => 0) (fun _ => 0) (fun _ => 0) (fun _ => 0) (fun _ => 0) (fun _ => 0) (fun _ => 0) (fun _ => 0) (fun _ => 0) (fun _ => 0) (fun _ => 0) (fun _ => 0) cnd 100 100 200 0 (nI 0) (nI 0) (nI 0))) (f_paid l sa D cI cZ cL ad tacc tnet cnd b a (by first | assumption | omega | decide) (by first | assumption | omega | decide)) (cwV 2 C.2.2.2.2.1 gL_kept_X4_paid rfl rfl rfl (by decide +kernel) ⟨Nat.le_of_ble_eq_true rfl, Nat.le_of_ble_eq_true rfl⟩) 0 rfl rfl rfl (fun _ => zSub.full) zIn.full rfl (Nat.le_of_ble_eq_true rfl) ⟨Nat.le_of_ble_eq_true rfl, Nat.le_of_ble_eq_true rfl⟩ dL_kept_268 (fun r_39 _ h_40 => ?_)
              obtain rfl : r_39 = 0 := h_40
              refine z_ineg C (v := 0) dL_kept_271 (by decide) ?_
              refine z_icmp_ne C (tgt := 279) dL_kept_272 (by decide) (fun h => absurd h (by decide)) (fun _ => ?_)
              refine z_iconst C (v := 1) dL_kept_275 (by decide) ?_
              refine z_goto C (tgt := 280) dL_kept_276 (by decide) ?_
              refine z_istore C dL_kept_280 (by decide) [(0, .ref (ad 0)), (1, .int 0), (2, .int 0), (3, .int 0), (4, .int 1), (5, .int (nI a)), (6, .int 0), (7, .int (nI b))] [1, 2, 3, 4, 0, 5, 6, 7] rfl ?_
              refine z_iinc C (v := (nI (b + 1))) dL_kept_282 7 rfl (nI_add b 1) (by decide) [(0, .ref (ad 0)), (1, .int 0), (2, .int 0), (3, .int 0), (4, .int 1), (5, .int (nI a)), (6, .int 0), (7, .int (nI (b + 1)))] [1, 2, 3, 4, 5, 6, 7, 0] rfl ?_
              refine z_goto C (tgt := 244) dL_kept_285 (by decide) ?_
              exact ih_32 (b + 1) (by omega) (by first | assumption | omega)
        refine z_lveq [(0, .ref (ad 0)), (1, .int 0), (2, .int 0), (3, .int 0), (4, .int 1), (5, .int (nI a)), (6, .int 0), (7, .int (nI 0))] (by rfl) ?_
        exact L244_k_31 (5 - 0 + 1) 0 (Nat.lt_succ_self _) (by first | assumption | omega)
  refine z_lveq [(0, .ref (ad 0)), (1, .int 0), (2, .int 0), (3, .int 0), (4, .int 1), (5, .int (nI 0))] (by rfl) ?_
  exact L135_k_13 (5 - 0 + 1) 0 (Nat.lt_succ_self _) (by first | assumption | omega)
set_option maxHeartbeats 4000000 in
set_option maxRecDepth 100000 in
theorem c_L_pays (l : Launch) (hfl : l.stackTraces = false) (sa : Nat → Nat) (D : va_G) (cI cZ cL : ClassId) (ad : Nat → Nat) (tacc tnet cnd : Nat → Int32)   : zNi (T := Unit) 1 sa D vwCl (zty cI cZ cL) l yL_pays wsL_pays ({ frames := 10, cells := 1, slots := 6, locals := 175 } : Room) [.ref (ad 0), .int 0, .int 0, .int 40, .int 0] (wX ad cI cZ (fun _ => 0) (fun _ => 0) tacc tnet (fun _ => 0) (bnI 25) (fun _ => 0) (fun _ => 0) (fun _ => 0) (fun _ => 0) (fun _ => 0) (fun _ => 0) (fun _ => 0) (fun _ => 0) (fun _ => 0) (fun _ => 0) (fun _ => 0) (fun _ => 0) cnd 100 100 200 0 (nI 0) (nI 0) (nI 0)) (fun r9 _ => r9 = 0) (fun _ => (wX ad cI cZ (fun _ => 0) (fun _ => 0) tacc tnet (fun _ => 0) (bnI 25) (fun _ => 0) (fun _ => 0) (fun _ => 0) (fun _ => 0) (fun _ => 0) (fun _ => 0) (fun _ => 0) (fun _ => 0) (fun _ => 0) (fun _ => 0) (fun _ => 0) (fun _ => 0) cnd 100 100 200 0 (nI 0) (nI 0) (nI 0))) 1 6 := by
  refine zNi.of (ret := (some .int)) (cc := cL_pays) (nL := 13) (own := RL) (by decide +kernel) rfl [(0, .ref (ad 0)), (1, .int 0), (2, .int 0), (3, .int 40), (4, .int 0)] rfl (Nat.le_of_ble_eq_true rfl) rfl ?_
  intro A p e s m args below meth c C hmn
  refine z_aload_n C dL_pays_0 rfl 0 rfl ?_
  refine z_iload_n C dL_pays_1 rfl 1 rfl ?_
  refine z_callSl C (T := Unit) (As := [.ref (ad 0), .int 0]) (rest := []) (ws' := fun _ => (wX ad cI cZ (fun _ => 0) (fun _ => 0) tacc tnet (fun _ => 0) (bnI 25) (fun _ => 0) (fun _ => 0) (fun _ => 0) (fun _ => 0) (fun _ => 0) (fun _ => 0) (fun _ => 0) (fun _ => 0) (fun _ => 0) (fun _ => 0) (fun _ => 0) (fun _ => 0) cnd 100 100 200 0 (nI 0) (nI 0) (nI 0))) (c_L_all l sa D cI cZ cL ad tacc tnet cnd  ) (va_cwS 2 C.2.2.2.2.1 gL_pays_L_all rfl rfl rfl (by decide +kernel) ⟨Nat.le_of_ble_eq_true rfl, Nat.le_of_ble_eq_true rfl⟩) (fun _ => zSub.full) zIn.full rfl (Nat.le_of_ble_eq_true rfl) ⟨Nat.le_of_ble_eq_true rfl, Nat.le_of_ble_eq_true rfl⟩ dL_pays_2 (fun r_1 _ h_2 => ?_)
  obtain rfl : r_1 = 5421326277993579420 := h_2
  refine z_lstore C dL_pays_5 (by decide) [(0, .ref (ad 0)), (1, .int 0), (2, .int 0), (3, .int 40), (4, .int 0), (5, .long 5421326277993579420)] [1, 2, 3, 4, 5, 0] rfl ?_
  refine z_iload_n C dL_pays_7 rfl 2 rfl ?_
  refine z_bipush C (v := 8) dL_pays_8 (by decide) ?_
  refine z_callSi C (T := Unit) (As := [.int 0, .int 8]) (rest := []) (ws' := fun _ => (wX ad cI cZ (fun _ => 0) (fun _ => 0) tacc tnet (fun _ => 0) (bnI 25) (fun _ => 0) (fun _ => 0) (fun _ => 0) (fun _ => 0) (fun _ => 0) (fun _ => 0) (fun _ => 0) (fun _ => 0) (fun _ => 0) (fun _ => 0) (fun _ => 0) (fun _ => 0) cnd 100 100 200 0 (nI 0) (nI 0) (nI 0))) (c_L_some l sa D cI cZ cL  0 8 (by first | assumption | omega | decide)) (va_cwS 2 C.2.2.2.2.1 gL_pays_L_some rfl rfl rfl (by decide +kernel) ⟨Nat.le_of_ble_eq_true rfl, Nat.le_of_ble_eq_true rfl⟩) (fun _ => zSub.none) zIn.none rfl (Nat.le_of_ble_eq_true rfl) ⟨Nat.le_of_ble_eq_true rfl, Nat.le_of_ble_eq_true rfl⟩ dL_pays_10 (fun r_3 _ h_4 => ?_)
  obtain rfl : r_3 = 0 := h_4.trans (by decide +kernel)
  refine z_if_ne C (tgt := 188) dL_pays_13 (by decide) (fun h => absurd h (by decide)) (fun _ => ?_)
  refine z_iload C dL_pays_16 4 rfl ?_
  refine z_if_eq C (tgt := 33) dL_pays_18 (by decide) (fun _ => ?_) (fun h => absurd h (by decide))
  refine z_iload_n C dL_pays_33 rfl 3 rfl ?_
  refine z_iload_n C dL_pays_34 rfl 1 rfl ?_
  refine z_if_ne C (tgt := 42) dL_pays_35 (by decide) (fun h => absurd h (by decide)) (fun _ => ?_)
  refine z_iconst C (v := 1) dL_pays_38 (by decide) ?_
  refine z_goto C (tgt := 43) dL_pays_39 (by decide) ?_
  refine z_callSi C (T := Unit) (As := [.int 40, .int 1]) (rest := []) (ws' := fun _ => (wX ad cI cZ (fun _ => 0) (fun _ => 0) tacc tnet (fun _ => 0) (bnI 25) (fun _ => 0) (fun _ => 0) (fun _ => 0) (fun _ => 0) (fun _ => 0) (fun _ => 0) (fun _ => 0) (fun _ => 0) (fun _ => 0) (fun _ => 0) (fun _ => 0) (fun _ => 0) cnd 100 100 200 0 (nI 0) (nI 0) (nI 0))) (c_L_some l sa D cI cZ cL  40 1 (by first | assumption | omega | decide)) (va_cwS 2 C.2.2.2.2.1 gL_pays_L_some rfl rfl rfl (by decide +kernel) ⟨Nat.le_of_ble_eq_true rfl, Nat.le_of_ble_eq_true rfl⟩) (fun _ => zSub.none) zIn.none rfl (Nat.le_of_ble_eq_true rfl) ⟨Nat.le_of_ble_eq_true rfl, Nat.le_of_ble_eq_true rfl⟩ dL_pays_43 (fun r_5 _ h_6 => ?_)
  obtain rfl : r_5 = 0 := h_6.trans (by decide +kernel)
  refine z_istore C dL_pays_46 (by decide) [(0, .ref (ad 0)), (1, .int 0), (2, .int 0), (3, .int 40), (4, .int 0), (5, .long 5421326277993579420), (7, .int 0)] [1, 2, 3, 4, 5, 6, 0] rfl ?_
  refine z_iload C dL_pays_48 6 rfl ?_
  refine z_if_lt C (tgt := 59) dL_pays_50 (by decide) (fun h => absurd h (by decide)) (fun _ => ?_)
  refine z_iload C dL_pays_53 6 rfl ?_
  refine z_iload_n C dL_pays_55 rfl 1 rfl ?_
  refine z_icmp_lt C (tgt := 63) dL_pays_56 (by decide) (fun h => absurd h (by decide)) (fun _ => ?_)
  refine z_iconst C (v := 1) dL_pays_59 (by decide) ?_
  refine z_goto C (tgt := 64) dL_pays_60 (by decide) ?_
  refine z_istore C dL_pays_64 (by decide) [(0, .ref (ad 0)), (1, .int 0), (2, .int 0), (3, .int 40), (4, .int 0), (5, .long 5421326277993579420), (7, .int 0), (8, .int 1)] [1, 2, 3, 4, 5, 6, 7, 0] rfl ?_
  refine z_iload C dL_pays_66 7 rfl ?_
  refine z_if_eq C (tgt := 75) dL_pays_68 (by decide) (fun h => absurd h (by decide)) (fun _ => ?_)
  refine z_iconst C (v := 3) dL_pays_71 (by decide) ?_
  refine z_goto C (tgt := 81) dL_pays_72 (by decide) ?_
  refine z_istore C dL_pays_81 (by decide) [(0, .ref (ad 0)), (1, .int 0), (2, .int 0), (3, .int 40), (4, .int 0), (5, .long 5421326277993579420), (7, .int 0), (8, .int 1), (9, .int 3)] [1, 2, 3, 4, 5, 6, 7, 8, 0] rfl ?_
  refine z_aload_n C dL_pays_83 rfl 0 rfl ?_
  refine z_bipush C (v := 9) dL_pays_84 (by decide) ?_
  refine z_iload C dL_pays_86 6 rfl ?_
  refine z_iconst C (v := 0) dL_pays_88 (by decide) ?_
  refine z_iconst C (v := 0) dL_pays_89 (by decide) ?_
  refine z_iconst C (v := 0) dL_pays_90 (by decide) ?_
  refine z_callSWn C (T := Unit) (As := [.ref (ad 0), .int 9, .int 0, .int 0, .int 0, .int 0]) (rest := []) (ws' := fun _ => (wX ad cI cZ (fun _ => 0) (fun _ => 0) tacc tnet (fun _ => 0) (bnI 25) (fun _ => 0) (fun _ => 0) (fun _ => 0) (fun _ => 0) (fun _ => 0) (fun _ => 0) (fun _ => 0) (fun _ => 0) (fun _ => 0) (fun _ => 0) (fun _ => 0) (fun _ => 0) cnd 100 100 200 0 (nI 0) (nI 0) (nI 0))) (call_drop l hfl sa D cI cZ cL ad tacc tnet cnd  ) (vx_cwSW 6 C.2.2.2.2.1 gL_pays_L_call rfl rfl rfl (by decide +kernel) ⟨Nat.le_of_ble_eq_true rfl, Nat.le_of_ble_eq_true rfl⟩) (fun _ => zSub.full) zIn.full rfl (Nat.le_of_ble_eq_true rfl) ⟨Nat.le_of_ble_eq_true rfl, Nat.le_of_ble_eq_true rfl⟩ dL_pays_91 (fun r_7 _ h_8 => ?_)
  obtain rfl : r_7 = (-2000000021) := h_8
  refine z_istore C dL_pays_94 (by decide) [(0, .ref (ad 0)), (1, .int 0), (2, .int 0), (3, .int 40), (4, .int 0), (5, .long 5421326277993579420), (7, .int 0), (8, .int 1), (9, .int 3), (10, .int (-2000000021))] [1, 2, 3, 4, 5, 6, 7, 8, 9, 0] rfl ?_
  refine z_iload C dL_pays_96 8 rfl ?_
  refine z_iconst C (v := 3) dL_pays_98 (by decide) ?_
  refine z_icmp_ne C (tgt := 138) dL_pays_99 (by decide) (fun h => absurd h (by decide)) (fun _ => ?_)
  refine z_iload C dL_pays_102 9 rfl ?_
  refine z_iload C dL_pays_104 7 rfl ?_
  refine z_if_eq C (tgt := 114) dL_pays_106 (by decide) (fun h => absurd h (by decide)) (fun _ => ?_)
  refine z_ldc C m_L_pays_k16 dL_pays_109 ?_
  refine z_goto C (tgt := 116) dL_pays_111 (by decide) ?_
  refine z_icmp_ne C (tgt := 134) dL_pays_116 (by decide) (fun h => absurd h (by decide)) (fun _ => ?_)
  refine z_aload_n C dL_pays_119 rfl 0 rfl ?_
  refine z_iload_n C dL_pays_120 rfl 1 rfl ?_
  refine z_callSl C (T := Unit) (As := [.ref (ad 0), .int 0]) (rest := []) (ws' := fun _ => (wX ad cI cZ (fun _ => 0) (fun _ => 0) tacc tnet (fun _ => 0) (bnI 25) (fun _ => 0) (fun _ => 0) (fun _ => 0) (fun _ => 0) (fun _ => 0) (fun _ => 0) (fun _ => 0) (fun _ => 0) (fun _ => 0) (fun _ => 0) (fun _ => 0) (fun _ => 0) cnd 100 100 200 0 (nI 0) (nI 0) (nI 0))) (c_L_all l sa D cI cZ cL ad tacc tnet cnd  ) (va_cwS 2 C.2.2.2.2.1 gL_pays_L_all rfl rfl rfl (by decide +kernel) ⟨Nat.le_of_ble_eq_true rfl, Nat.le_of_ble_eq_true rfl⟩) (fun _ => zSub.full) zIn.full rfl (Nat.le_of_ble_eq_true rfl) ⟨Nat.le_of_ble_eq_true rfl, Nat.le_of_ble_eq_true rfl⟩ dL_pays_121 (fun r_9 _ h_10 => ?_)
  obtain rfl : r_9 = 5421326277993579420 := h_10
  refine z_lload C dL_pays_124 5 rfl ?_
  refine z_lcmp_ne C dL_pays_126 (tgt := 134) dL_pays_127 (by decide) (fun h => absurd h (by decide)) (fun _ => ?_)
  refine z_iconst C (v := 1) dL_pays_130 (by decide) ?_
  refine z_goto C (tgt := 174) dL_pays_131 (by decide) ?_
  refine z_istore C dL_pays_174 (by decide) [(0, .ref (ad 0)), (1, .int 0), (2, .int 0), (3, .int 40), (4, .int 0), (5, .long 5421326277993579420), (7, .int 0), (8, .int 1), (9, .int 3), (10, .int (-2000000021)), (11, .int 1)] [1, 2, 3, 4, 5, 6, 7, 8, 9, 10, 0] rfl ?_
  refine z_iload C dL_pays_176 10 rfl ?_
  refine z_if_eq C (tgt := 185) dL_pays_178 (by decide) (fun h => absurd h (by decide)) (fun _ => ?_)
  refine z_iload_n C dL_pays_181 rfl 1 rfl ?_
  refine z_goto C (tgt := 187) dL_pays_182 (by decide) ?_
  exact z_iretn C () (by omega) rfl rfl (by decide) (by decide) dL_pays_187
set_option maxHeartbeats 4000000 in
set_option maxRecDepth 100000 in
theorem c_L_sets (l : Launch) (hfl : l.stackTraces = false) (sa : Nat → Nat) (D : va_G) (cI cZ cL : ClassId) (ad : Nat → Nat) (tacc tnet cnd : Nat → Int32)   : zNi (T := Unit) 1 sa D vwCl (zty cI cZ cL) l yL_sets wsL_sets ({ frames := 10, cells := 1, slots := 6, locals := 175 } : Room) [.ref (ad 0), .int 0, .int 2, .int 3, .int 1] (wX ad cI cZ (fun _ => 0) (fun _ => 0) tacc tnet (fun _ => 0) (bnI 25) (fun _ => 0) (fun _ => 0) (fun _ => 0) (fun _ => 0) (fun _ => 0) (fun _ => 0) (fun _ => 0) (fun _ => 0) (fun _ => 0) (fun _ => 0) (fun _ => 0) (fun _ => 0) cnd 100 100 200 0 (nI 0) (nI 0) (nI 0)) (fun r9 _ => r9 = 1) (fun _ => (wX ad cI cZ (fun _ => 0) (fun _ => 0) tacc tnet (fun _ => 0) (bnI 25) (fun _ => 0) (fun _ => 0) (fun _ => 0) (fun _ => 0) (fun _ => 0) (fun _ => 0) (fun _ => 0) (fun _ => 0) (fun _ => 0) (fun _ => 0) (fun _ => 0) (fun _ => 0) cnd 100 100 200 0 (nI 0) (nI 0) (nI 0))) 1 6 := by
  refine zNi.of (ret := (some .boolean)) (cc := cL_sets) (nL := 15) (own := RL) (by decide +kernel) rfl [(0, .ref (ad 0)), (1, .int 0), (2, .int 2), (3, .int 3), (4, .int 1)] rfl (Nat.le_of_ble_eq_true rfl) rfl ?_
  intro A p e s m args below meth c C hmn
  refine z_aload_n C dL_sets_0 rfl 0 rfl ?_
  refine z_iload_n C dL_sets_1 rfl 1 rfl ?_
  refine z_callSl C (T := Unit) (As := [.ref (ad 0), .int 0]) (rest := []) (ws' := fun _ => (wX ad cI cZ (fun _ => 0) (fun _ => 0) tacc tnet (fun _ => 0) (bnI 25) (fun _ => 0) (fun _ => 0) (fun _ => 0) (fun _ => 0) (fun _ => 0) (fun _ => 0) (fun _ => 0) (fun _ => 0) (fun _ => 0) (fun _ => 0) (fun _ => 0) (fun _ => 0) cnd 100 100 200 0 (nI 0) (nI 0) (nI 0))) (c_L_all l sa D cI cZ cL ad tacc tnet cnd  ) (va_cwS 2 C.2.2.2.2.1 gL_sets_L_all rfl rfl rfl (by decide +kernel) ⟨Nat.le_of_ble_eq_true rfl, Nat.le_of_ble_eq_true rfl⟩) (fun _ => zSub.full) zIn.full rfl (Nat.le_of_ble_eq_true rfl) ⟨Nat.le_of_ble_eq_true rfl, Nat.le_of_ble_eq_true rfl⟩ dL_sets_2 (fun r_1 _ h_2 => ?_)
  obtain rfl : r_1 = 5421326277993579420 := h_2
  refine z_lstore C dL_sets_5 (by decide) [(0, .ref (ad 0)), (1, .int 0), (2, .int 2), (3, .int 3), (4, .int 1), (5, .long 5421326277993579420)] [1, 2, 3, 4, 5, 0] rfl ?_
  refine z_iload_n C dL_sets_7 rfl 2 rfl ?_
  refine z_bipush C (v := 10) dL_sets_8 (by decide) ?_
  refine z_callSi C (T := Unit) (As := [.int 2, .int 10]) (rest := []) (ws' := fun _ => (wX ad cI cZ (fun _ => 0) (fun _ => 0) tacc tnet (fun _ => 0) (bnI 25) (fun _ => 0) (fun _ => 0) (fun _ => 0) (fun _ => 0) (fun _ => 0) (fun _ => 0) (fun _ => 0) (fun _ => 0) (fun _ => 0) (fun _ => 0) (fun _ => 0) (fun _ => 0) cnd 100 100 200 0 (nI 0) (nI 0) (nI 0))) (c_L_some l sa D cI cZ cL  2 10 (by first | assumption | omega | decide)) (va_cwS 2 C.2.2.2.2.1 gL_sets_L_some rfl rfl rfl (by decide +kernel) ⟨Nat.le_of_ble_eq_true rfl, Nat.le_of_ble_eq_true rfl⟩) (fun _ => zSub.none) zIn.none rfl (Nat.le_of_ble_eq_true rfl) ⟨Nat.le_of_ble_eq_true rfl, Nat.le_of_ble_eq_true rfl⟩ dL_sets_10 (fun r_3 _ h_4 => ?_)
  obtain rfl : r_3 = 1 := h_4.trans (by decide +kernel)
  refine z_istore C dL_sets_13 (by decide) [(0, .ref (ad 0)), (1, .int 0), (2, .int 2), (3, .int 3), (4, .int 1), (5, .long 5421326277993579420), (7, .int 1)] [1, 2, 3, 4, 5, 6, 0] rfl ?_
  refine z_iload C dL_sets_15 4 rfl ?_
  refine z_if_eq C (tgt := 33) dL_sets_17 (by decide) (fun h => absurd h (by decide)) (fun _ => ?_)
  refine z_iload_n C dL_sets_20 rfl 2 rfl ?_
  refine z_iconst C (v := 4) dL_sets_21 (by decide) ?_
  refine z_ishr C (v := 0) dL_sets_22 (by decide) ?_
  refine z_bipush C (v := 7) dL_sets_23 (by decide) ?_
  refine z_callSi C (T := Unit) (As := [.int 0, .int 7]) (rest := []) (ws' := fun _ => (wX ad cI cZ (fun _ => 0) (fun _ => 0) tacc tnet (fun _ => 0) (bnI 25) (fun _ => 0) (fun _ => 0) (fun _ => 0) (fun _ => 0) (fun _ => 0) (fun _ => 0) (fun _ => 0) (fun _ => 0) (fun _ => 0) (fun _ => 0) (fun _ => 0) (fun _ => 0) cnd 100 100 200 0 (nI 0) (nI 0) (nI 0))) (c_L_some l sa D cI cZ cL  0 7 (by first | assumption | omega | decide)) (va_cwS 2 C.2.2.2.2.1 gL_sets_L_some rfl rfl rfl (by decide +kernel) ⟨Nat.le_of_ble_eq_true rfl, Nat.le_of_ble_eq_true rfl⟩) (fun _ => zSub.none) zIn.none rfl (Nat.le_of_ble_eq_true rfl) ⟨Nat.le_of_ble_eq_true rfl, Nat.le_of_ble_eq_true rfl⟩ dL_sets_25 (fun r_5 _ h_6 => ?_)
  obtain rfl : r_5 = 0 := h_6.trans (by decide +kernel)
  refine z_iconst C (v := 1) dL_sets_28 (by decide) ?_
  refine z_isub C (v := (-1)) dL_sets_29 (by decide) ?_
  refine z_goto C (tgt := 40) dL_sets_30 (by decide) ?_
  refine z_istore C dL_sets_40 (by decide) [(0, .ref (ad 0)), (1, .int 0), (2, .int 2), (3, .int 3), (4, .int 1), (5, .long 5421326277993579420), (7, .int 1), (8, .int (-1))] [1, 2, 3, 4, 5, 6, 7, 0] rfl ?_
  refine z_iload C dL_sets_42 7 rfl ?_
  refine z_if_lt C (tgt := 53) dL_sets_44 (by decide) (fun _ => ?_) (fun h => absurd h (by decide))
  refine z_iconst C (v := 1) dL_sets_53 (by decide) ?_
  refine z_goto C (tgt := 58) dL_sets_54 (by decide) ?_
  refine z_istore C dL_sets_58 (by decide) [(0, .ref (ad 0)), (1, .int 0), (2, .int 2), (3, .int 3), (4, .int 1), (5, .long 5421326277993579420), (7, .int 1), (8, .int (-1)), (9, .int 1)] [1, 2, 3, 4, 5, 6, 7, 8, 0] rfl ?_
  refine z_iload C dL_sets_60 8 rfl ?_
  refine z_if_ne C (tgt := 78) dL_sets_62 (by decide) (fun _ => ?_) (fun h => absurd h (by decide))
  refine z_iconst C (v := 0) dL_sets_78 (by decide) ?_
  refine z_istore C dL_sets_79 (by decide) [(0, .ref (ad 0)), (1, .int 0), (2, .int 2), (3, .int 3), (4, .int 1), (5, .long 5421326277993579420), (7, .int 1), (8, .int (-1)), (9, .int 1), (10, .int 0)] [1, 2, 3, 4, 5, 6, 7, 8, 9, 0] rfl ?_
  refine z_iload C dL_sets_81 8 rfl ?_
  refine z_if_eq C (tgt := 90) dL_sets_83 (by decide) (fun h => absurd h (by decide)) (fun _ => ?_)
  refine z_iconst C (v := 0) dL_sets_86 (by decide) ?_
  refine z_goto C (tgt := 96) dL_sets_87 (by decide) ?_
  refine z_istore C dL_sets_96 (by decide) [(0, .ref (ad 0)), (1, .int 0), (2, .int 2), (3, .int 3), (4, .int 1), (5, .long 5421326277993579420), (7, .int 1), (8, .int (-1)), (9, .int 1), (10, .int 0), (11, .int 0)] [1, 2, 3, 4, 5, 6, 7, 8, 9, 10, 0] rfl ?_
  refine z_iload C dL_sets_98 6 rfl ?_
  refine z_iconst C (v := 4) dL_sets_100 (by decide) ?_
  refine z_icmp_ge C (tgt := 246) dL_sets_101 (by decide) (fun h => absurd h (by decide)) (fun _ => ?_)
  refine z_iload C dL_sets_104 4 rfl ?_
  refine z_if_eq C (tgt := 120) dL_sets_106 (by decide) (fun h => absurd h (by decide)) (fun _ => ?_)
  refine z_iload_n C dL_sets_109 rfl 3 rfl ?_
  refine z_iconst C (v := 2) dL_sets_110 (by decide) ?_
  refine z_callSi C (T := Unit) (As := [.int 3, .int 2]) (rest := []) (ws' := fun _ => (wX ad cI cZ (fun _ => 0) (fun _ => 0) tacc tnet (fun _ => 0) (bnI 25) (fun _ => 0) (fun _ => 0) (fun _ => 0) (fun _ => 0) (fun _ => 0) (fun _ => 0) (fun _ => 0) (fun _ => 0) (fun _ => 0) (fun _ => 0) (fun _ => 0) (fun _ => 0) cnd 100 100 200 0 (nI 0) (nI 0) (nI 0))) (c_L_some l sa D cI cZ cL  3 2 (by first | assumption | omega | decide)) (va_cwS 2 C.2.2.2.2.1 gL_sets_L_some rfl rfl rfl (by decide +kernel) ⟨Nat.le_of_ble_eq_true rfl, Nat.le_of_ble_eq_true rfl⟩) (fun _ => zSub.none) zIn.none rfl (Nat.le_of_ble_eq_true rfl) ⟨Nat.le_of_ble_eq_true rfl, Nat.le_of_ble_eq_true rfl⟩ dL_sets_111 (fun r_7 _ h_8 => ?_)
  obtain rfl : r_7 = 1 := h_8.trans (by decide +kernel)
  refine z_ldc C m_L_sets_k110 dL_sets_114 ?_
  refine z_imul C (v := 1000001) dL_sets_116 (by decide) ?_
  refine z_goto C (tgt := 145) dL_sets_117 (by decide) ?_
  refine z_istore C dL_sets_145 (by decide) [(0, .ref (ad 0)), (1, .int 0), (2, .int 2), (3, .int 3), (4, .int 1), (5, .long 5421326277993579420), (7, .int 1), (8, .int (-1)), (9, .int 1), (10, .int 0), (11, .int 0), (12, .int 1000001)] [1, 2, 3, 4, 5, 6, 7, 8, 9, 10, 11, 0] rfl ?_
  refine z_aload_n C dL_sets_147 rfl 0 rfl ?_
  refine z_iconst C (v := 0) dL_sets_148 (by decide) ?_
  refine z_iload C dL_sets_149 7 rfl ?_
  refine z_iload C dL_sets_151 11 rfl ?_
  refine z_iconst C (v := 0) dL_sets_153 (by decide) ?_
  refine z_iconst C (v := 0) dL_sets_154 (by decide) ?_
  refine z_callSWn C (T := Unit) (As := [.ref (ad 0), .int 0, .int (-1), .int 1000001, .int 0, .int 0]) (rest := []) (ws' := fun _ => (wX ad cI cZ (fun _ => 0) (fun _ => 0) tacc tnet (fun _ => 0) (bnI 25) (fun _ => 0) (fun _ => 0) (fun _ => 0) (fun _ => 0) (fun _ => 0) (fun _ => 0) (fun _ => 0) (fun _ => 0) (fun _ => 0) (fun _ => 0) (fun _ => 0) (fun _ => 0) cnd 100 100 200 0 (nI 0) (nI 0) (nI 0))) (call_fund l hfl sa D cI cZ cL ad tacc tnet cnd  ) (vx_cwSW 6 C.2.2.2.2.1 gL_sets_L_call rfl rfl rfl (by decide +kernel) ⟨Nat.le_of_ble_eq_true rfl, Nat.le_of_ble_eq_true rfl⟩) (fun _ => zSub.full) zIn.full rfl (Nat.le_of_ble_eq_true rfl) ⟨Nat.le_of_ble_eq_true rfl, Nat.le_of_ble_eq_true rfl⟩ dL_sets_155 (fun r_9 _ h_10 => ?_)
  obtain rfl : r_9 = (-2000000021) := h_10
  refine z_istore C dL_sets_158 (by decide) [(0, .ref (ad 0)), (1, .int 0), (2, .int 2), (3, .int 3), (4, .int 1), (5, .long 5421326277993579420), (7, .int 1), (8, .int (-1)), (9, .int 1), (10, .int 0), (11, .int 0), (12, .int 1000001), (13, .int (-2000000021))] [1, 2, 3, 4, 5, 6, 7, 8, 9, 10, 11, 12, 0] rfl ?_
  refine z_iload C dL_sets_160 8 rfl ?_
  refine z_if_ne C (tgt := 175) dL_sets_162 (by decide) (fun _ => ?_) (fun h => absurd h (by decide))
  refine z_aload_n C dL_sets_175 rfl 0 rfl ?_
  refine z_iload_n C dL_sets_176 rfl 1 rfl ?_
  refine z_callSl C (T := Unit) (As := [.ref (ad 0), .int 0]) (rest := []) (ws' := fun _ => (wX ad cI cZ (fun _ => 0) (fun _ => 0) tacc tnet (fun _ => 0) (bnI 25) (fun _ => 0) (fun _ => 0) (fun _ => 0) (fun _ => 0) (fun _ => 0) (fun _ => 0) (fun _ => 0) (fun _ => 0) (fun _ => 0) (fun _ => 0) (fun _ => 0) (fun _ => 0) cnd 100 100 200 0 (nI 0) (nI 0) (nI 0))) (c_L_all l sa D cI cZ cL ad tacc tnet cnd  ) (va_cwS 2 C.2.2.2.2.1 gL_sets_L_all rfl rfl rfl (by decide +kernel) ⟨Nat.le_of_ble_eq_true rfl, Nat.le_of_ble_eq_true rfl⟩) (fun _ => zSub.full) zIn.full rfl (Nat.le_of_ble_eq_true rfl) ⟨Nat.le_of_ble_eq_true rfl, Nat.le_of_ble_eq_true rfl⟩ dL_sets_177 (fun r_11 _ h_12 => ?_)
  obtain rfl : r_11 = 5421326277993579420 := h_12
  refine z_lload C dL_sets_180 5 rfl ?_
  refine z_lcmp_ne C dL_sets_182 (tgt := 217) dL_sets_183 (by decide) (fun h => absurd h (by decide)) (fun _ => ?_)
  refine z_iload C dL_sets_186 12 rfl ?_
  refine z_iload C dL_sets_188 8 rfl ?_
  refine z_if_eq C (tgt := 198) dL_sets_190 (by decide) (fun h => absurd h (by decide)) (fun _ => ?_)
  refine z_ldc C m_L_sets_k16 dL_sets_193 ?_
  refine z_goto C (tgt := 210) dL_sets_195 (by decide) ?_
  refine z_icmp_ne C (tgt := 217) dL_sets_210 (by decide) (fun h => absurd h (by decide)) (fun _ => ?_)
  refine z_iconst C (v := 1) dL_sets_213 (by decide) ?_
  refine z_goto C (tgt := 218) dL_sets_214 (by decide) ?_
  exact z_zretn C () (by omega) rfl rfl (by decide) (by decide) (by decide) dL_sets_218
