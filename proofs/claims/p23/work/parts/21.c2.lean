theorem m_X4_obstacle_f29 : Cond.fieldLink RX4 29 "Queuefloat" "payments" "LQueuefloat$Payments;" ∈ wsX4_obstacle := by decide +kernel
theorem i_X4_obstacle_X4 : ∀ w ∈ wsX40, w ∈ wsX4_obstacle := by decide +kernel
theorem m_X4_obstacle_f125 : Cond.fieldLink RX4 125 "Queuefloat$Payments" "waits" "[Z" ∈ wsX4_obstacle := by decide +kernel
theorem i_X4_obstacle_X2 : ∀ w ∈ wsX20, w ∈ wsX4_obstacle := by decide +kernel
theorem m_X4_obstacle_f217 : Cond.fieldLink RX4 217 "Queuefloat$Payments" "from" "[I" ∈ wsX4_obstacle := by decide +kernel
theorem m_X4_obstacle_f220 : Cond.fieldLink RX4 220 "Queuefloat$Payments" "amount" "[I" ∈ wsX4_obstacle := by decide +kernel
theorem m_X4_obstacle_f10 : Cond.fieldLink RX4 10 "Queuefloat" "sums" "LQueuefloat$Sums;" ∈ wsX4_obstacle := by decide +kernel
theorem m_X4_obstacle_f73 : Cond.fieldLink RX4 73 "Queuefloat$Sums" "accountOf" "[I" ∈ wsX4_obstacle := by decide +kernel
theorem i_X4_obstacle_X3 : ∀ w ∈ wsX30, w ∈ wsX4_obstacle := by decide +kernel
theorem m_X4_obstacle_f22 : Cond.fieldLink RX4 22 "Queuefloat" "limits" "LQueuefloat$Limits;" ∈ wsX4_obstacle := by decide +kernel
theorem m_X4_obstacle_f91 : Cond.fieldLink RX4 91 "Queuefloat$Limits" "floorOf" "[I" ∈ wsX4_obstacle := by decide +kernel
theorem i_X4_obstacle_X0 : ∀ w ∈ wsX00, w ∈ wsX4_obstacle := by decide +kernel
theorem m_X4_obstacle_f223 : Cond.fieldLink RX4 223 "Queuefloat$Payments" "to" "[I" ∈ wsX4_obstacle := by decide +kernel
theorem m_X4_obstacle_f101 : Cond.fieldLink RX4 101 "Queuefloat$Sums" "netPaid" "[I" ∈ wsX4_obstacle := by decide +kernel
theorem m_X4_obstacle_f107 : Cond.fieldLink RX4 107 "Queuefloat$Limits" "boundOf" "[I" ∈ wsX4_obstacle := by decide +kernel
theorem m_X4_send_f29 : Cond.fieldLink RX4 29 "Queuefloat" "payments" "LQueuefloat$Payments;" ∈ wsX4_send := by decide +kernel
theorem i_X4_send_X4 : ∀ w ∈ wsX40, w ∈ wsX4_send := by decide +kernel
theorem m_X4_send_f10 : Cond.fieldLink RX4 10 "Queuefloat" "sums" "LQueuefloat$Sums;" ∈ wsX4_send := by decide +kernel
theorem m_X4_send_f125 : Cond.fieldLink RX4 125 "Queuefloat$Payments" "waits" "[Z" ∈ wsX4_send := by decide +kernel
theorem i_X4_send_X2 : ∀ w ∈ wsX20, w ∈ wsX4_send := by decide +kernel
theorem m_X4_firstSmallFree_f29 : Cond.fieldLink RX4 29 "Queuefloat" "payments" "LQueuefloat$Payments;" ∈ wsX4_firstSmallFree := by decide +kernel
theorem i_X4_firstSmallFree_X4 : ∀ w ∈ wsX40, w ∈ wsX4_firstSmallFree := by decide +kernel
theorem m_X4_firstSmallFree_f113 : Cond.fieldLink RX4 113 "Queuefloat$Payments" "made" "I" ∈ wsX4_firstSmallFree := by decide +kernel
theorem i_X4_firstSmallFree_X2 : ∀ w ∈ wsX20, w ∈ wsX4_firstSmallFree := by decide +kernel
theorem m_X4_firstSmallFree_f239 : Cond.fieldLink RX4 239 "Queuefloat$Payments" "byPriority" "[I" ∈ wsX4_firstSmallFree := by decide +kernel
theorem m_X4_firstSmallFree_f220 : Cond.fieldLink RX4 220 "Queuefloat$Payments" "amount" "[I" ∈ wsX4_firstSmallFree := by decide +kernel
theorem m_X4_firstSmallFree_f51 : Cond.fieldLink RX4 51 "Queuefloat" "small" "I" ∈ wsX4_firstSmallFree := by decide +kernel
theorem m_X4_nextToGo_f29 : Cond.fieldLink RX4 29 "Queuefloat" "payments" "LQueuefloat$Payments;" ∈ wsX4_nextToGo := by decide +kernel
theorem i_X4_nextToGo_X4 : ∀ w ∈ wsX40, w ∈ wsX4_nextToGo := by decide +kernel
set_option maxHeartbeats 4000000 in
set_option maxRecDepth 100000 in
theorem c_X4_obstacle (l : Launch) (sa : Nat → Nat) (D : va_G) (cI cZ cL : ClassId) (ad : Nat → Nat) (acc net tacc tnet flo bnd frm too amt pri wai byp ldr bor due plg clo pap cnd : Nat → Int32) (small price cut proc : Int32) (mk lm le : Nat) (p9 : Nat) (hp : p9 < mk) (hmk : mk ≤ 60) (hfrm : wf5 mk frm) (htoo : wf5 mk too) : zMi (T := Unit) sa D vwCl (zty cI cZ cL) l yX4_obstacle wsX4_obstacle ({ frames := 1, cells := 0, slots := 0, locals := 21 } : Room) [.ref (ad 0), .int (nI p9)] (wX ad cI cZ acc net tacc tnet flo bnd frm too amt pri wai byp ldr bor due plg clo pap cnd small price cut proc (nI mk) (nI lm) (nI le)) (fun r9 _ => r9 = (obs acc net flo bnd frm too amt wai p9)) (fun _ => (wX ad cI cZ acc net tacc tnet flo bnd frm too amt pri wai byp ldr bor due plg clo pap cnd small price cut proc (nI mk) (nI lm) (nI le))) 0 0 := by
  refine zMi.of (ret := (some .int)) (cc := cX4_obstacle) (nL := 5) (own := RX4) (by decide +kernel) rfl [(0, .ref (ad 0)), (1, .int (nI p9))] rfl (Nat.le_of_ble_eq_true rfl) rfl ?_
  intro A p e s m args below meth c C hmn
  refine z_aload_n C dX4_obstacle_0 rfl 0 rfl ?_
  refine z_get C 0 rfl i_X4_obstacle_X4 rfl 3 (by decide) m_X4_obstacle_f29 rfl rfl dX4_obstacle_1 ?_
  refine z_get C 4 rfl i_X4_obstacle_X2 rfl 4 (by decide) m_X4_obstacle_f125 rfl rfl dX4_obstacle_4 ?_
  refine z_iload_n C dX4_obstacle_7 rfl 1 rfl ?_
  refine z_zald C 16 1 rfl rfl p9 (nI_clamp (by omega)) (vp_in_nI (by omega) (by omega)) (wai p9) rfl dX4_obstacle_8 ?_
  refine z_if_ne C (tgt := 14) dX4_obstacle_9 (by decide) (fun c9_1 => ?_) (fun c9_1 => ?_)
  · skip
    refine z_aload_n C dX4_obstacle_14 rfl 0 rfl ?_
    refine z_get C 0 rfl i_X4_obstacle_X4 rfl 3 (by decide) m_X4_obstacle_f29 rfl rfl dX4_obstacle_15 ?_
    refine z_get C 4 rfl i_X4_obstacle_X2 rfl 0 (by decide) m_X4_obstacle_f217 rfl rfl dX4_obstacle_18 ?_
    refine z_iload_n C dX4_obstacle_21 rfl 1 rfl ?_
    have := (hfrm p9 (by omega)).2
    refine z_iald C 12 0 rfl rfl p9 (nI_clamp (by omega)) (vp_in_nI (by omega) (by omega)) (nI (ix (frm p9))) (hfrm p9 (by omega)).1 dX4_obstacle_22 ?_
    refine z_istore_n C dX4_obstacle_23 rfl (by decide) [(0, .ref (ad 0)), (1, .int (nI p9)), (2, .int (nI (ix (frm p9))))] [1, 2, 0] rfl ?_
    refine z_aload_n C dX4_obstacle_24 rfl 0 rfl ?_
    refine z_get C 0 rfl i_X4_obstacle_X4 rfl 3 (by decide) m_X4_obstacle_f29 rfl rfl dX4_obstacle_25 ?_
    refine z_get C 4 rfl i_X4_obstacle_X2 rfl 2 (by decide) m_X4_obstacle_f220 rfl rfl dX4_obstacle_28 ?_
    refine z_iload_n C dX4_obstacle_31 rfl 1 rfl ?_
    refine z_iald C 14 0 rfl rfl p9 (nI_clamp (by omega)) (vp_in_nI (by omega) (by omega)) (amt p9) rfl dX4_obstacle_32 ?_
    refine z_istore_n C dX4_obstacle_33 rfl (by decide) [(0, .ref (ad 0)), (1, .int (nI p9)), (2, .int (nI (ix (frm p9)))), (3, .int (amt p9))] [1, 2, 3, 0] rfl ?_
    refine z_aload_n C dX4_obstacle_34 rfl 0 rfl ?_
    refine z_get C 0 rfl i_X4_obstacle_X4 rfl 0 (by decide) m_X4_obstacle_f10 rfl rfl dX4_obstacle_35 ?_
    refine z_get C 1 rfl i_X4_obstacle_X3 rfl 0 (by decide) m_X4_obstacle_f73 rfl rfl dX4_obstacle_38 ?_
    refine z_iload_n C dX4_obstacle_41 rfl 2 rfl ?_
    refine z_iald C 6 0 rfl rfl (ix (frm p9)) (nI_clamp (by omega)) (vp_in_nI (by omega) (by omega)) (acc (ix (frm p9))) rfl dX4_obstacle_42 ?_
    refine z_iload_n C dX4_obstacle_43 rfl 3 rfl ?_
    refine z_isub C (v := ((acc (ix (frm p9))) - (amt p9))) dX4_obstacle_44 rfl ?_
    refine z_aload_n C dX4_obstacle_45 rfl 0 rfl ?_
    refine z_get C 0 rfl i_X4_obstacle_X4 rfl 2 (by decide) m_X4_obstacle_f22 rfl rfl dX4_obstacle_46 ?_
    refine z_get C 3 rfl i_X4_obstacle_X0 rfl 0 (by decide) m_X4_obstacle_f91 rfl rfl dX4_obstacle_49 ?_
    refine z_iload_n C dX4_obstacle_52 rfl 2 rfl ?_
    refine z_iald C 10 0 rfl rfl (ix (frm p9)) (nI_clamp (by omega)) (vp_in_nI (by omega) (by omega)) (flo (ix (frm p9))) rfl dX4_obstacle_53 ?_
    refine z_icmp_ge C (tgt := 59) dX4_obstacle_54 (by decide) (fun c54_2 => ?_) (fun c54_2 => ?_)
    · skip
      refine z_iload_n C dX4_obstacle_59 rfl 2 rfl ?_
      refine z_aload_n C dX4_obstacle_60 rfl 0 rfl ?_
      refine z_get C 0 rfl i_X4_obstacle_X4 rfl 3 (by decide) m_X4_obstacle_f29 rfl rfl dX4_obstacle_61 ?_
      refine z_get C 4 rfl i_X4_obstacle_X2 rfl 1 (by decide) m_X4_obstacle_f223 rfl rfl dX4_obstacle_64 ?_
      refine z_iload_n C dX4_obstacle_67 rfl 1 rfl ?_
      have := (htoo p9 (by omega)).2
      refine z_iald C 13 0 rfl rfl p9 (nI_clamp (by omega)) (vp_in_nI (by omega) (by omega)) (nI (ix (too p9))) (htoo p9 (by omega)).1 dX4_obstacle_68 ?_
      refine z_callSi C (T := Unit) (As := [.int (nI (ix (frm p9))), .int (nI (ix (too p9)))]) (rest := []) (ws' := fun _ => (wX ad cI cZ acc net tacc tnet flo bnd frm too amt pri wai byp ldr bor due plg clo pap cnd small price cut proc (nI mk) (nI lm) (nI le))) (c_X4_pairOf l sa D cI cZ cL  (ix (frm p9)) (ix (too p9)) ) (va_cwS 2 C.2.2.2.2.1 gX4_obstacle_X4_pairOf rfl rfl rfl (by decide +kernel) ⟨Nat.le_of_ble_eq_true rfl, Nat.le_of_ble_eq_true rfl⟩) (fun _ => zSub.none) zIn.none rfl (Nat.le_of_ble_eq_true rfl) ⟨Nat.le_of_ble_eq_true rfl, Nat.le_of_ble_eq_true rfl⟩ dX4_obstacle_69 (fun r_3 _ h_4 => ?_)
      obtain rfl : r_3 = (nI ((ix (frm p9)) * 5 + (ix (too p9)))) := h_4
      refine z_istore C dX4_obstacle_72 (by decide) [(0, .ref (ad 0)), (1, .int (nI p9)), (2, .int (nI (ix (frm p9)))), (3, .int (amt p9)), (4, .int (nI ((ix (frm p9)) * 5 + (ix (too p9)))))] [1, 2, 3, 4, 0] rfl ?_
      refine z_aload_n C dX4_obstacle_74 rfl 0 rfl ?_
      refine z_get C 0 rfl i_X4_obstacle_X4 rfl 0 (by decide) m_X4_obstacle_f10 rfl rfl dX4_obstacle_75 ?_
      refine z_get C 1 rfl i_X4_obstacle_X3 rfl 1 (by decide) m_X4_obstacle_f101 rfl rfl dX4_obstacle_78 ?_
      refine z_iload C dX4_obstacle_81 4 rfl ?_
      refine z_iald C 7 0 rfl rfl ((ix (frm p9)) * 5 + (ix (too p9))) (nI_clamp (by omega)) (vp_in_nI (by omega) (by omega)) (net ((ix (frm p9)) * 5 + (ix (too p9)))) rfl dX4_obstacle_83 ?_
      refine z_iload_n C dX4_obstacle_84 rfl 3 rfl ?_
      refine z_iadd C (v := ((net ((ix (frm p9)) * 5 + (ix (too p9)))) + (amt p9))) dX4_obstacle_85 rfl ?_
      refine z_aload_n C dX4_obstacle_86 rfl 0 rfl ?_
      refine z_get C 0 rfl i_X4_obstacle_X4 rfl 2 (by decide) m_X4_obstacle_f22 rfl rfl dX4_obstacle_87 ?_
      refine z_get C 3 rfl i_X4_obstacle_X0 rfl 1 (by decide) m_X4_obstacle_f107 rfl rfl dX4_obstacle_90 ?_
      refine z_iload C dX4_obstacle_93 4 rfl ?_
      refine z_iald C 11 0 rfl rfl ((ix (frm p9)) * 5 + (ix (too p9))) (nI_clamp (by omega)) (vp_in_nI (by omega) (by omega)) (bnd ((ix (frm p9)) * 5 + (ix (too p9)))) rfl dX4_obstacle_95 ?_
      refine z_icmp_le C (tgt := 103) dX4_obstacle_96 (by decide) (fun c96_5 => ?_) (fun c96_5 => ?_)
      · skip
        refine z_iconst C (v := 0) dX4_obstacle_103 (by decide) ?_
        exact z_iret C () (by simp [obs, c9_1, c54_2, c96_5]) rfl (by decide) (by decide) dX4_obstacle_104
      · skip
        refine z_iconst C (v := 2) dX4_obstacle_99 (by decide) ?_
        refine z_goto C (tgt := 104) dX4_obstacle_100 (by decide) ?_
        exact z_iret C () (by simp [obs, c9_1, c54_2, c96_5]) rfl (by decide) (by decide) dX4_obstacle_104
    · skip
      refine z_iconst C (v := 1) dX4_obstacle_57 (by decide) ?_
      exact z_iret C () (by simp [obs, c9_1, c54_2]) rfl (by decide) (by decide) dX4_obstacle_58
  · skip
    refine z_iconst C (v := 3) dX4_obstacle_12 (by decide) ?_
    exact z_iret C () (by simp [obs, c9_1]) rfl (by decide) (by decide) dX4_obstacle_13
set_option maxHeartbeats 4000000 in
set_option maxRecDepth 100000 in
theorem c_X4_send (l : Launch) (sa : Nat → Nat) (D : va_G) (cI cZ cL : ClassId) (ad : Nat → Nat) (acc net tacc tnet flo bnd frm too amt pri wai byp ldr bor due plg clo pap cnd : Nat → Int32) (small price cut proc : Int32) (mk lm le : Nat) (p9 : Nat) (hp : p9 < mk) (hmk : mk ≤ 60) (hfrm : wf5 mk frm) (htoo : wf5 mk too) : zMv (T := Unit) sa D vwCl (zty cI cZ cL) l yX4_send wsX4_send ({ frames := 3, cells := 0, slots := 0, locals := 66 } : Room) [.ref (ad 0), .int (nI p9)] (wX ad cI cZ acc net tacc tnet flo bnd frm too amt pri wai byp ldr bor due plg clo pap cnd small price cut proc (nI mk) (nI lm) (nI le)) (fun _ => True) (fun _ => (wX ad cI cZ (mvA (ix (frm p9)) (ix (too p9)) (amt p9) acc) (mvN (ix (frm p9)) (ix (too p9)) (amt p9) net) tacc tnet flo bnd frm too amt pri (upd wai p9 0) byp ldr bor due plg clo pap cnd small price cut proc (nI mk) (nI lm) (nI le))) 0 0 := by
  refine zMv.of (ret := none) (cc := cX4_send) (nL := 2) (own := RX4) (by decide +kernel) rfl [(0, .ref (ad 0)), (1, .int (nI p9))] rfl (Nat.le_of_ble_eq_true rfl) rfl ?_
  intro A p e s m args below meth c C hmn
  refine z_aload_n C dX4_send_0 rfl 0 rfl ?_
  refine z_get C 0 rfl i_X4_send_X4 rfl 3 (by decide) m_X4_send_f29 rfl rfl dX4_send_1 ?_
  refine z_iload_n C dX4_send_4 rfl 1 rfl ?_
  refine z_aload_n C dX4_send_5 rfl 0 rfl ?_
  refine z_get C 0 rfl i_X4_send_X4 rfl 0 (by decide) m_X4_send_f10 rfl rfl dX4_send_6 ?_
  refine z_callVv C (T := Unit) (As := [.int (nI p9), .ref (ad 1)]) (rest := []) (ws' := fun _ => (wX ad cI cZ (mvA (ix (frm p9)) (ix (too p9)) (amt p9) acc) (mvN (ix (frm p9)) (ix (too p9)) (amt p9) net) tacc tnet flo bnd frm too amt pri wai byp ldr bor due plg clo pap cnd small price cut proc (nI mk) (nI lm) (nI le))) (c_X2_apply l sa D cI cZ cL (ad 4) (ad 12) (ad 13) (ad 14) (ad 15) (ad 16) (ad 17) frm too amt (nI mk) (ad 1) (ad 6) (ad 7) acc net p9 mk (by first | assumption | omega) (by first | assumption | omega) (by first | assumption | omega) (by first | assumption | omega)) (cwV 2 C.2.2.2.2.1 gX4_send_X2_apply rfl rfl rfl (by decide +kernel) ⟨Nat.le_of_ble_eq_true rfl, Nat.le_of_ble_eq_true rfl⟩) 4 rfl rfl rfl (fun _ => (zSub.of (wr := [((ad 0), .inr (4, [.ref (ad 1), .ref (ad 2), .ref (ad 3), .ref (ad 4), .ref (ad 5), .ref (ad 22), .ref (ad 23), .ref (ad 24), .int small, .int price, .int cut, .int proc])), ((ad 2), .inr (3, [.ref (ad 8), .ref (ad 9)])), ((ad 3), .inr (0, [.ref (ad 10), .ref (ad 11)])), ((ad 5), .inr (1, [.ref (ad 18), .ref (ad 19), .ref (ad 20), .ref (ad 21), .int (nI lm), .int (nI le)])), ((ad 8), .inl (cI, 5, .inl tacc)), ((ad 9), .inl (cI, 25, .inl tnet)), ((ad 10), .inl (cI, 5, .inl flo)), ((ad 11), .inl (cI, 25, .inl bnd)), ((ad 15), .inl (cI, 60, .inl pri)), ((ad 16), .inl (cZ, 60, .inl wai)), ((ad 17), .inl (cI, 60, .inl byp)), ((ad 18), .inl (cI, 40, .inl ldr)), ((ad 19), .inl (cI, 40, .inl bor)), ((ad 20), .inl (cI, 40, .inl due)), ((ad 21), .inl (cI, 40, .inl plg)), ((ad 22), .inl (cZ, 5, .inl clo)), ((ad 23), .inl (cI, 5, .inl pap)), ((ad 24), .inl (cI, 10, .inl cnd))]) [4, 12, 13, 14, 1, 6, 7] [0, 2, 3, 5, 8, 9, 10, 11, 15, 16, 17, 18, 19, 20, 21, 22, 23, 24] [0, 22, 1, 2, 18, 3, 23, 24, 4, 5, 6, 7, 19, 20, 21, 8, 9, 10, 11, 12, 13, 14, 15, 16, 17] rfl rfl rfl rfl (by decide) rfl rfl)) (zIn.of [4, 12, 13, 14, 1, 6, 7] rfl rfl) rfl (Nat.le_of_ble_eq_true rfl) ⟨Nat.le_of_ble_eq_true rfl, Nat.le_of_ble_eq_true rfl⟩ dX4_send_9 (fun _ _ => ?_)
  refine z_aload_n C dX4_send_12 rfl 0 rfl ?_
  refine z_get C 0 rfl i_X4_send_X4 rfl 3 (by decide) m_X4_send_f29 rfl rfl dX4_send_13 ?_
  refine z_get C 4 rfl i_X4_send_X2 rfl 4 (by decide) m_X4_send_f125 rfl rfl dX4_send_16 ?_
  refine z_iload_n C dX4_send_19 rfl 1 rfl ?_
  refine z_iconst C (v := 0) dX4_send_20 (by decide) ?_
  refine z_zast C 16 1 rfl rfl p9 (nI_clamp (by omega)) (vp_in_nI (by omega) (by omega)) 0 (by decide) dX4_send_21 (wX ad cI cZ (mvA (ix (frm p9)) (ix (too p9)) (amt p9) acc) (mvN (ix (frm p9)) (ix (too p9)) (amt p9) net) tacc tnet flo bnd frm too amt pri (upd wai p9 0) byp ldr bor due plg clo pap cnd small price cut proc (nI mk) (nI lm) (nI le)) rfl ?_
  exact z_vret C () (by exact trivial) rfl (by decide) (by decide) dX4_send_22
set_option maxHeartbeats 4000000 in
set_option maxRecDepth 100000 in
theorem c_X4_firstSmallFree (l : Launch) (sa : Nat → Nat) (D : va_G) (cI cZ cL : ClassId) (ad : Nat → Nat) (acc net tacc tnet flo bnd frm too amt pri wai byp ldr bor due plg clo pap cnd : Nat → Int32) (small price cut proc : Int32) (mk lm le : Nat) (b : Nat) (hb : b < 5) (hmk : mk ≤ 60) (hfrm : wf5 mk frm) (htoo : wf5 mk too) (hbyp : bypOK byp pri mk) : zMi (T := Unit) sa D vwCl (zty cI cZ cL) l yX4_firstSmallFree wsX4_firstSmallFree ({ frames := 2, cells := 0, slots := 0, locals := 45 } : Room) [.ref (ad 0), .int (nI b)] (wX ad cI cZ acc net tacc tnet flo bnd frm too amt pri wai byp ldr bor due plg clo pap cnd small price cut proc (nI mk) (nI lm) (nI le)) (fun r9 _ => r9 = oI ((ordL pri mk).find? (fsm acc net flo bnd frm too amt wai small b))) (fun _ => (wX ad cI cZ acc net tacc tnet flo bnd frm too amt pri wai byp ldr bor due plg clo pap cnd small price cut proc (nI mk) (nI lm) (nI le))) 0 0 := by
  refine zMi.of (ret := (some .int)) (cc := cX4_firstSmallFree) (nL := 4) (own := RX4) (by decide +kernel) rfl [(0, .ref (ad 0)), (1, .int (nI b))] rfl (Nat.le_of_ble_eq_true rfl) rfl ?_
  intro A p e s m args below meth c C hmn
  refine z_iconst C (v := 0) dX4_firstSmallFree_0 (by decide) ?_
  refine z_istore_n C dX4_firstSmallFree_1 rfl (by decide) [(0, .ref (ad 0)), (1, .int (nI b)), (2, .int 0)] [1, 2, 0] rfl ?_
  have L2_k_1 : ∀ (n : Nat) (i : Nat), mk - i < n → (i ≤ mk) → (((ordL pri mk).take i).find? (fsm acc net flo bnd frm too amt wai small b) = none) → zW 0 p l e ({ frames := 2, cells := 0, slots := 0, locals := 45 } : Room) s m args below meth c (MQ below (zQi (T := Unit) D vwCl (zty cI cZ cL) A (fun r9 _ => r9 = oI ((ordL pri mk).find? (fsm acc net flo bnd frm too amt wai small b))) (fun _ => (wX ad cI cZ acc net tacc tnet flo bnd frm too amt pri wai byp ldr bor due plg clo pap cnd small price cut proc (nI mk) (nI lm) (nI le)))) args s 0 0 A) D vwCl A 4 0 0 (wX ad cI cZ acc net tacc tnet flo bnd frm too amt pri wai byp ldr bor due plg clo pap cnd small price cut proc (nI mk) (nI lm) (nI le)) [(0, .ref (ad 0)), (1, .int (nI b)), (2, .int (nI i))] 2 [] := by
    intro n
    induction n with
    | zero => intros; omega
    | succ n ih_2 =>
      intro i hm_3 hi ha
      refine z_iload_n C dX4_firstSmallFree_2 rfl 2 rfl ?_
      refine z_aload_n C dX4_firstSmallFree_3 rfl 0 rfl ?_
      refine z_get C 0 rfl i_X4_firstSmallFree_X4 rfl 3 (by decide) m_X4_firstSmallFree_f29 rfl rfl dX4_firstSmallFree_4 ?_
      refine z_get C 4 rfl i_X4_firstSmallFree_X2 rfl 6 (by decide) m_X4_firstSmallFree_f113 rfl rfl dX4_firstSmallFree_7 ?_
      refine z_icmp_ge C (tgt := 67) dX4_firstSmallFree_10 (by decide) (fun c10_4 => ?_) (fun c10_4 => ?_)
      · skip
        have n_5 : mk ≤ i := (nI_leI (a := mk) (b := i) (by omega) (by omega)).mp c10_4
        refine z_iconst C (v := (-1)) dX4_firstSmallFree_67 (by decide) ?_
        exact z_iret C () (by rw [fd_end (i := i) (by have := ordL_len pri mk; omega) (by assumption)]; rfl) rfl (by decide) (by decide) dX4_firstSmallFree_68
      · skip
        have n_6 : ¬ mk ≤ i := fun q => c10_4 ((nI_leI (a := mk) (b := i) (by omega) (by omega)).mpr q)
        refine z_aload_n C dX4_firstSmallFree_13 rfl 0 rfl ?_
        refine z_get C 0 rfl i_X4_firstSmallFree_X4 rfl 3 (by decide) m_X4_firstSmallFree_f29 rfl rfl dX4_firstSmallFree_14 ?_
        refine z_get C 4 rfl i_X4_firstSmallFree_X2 rfl 5 (by decide) m_X4_firstSmallFree_f239 rfl rfl dX4_firstSmallFree_17 ?_
        refine z_iload_n C dX4_firstSmallFree_20 rfl 2 rfl ?_
        obtain ⟨q_byp, hq_byp⟩ := hbyp i (by omega)
        have := ordL_mem (List.mem_of_getElem? hq_byp.1)
        refine z_iald C 17 0 rfl rfl i (nI_clamp (by omega)) (vp_in_nI (by omega) (by omega)) (nI q_byp) hq_byp.2 dX4_firstSmallFree_21 ?_
        refine z_istore_n C dX4_firstSmallFree_22 rfl (by decide) [(0, .ref (ad 0)), (1, .int (nI b)), (2, .int (nI i)), (3, .int (nI q_byp))] [1, 2, 3, 0] rfl ?_
        refine z_aload_n C dX4_firstSmallFree_23 rfl 0 rfl ?_
        refine z_get C 0 rfl i_X4_firstSmallFree_X4 rfl 3 (by decide) m_X4_firstSmallFree_f29 rfl rfl dX4_firstSmallFree_24 ?_
        refine z_iload_n C dX4_firstSmallFree_27 rfl 3 rfl ?_
        refine z_iload_n C dX4_firstSmallFree_28 rfl 1 rfl ?_
        refine z_case (isq wai frm b q_byp = true) (fun hp_7 => ?_) (fun hp_7 => ?_)
        · skip
          refine z_callVi C (T := Unit) (As := [.int (nI q_byp), .int (nI b)]) (rest := []) (ws' := fun _ => (wX ad cI cZ acc net tacc tnet flo bnd frm too amt pri wai byp ldr bor due plg clo pap cnd small price cut proc (nI mk) (nI lm) (nI le))) (c_X2_waitsAt l sa D cI cZ cL ad acc net tacc tnet flo bnd frm too amt pri wai byp ldr bor due plg clo pap cnd small price cut proc mk lm le q_byp b (by first | assumption | omega) (by first | assumption | omega) (by first | assumption | omega) (by first | assumption | omega) (by first | assumption | omega)) (cwV 2 C.2.2.2.2.1 gX4_firstSmallFree_X2_waitsAt rfl rfl rfl (by decide +kernel) ⟨Nat.le_of_ble_eq_true rfl, Nat.le_of_ble_eq_true rfl⟩) 4 rfl rfl rfl (fun _ => zSub.full) zIn.full rfl (Nat.le_of_ble_eq_true rfl) ⟨Nat.le_of_ble_eq_true rfl, Nat.le_of_ble_eq_true rfl⟩ dX4_firstSmallFree_29 (fun r_8 _ h_9 => ?_)
          obtain rfl : r_8 = 1 := h_9.trans (if_pos hp_7)
          refine z_if_eq C (tgt := 61) dX4_firstSmallFree_32 (by decide) (fun h => absurd h (by decide)) (fun _ => ?_)
          refine z_aload_n C dX4_firstSmallFree_35 rfl 0 rfl ?_
          refine z_get C 0 rfl i_X4_firstSmallFree_X4 rfl 3 (by decide) m_X4_firstSmallFree_f29 rfl rfl dX4_firstSmallFree_36 ?_
          refine z_get C 4 rfl i_X4_firstSmallFree_X2 rfl 2 (by decide) m_X4_firstSmallFree_f220 rfl rfl dX4_firstSmallFree_39 ?_
          refine z_iload_n C dX4_firstSmallFree_42 rfl 3 rfl ?_
          refine z_iald C 14 0 rfl rfl q_byp (nI_clamp (by omega)) (vp_in_nI (by omega) (by omega)) (amt q_byp) rfl dX4_firstSmallFree_43 ?_
          refine z_aload_n C dX4_firstSmallFree_44 rfl 0 rfl ?_
          refine z_get C 0 rfl i_X4_firstSmallFree_X4 rfl 8 (by decide) m_X4_firstSmallFree_f51 rfl rfl dX4_firstSmallFree_45 ?_
          refine z_icmp_gt C (tgt := 61) dX4_firstSmallFree_48 (by decide) (fun c48_10 => ?_) (fun c48_10 => ?_)
          · skip
            refine z_iinc C (v := (nI (i + 1))) dX4_firstSmallFree_61 2 rfl (nI_add i 1) (by decide) [(0, .ref (ad 0)), (1, .int (nI b)), (2, .int (nI (i + 1))), (3, .int (nI q_byp))] [1, 2, 0, 3] rfl ?_
            refine z_goto C (tgt := 2) dX4_firstSmallFree_64 (by decide) ?_
            refine z_lv [(0, .ref (ad 0)), (1, .int (nI b)), (2, .int (nI (i + 1)))] [0, 1, 2] rfl ?_
            exact ih_2 (i + 1) (by omega) (by first | assumption | omega) (by exact fd_no hq_byp.1 (by simp [fsm, c10_4, n_6, hp_7, c48_10]) (by assumption))
          · skip
            refine z_aload_n C dX4_firstSmallFree_51 rfl 0 rfl ?_
            refine z_iload_n C dX4_firstSmallFree_52 rfl 3 rfl ?_
            refine z_callVi C (T := Unit) (As := [.int (nI q_byp)]) (rest := []) (ws' := fun _ => (wX ad cI cZ acc net tacc tnet flo bnd frm too amt pri wai byp ldr bor due plg clo pap cnd small price cut proc (nI mk) (nI lm) (nI le))) (c_X4_obstacle l sa D cI cZ cL ad acc net tacc tnet flo bnd frm too amt pri wai byp ldr bor due plg clo pap cnd small price cut proc mk lm le q_byp (by first | assumption | omega) (by first | assumption | omega) (by first | assumption | omega) (by first | assumption | omega)) (cwV 1 C.2.2.2.2.1 gX4_firstSmallFree_X4_obstacle rfl rfl rfl (by decide +kernel) ⟨Nat.le_of_ble_eq_true rfl, Nat.le_of_ble_eq_true rfl⟩) 0 rfl rfl rfl (fun _ => zSub.full) zIn.full rfl (Nat.le_of_ble_eq_true rfl) ⟨Nat.le_of_ble_eq_true rfl, Nat.le_of_ble_eq_true rfl⟩ dX4_firstSmallFree_53 (fun r_11 _ h_12 => ?_)
            obtain rfl : r_11 = (obs acc net flo bnd frm too amt wai q_byp) := h_12
            refine z_if_ne C (tgt := 61) dX4_firstSmallFree_56 (by decide) (fun c56_13 => ?_) (fun c56_13 => ?_)
            · skip
              refine z_iinc C (v := (nI (i + 1))) dX4_firstSmallFree_61 2 rfl (nI_add i 1) (by decide) [(0, .ref (ad 0)), (1, .int (nI b)), (2, .int (nI (i + 1))), (3, .int (nI q_byp))] [1, 2, 0, 3] rfl ?_
              refine z_goto C (tgt := 2) dX4_firstSmallFree_64 (by decide) ?_
              refine z_lv [(0, .ref (ad 0)), (1, .int (nI b)), (2, .int (nI (i + 1)))] [0, 1, 2] rfl ?_
              exact ih_2 (i + 1) (by omega) (by first | assumption | omega) (by exact fd_no hq_byp.1 (by simp [fsm, c10_4, n_6, hp_7, c48_10, c56_13]) (by assumption))
            · skip
              refine z_iload_n C dX4_firstSmallFree_59 rfl 3 rfl ?_
              exact z_iret C () (by rw [fd_found hq_byp.1 (by simp [fsm, c10_4, n_6, hp_7, c48_10, c56_13]) (by assumption)]; rfl) rfl (by decide) (by decide) dX4_firstSmallFree_60
        · skip
          refine z_callVi C (T := Unit) (As := [.int (nI q_byp), .int (nI b)]) (rest := []) (ws' := fun _ => (wX ad cI cZ acc net tacc tnet flo bnd frm too amt pri wai byp ldr bor due plg clo pap cnd small price cut proc (nI mk) (nI lm) (nI le))) (c_X2_waitsAt l sa D cI cZ cL ad acc net tacc tnet flo bnd frm too amt pri wai byp ldr bor due plg clo pap cnd small price cut proc mk lm le q_byp b (by first | assumption | omega) (by first | assumption | omega) (by first | assumption | omega) (by first | assumption | omega) (by first | assumption | omega)) (cwV 2 C.2.2.2.2.1 gX4_firstSmallFree_X2_waitsAt rfl rfl rfl (by decide +kernel) ⟨Nat.le_of_ble_eq_true rfl, Nat.le_of_ble_eq_true rfl⟩) 4 rfl rfl rfl (fun _ => zSub.full) zIn.full rfl (Nat.le_of_ble_eq_true rfl) ⟨Nat.le_of_ble_eq_true rfl, Nat.le_of_ble_eq_true rfl⟩ dX4_firstSmallFree_29 (fun r_14 _ h_15 => ?_)
          obtain rfl : r_14 = 0 := h_15.trans (if_neg hp_7)
          refine z_if_eq C (tgt := 61) dX4_firstSmallFree_32 (by decide) (fun _ => ?_) (fun h => absurd h (by decide))
          refine z_iinc C (v := (nI (i + 1))) dX4_firstSmallFree_61 2 rfl (nI_add i 1) (by decide) [(0, .ref (ad 0)), (1, .int (nI b)), (2, .int (nI (i + 1))), (3, .int (nI q_byp))] [1, 2, 0, 3] rfl ?_
          refine z_goto C (tgt := 2) dX4_firstSmallFree_64 (by decide) ?_
          refine z_lv [(0, .ref (ad 0)), (1, .int (nI b)), (2, .int (nI (i + 1)))] [0, 1, 2] rfl ?_
          exact ih_2 (i + 1) (by omega) (by first | assumption | omega) (by exact fd_no hq_byp.1 (by simp [fsm, c10_4, n_6, hp_7]) (by assumption))
  refine z_lveq [(0, .ref (ad 0)), (1, .int (nI b)), (2, .int (nI 0))] (by rfl) ?_
  exact L2_k_1 (mk - 0 + 1) 0 (Nat.lt_succ_self _) (by first | assumption | omega) (by simp)
set_option maxHeartbeats 4000000 in
set_option maxRecDepth 100000 in
theorem c_X4_nextToGo (l : Launch) (sa : Nat → Nat) (D : va_G) (cI cZ cL : ClassId) (ad : Nat → Nat) (acc net tacc tnet flo bnd frm too amt pri wai byp ldr bor due plg clo pap cnd : Nat → Int32) (small price cut proc : Int32) (mk lm le : Nat) (b : Nat) (hb : b < 5) (hmk : mk ≤ 60) (hfrm : wf5 mk frm) (htoo : wf5 mk too) (hbyp : bypOK byp pri mk) : zMi (T := Unit) sa D vwCl (zty cI cZ cL) l yX4_nextToGo wsX4_nextToGo ({ frames := 3, cells := 0, slots := 0, locals := 68 } : Room) [.ref (ad 0), .int (nI b)] (wX ad cI cZ acc net tacc tnet flo bnd frm too amt pri wai byp ldr bor due plg clo pap cnd small price cut proc (nI mk) (nI lm) (nI le)) (fun r9 _ => r9 = oI (nxtQ (ordL pri mk) acc net flo bnd frm too amt wai small b)) (fun _ => (wX ad cI cZ acc net tacc tnet flo bnd frm too amt pri wai byp ldr bor due plg clo pap cnd small price cut proc (nI mk) (nI lm) (nI le))) 0 0 := by
  refine zMi.of (ret := (some .int)) (cc := cX4_nextToGo) (nL := 3) (own := RX4) (by decide +kernel) rfl [(0, .ref (ad 0)), (1, .int (nI b))] rfl (Nat.le_of_ble_eq_true rfl) rfl ?_
  intro A p e s m args below meth c C hmn
  refine z_aload_n C dX4_nextToGo_0 rfl 0 rfl ?_
  refine z_get C 0 rfl i_X4_nextToGo_X4 rfl 3 (by decide) m_X4_nextToGo_f29 rfl rfl dX4_nextToGo_1 ?_
  refine z_iload_n C dX4_nextToGo_4 rfl 1 rfl ?_
  refine z_iconst C (v := 0) dX4_nextToGo_5 (by decide) ?_
  rcases hq_1 : atQ (ordL pri mk) (isq wai frm b) 0 with _ | p_2
  · skip
    refine z_callVi C (T := Unit) (As := [.int (nI b), .int 0]) (rest := []) (ws' := fun _ => (wX ad cI cZ acc net tacc tnet flo bnd frm too amt pri wai byp ldr bor due plg clo pap cnd small price cut proc (nI mk) (nI lm) (nI le))) (c_X2_inQueue l sa D cI cZ cL ad acc net tacc tnet flo bnd frm too amt pri wai byp ldr bor due plg clo pap cnd small price cut proc mk lm le b 0 (by first | assumption | omega) (by first | assumption | omega) (by first | assumption | omega) (by first | assumption | omega) (by first | assumption | omega) (by first | assumption | omega)) (cwV 2 C.2.2.2.2.1 gX4_nextToGo_X2_inQueue rfl rfl rfl (by decide +kernel) ⟨Nat.le_of_ble_eq_true rfl, Nat.le_of_ble_eq_true rfl⟩) 4 rfl rfl rfl (fun _ => zSub.full) zIn.full rfl (Nat.le_of_ble_eq_true rfl) ⟨Nat.le_of_ble_eq_true rfl, Nat.le_of_ble_eq_true rfl⟩ dX4_nextToGo_6 (fun r_3 _ h_4 => ?_)
    obtain rfl : r_3 = (-1) := h_4.trans (by rw [hq_1]; rfl)
    refine z_istore_n C dX4_nextToGo_9 rfl (by decide) [(0, .ref (ad 0)), (1, .int (nI b)), (2, .int (-1))] [1, 2, 0] rfl ?_
    refine z_iload_n C dX4_nextToGo_10 rfl 2 rfl ?_
    refine z_iconst C (v := (-1)) dX4_nextToGo_11 (by decide) ?_
    refine z_icmp_eq C (tgt := 23) dX4_nextToGo_12 (by decide) (fun _ => ?_) (fun h => absurd h (by decide))
    refine z_iload_n C dX4_nextToGo_23 rfl 2 rfl ?_
    exact z_iret C () (by simp [nxtQ, oI, hq_1]) rfl (by decide) (by decide) dX4_nextToGo_24
  · skip
    have hm_p_2 := atQ_mem hq_1
    have := ordL_mem hm_p_2.1
    refine z_callVi C (T := Unit) (As := [.int (nI b), .int 0]) (rest := []) (ws' := fun _ => (wX ad cI cZ acc net tacc tnet flo bnd frm too amt pri wai byp ldr bor due plg clo pap cnd small price cut proc (nI mk) (nI lm) (nI le))) (c_X2_inQueue l sa D cI cZ cL ad acc net tacc tnet flo bnd frm too amt pri wai byp ldr bor due plg clo pap cnd small price cut proc mk lm le b 0 (by first | assumption | omega) (by first | assumption | omega) (by first | assumption | omega) (by first | assumption | omega) (by first | assumption | omega) (by first | assumption | omega)) (cwV 2 C.2.2.2.2.1 gX4_nextToGo_X2_inQueue rfl rfl rfl (by decide +kernel) ⟨Nat.le_of_ble_eq_true rfl, Nat.le_of_ble_eq_true rfl⟩) 4 rfl rfl rfl (fun _ => zSub.full) zIn.full rfl (Nat.le_of_ble_eq_true rfl) ⟨Nat.le_of_ble_eq_true rfl, Nat.le_of_ble_eq_true rfl⟩ dX4_nextToGo_6 (fun r_5 _ h_6 => ?_)
    obtain rfl : r_5 = (nI p_2) := h_6.trans (by rw [hq_1]; rfl)
    refine z_istore_n C dX4_nextToGo_9 rfl (by decide) [(0, .ref (ad 0)), (1, .int (nI b)), (2, .int (nI p_2))] [1, 2, 0] rfl ?_
    refine z_iload_n C dX4_nextToGo_10 rfl 2 rfl ?_
    refine z_iconst C (v := (-1)) dX4_nextToGo_11 (by decide) ?_
    refine z_icmp_eq C (tgt := 23) dX4_nextToGo_12 (by decide) (fun h => absurd h (nI_m1 (by omega))) (fun _ => ?_)
    refine z_aload_n C dX4_nextToGo_15 rfl 0 rfl ?_
    refine z_iload_n C dX4_nextToGo_16 rfl 2 rfl ?_
    refine z_callVi C (T := Unit) (As := [.int (nI p_2)]) (rest := []) (ws' := fun _ => (wX ad cI cZ acc net tacc tnet flo bnd frm too amt pri wai byp ldr bor due plg clo pap cnd small price cut proc (nI mk) (nI lm) (nI le))) (c_X4_obstacle l sa D cI cZ cL ad acc net tacc tnet flo bnd frm too amt pri wai byp ldr bor due plg clo pap cnd small price cut proc mk lm le p_2 (by first | assumption | omega) (by first | assumption | omega) (by first | assumption | omega) (by first | assumption | omega)) (cwV 1 C.2.2.2.2.1 gX4_nextToGo_X4_obstacle rfl rfl rfl (by decide +kernel) ⟨Nat.le_of_ble_eq_true rfl, Nat.le_of_ble_eq_true rfl⟩) 0 rfl rfl rfl (fun _ => zSub.full) zIn.full rfl (Nat.le_of_ble_eq_true rfl) ⟨Nat.le_of_ble_eq_true rfl, Nat.le_of_ble_eq_true rfl⟩ dX4_nextToGo_17 (fun r_7 _ h_8 => ?_)
    obtain rfl : r_7 = (obs acc net flo bnd frm too amt wai p_2) := h_8
    refine z_if_ne C (tgt := 25) dX4_nextToGo_20 (by decide) (fun c20_9 => ?_) (fun c20_9 => ?_)
    · skip
      refine z_aload_n C dX4_nextToGo_25 rfl 0 rfl ?_
      refine z_iload_n C dX4_nextToGo_26 rfl 1 rfl ?_
      rcases hq_10 : (ordL pri mk).find? (fsm acc net flo bnd frm too amt wai small b) with _ | p_11
      · skip
        refine z_callVi C (T := Unit) (As := [.int (nI b)]) (rest := []) (ws' := fun _ => (wX ad cI cZ acc net tacc tnet flo bnd frm too amt pri wai byp ldr bor due plg clo pap cnd small price cut proc (nI mk) (nI lm) (nI le))) (c_X4_firstSmallFree l sa D cI cZ cL ad acc net tacc tnet flo bnd frm too amt pri wai byp ldr bor due plg clo pap cnd small price cut proc mk lm le b (by first | assumption | omega) (by first | assumption | omega) (by first | assumption | omega) (by first | assumption | omega) (by first | assumption | omega)) (cwV 1 C.2.2.2.2.1 gX4_nextToGo_X4_firstSmallFree rfl rfl rfl (by decide +kernel) ⟨Nat.le_of_ble_eq_true rfl, Nat.le_of_ble_eq_true rfl⟩) 0 rfl rfl rfl (fun _ => zSub.full) zIn.full rfl (Nat.le_of_ble_eq_true rfl) ⟨Nat.le_of_ble_eq_true rfl, Nat.le_of_ble_eq_true rfl⟩ dX4_nextToGo_27 (fun r_12 _ h_13 => ?_)
        obtain rfl : r_12 = (-1) := h_13.trans (by rw [hq_10]; rfl)
        exact z_iret C () (by simp [nxtQ, oI, hq_1, c20_9, hq_10]) rfl (by decide) (by decide) dX4_nextToGo_30
      · skip
        have hm_p_11 := fd_mem hq_10
        have := ordL_mem hm_p_11.1
        refine z_callVi C (T := Unit) (As := [.int (nI b)]) (rest := []) (ws' := fun _ => (wX ad cI cZ acc net tacc tnet flo bnd frm too amt pri wai byp ldr bor due plg clo pap cnd small price cut proc (nI mk) (nI lm) (nI le))) (c_X4_firstSmallFree l sa D cI cZ cL ad acc net tacc tnet flo bnd frm too amt pri wai byp ldr bor due plg clo pap cnd small price cut proc mk lm le b (by first | assumption | omega) (by first | assumption | omega) (by first | assumption | omega) (by first | assumption | omega) (by first | assumption | omega)) (cwV 1 C.2.2.2.2.1 gX4_nextToGo_X4_firstSmallFree rfl rfl rfl (by decide +kernel) ⟨Nat.le_of_ble_eq_true rfl, Nat.le_of_ble_eq_true rfl⟩) 0 rfl rfl rfl (fun _ => zSub.full) zIn.full rfl (Nat.le_of_ble_eq_true rfl) ⟨Nat.le_of_ble_eq_true rfl, Nat.le_of_ble_eq_true rfl⟩ dX4_nextToGo_27 (fun r_14 _ h_15 => ?_)
        obtain rfl : r_14 = (nI p_11) := h_15.trans (by rw [hq_10]; rfl)
        exact z_iret C () (by simp [nxtQ, oI, hq_1, c20_9, hq_10]) rfl (by decide) (by decide) dX4_nextToGo_30
    · skip
      refine z_iload_n C dX4_nextToGo_23 rfl 2 rfl ?_
      exact z_iret C () (by simp [nxtQ, oI, hq_1, c20_9]) rfl (by decide) (by decide) dX4_nextToGo_24
set_option maxHeartbeats 4000000 in
set_option maxRecDepth 100000 in
theorem c_X4_goThroughBanks (l : Launch) (sa : Nat → Nat) (D : va_G) (cI cZ cL : ClassId) (ad : Nat → Nat) (acc net tacc tnet flo bnd frm too amt pri wai byp ldr bor due plg clo pap cnd : Nat → Int32) (small price cut proc : Int32) (mk lm le : Nat)  (hmk : mk ≤ 60) (hfrm : wf5 mk frm) (htoo : wf5 mk too) (hbyp : bypOK byp pri mk) : zMi (T := Unit) sa D vwCl (zty cI cZ cL) l yX4_goThroughBanks wsX4_goThroughBanks ({ frames := 4, cells := 0, slots := 0, locals := 90 } : Room) [.ref (ad 0)] (wX ad cI cZ acc net tacc tnet flo bnd frm too amt pri wai byp ldr bor due plg clo pap cnd small price cut proc (nI mk) (nI lm) (nI le)) (fun r9 _ => r9 = (nI ((passF (ordL pri mk) flo bnd frm too amt small acc net wai 5).2.2.2))) (fun _ => (wX ad cI cZ ((passF (ordL pri mk) flo bnd frm too amt small acc net wai 5).1) ((passF (ordL pri mk) flo bnd frm too amt small acc net wai 5).2.1) tacc tnet flo bnd frm too amt pri ((passF (ordL pri mk) flo bnd frm too amt small acc net wai 5).2.2.1) byp ldr bor due plg clo pap cnd small price cut proc (nI mk) (nI lm) (nI le))) 0 0 := by
  refine zMi.of (ret := (some .int)) (cc := cX4_goThroughBanks) (nL := 4) (own := RX4) (by decide +kernel) rfl [(0, .ref (ad 0))] rfl (Nat.le_of_ble_eq_true rfl) rfl ?_
  intro A p e s m args below meth c C hmn
  refine z_iconst C (v := 0) dX4_goThroughBanks_0 (by decide) ?_
  refine z_istore_n C dX4_goThroughBanks_1 rfl (by decide) [(0, .ref (ad 0)), (1, .int 0)] [1, 0] rfl ?_
  refine z_iconst C (v := 0) dX4_goThroughBanks_2 (by decide) ?_
  refine z_istore_n C dX4_goThroughBanks_3 rfl (by decide) [(0, .ref (ad 0)), (1, .int 0), (2, .int 0)] [1, 2, 0] rfl ?_
  have L4_k_1 : ∀ (n : Nat) (i : Nat), 5 - i < n → (i ≤ 5) → zW 0 p l e ({ frames := 4, cells := 0, slots := 0, locals := 90 } : Room) s m args below meth c (MQ below (zQi (T := Unit) D vwCl (zty cI cZ cL) A (fun r9 _ => r9 = (nI ((passF (ordL pri mk) flo bnd frm too amt small acc net wai 5).2.2.2))) (fun _ => (wX ad cI cZ ((passF (ordL pri mk) flo bnd frm too amt small acc net wai 5).1) ((passF (ordL pri mk) flo bnd frm too amt small acc net wai 5).2.1) tacc tnet flo bnd frm too amt pri ((passF (ordL pri mk) flo bnd frm too amt small acc net wai 5).2.2.1) byp ldr bor due plg clo pap cnd small price cut proc (nI mk) (nI lm) (nI le)))) args s 0 0 A) D vwCl A 4 0 0 (wX ad cI cZ ((passF (ordL pri mk) flo bnd frm too amt small acc net wai i).1) ((passF (ordL pri mk) flo bnd frm too amt small acc net wai i).2.1) tacc tnet flo bnd frm too amt pri ((passF (ordL pri mk) flo bnd frm too amt small acc net wai i).2.2.1) byp ldr bor due plg clo pap cnd small price cut proc (nI mk) (nI lm) (nI le)) [(0, .ref (ad 0)), (1, .int (nI ((passF (ordL pri mk) flo bnd frm too amt small acc net wai i).2.2.2))), (2, .int (nI i))] 4 [] := by
    intro n
    induction n with
    | zero => intros; omega
    | succ n ih_2 =>
      intro i hm_3 hi
      refine z_iload_n C dX4_goThroughBanks_4 rfl 2 rfl ?_
      refine z_iconst C (v := 5) dX4_goThroughBanks_5 (by decide) ?_
      refine z_icmp_ge C (tgt := 34) dX4_goThroughBanks_6 (by decide) (fun c6_4 => ?_) (fun c6_4 => ?_)
      · skip
        have n_5 : 5 ≤ i := (nI_leI (a := 5) (b := i) (by omega) (by omega)).mp c6_4
        refine z_iload_n C dX4_goThroughBanks_34 rfl 1 rfl ?_
        exact z_iret C () (by rw [show i = 5 by omega]) (by rw [show i = 5 by omega]) (by decide) (by decide) dX4_goThroughBanks_35
      · skip
        have n_6 : ¬ 5 ≤ i := fun q => c6_4 ((nI_leI (a := 5) (b := i) (by omega) (by omega)).mpr q)
        refine z_aload_n C dX4_goThroughBanks_9 rfl 0 rfl ?_
        refine z_iload_n C dX4_goThroughBanks_10 rfl 2 rfl ?_
        rcases hq_7 : nxtQ (ordL pri mk) ((passF (ordL pri mk) flo bnd frm too amt small acc net wai i).1) ((passF (ordL pri mk) flo bnd frm too amt small acc net wai i).2.1) flo bnd frm too amt ((passF (ordL pri mk) flo bnd frm too amt small acc net wai i).2.2.1) small i with _ | p_8
        · skip
          refine z_callVi C (T := Unit) (As := [.int (nI i)]) (rest := []) (ws' := fun _ => (wX ad cI cZ ((passF (ordL pri mk) flo bnd frm too amt small acc net wai i).1) ((passF (ordL pri mk) flo bnd frm too amt small acc net wai i).2.1) tacc tnet flo bnd frm too amt pri ((passF (ordL pri mk) flo bnd frm too amt small acc net wai i).2.2.1) byp ldr bor due plg clo pap cnd small price cut proc (nI mk) (nI lm) (nI le))) (c_X4_nextToGo l sa D cI cZ cL ad ((passF (ordL pri mk) flo bnd frm too amt small acc net wai i).1) ((passF (ordL pri mk) flo bnd frm too amt small acc net wai i).2.1) tacc tnet flo bnd frm too amt pri ((passF (ordL pri mk) flo bnd frm too amt small acc net wai i).2.2.1) byp ldr bor due plg clo pap cnd small price cut proc mk lm le i (by first | assumption | omega) (by first | assumption | omega) (by first | assumption | omega) (by first | assumption | omega) (by first | assumption | omega)) (cwV 1 C.2.2.2.2.1 gX4_goThroughBanks_X4_nextToGo rfl rfl rfl (by decide +kernel) ⟨Nat.le_of_ble_eq_true rfl, Nat.le_of_ble_eq_true rfl⟩) 0 rfl rfl rfl (fun _ => zSub.full) zIn.full rfl (Nat.le_of_ble_eq_true rfl) ⟨Nat.le_of_ble_eq_true rfl, Nat.le_of_ble_eq_true rfl⟩ dX4_goThroughBanks_11 (fun r_9 _ h_10 => ?_)
          obtain rfl : r_9 = (-1) := h_10.trans (by rw [hq_7]; rfl)
          refine z_istore_n C dX4_goThroughBanks_14 rfl (by decide) [(0, .ref (ad 0)), (1, .int (nI ((passF (ordL pri mk) flo bnd frm too amt small acc net wai i).2.2.2))), (2, .int (nI i)), (3, .int (-1))] [1, 2, 3, 0] rfl ?_
          refine z_iload_n C dX4_goThroughBanks_15 rfl 3 rfl ?_
          refine z_iconst C (v := (-1)) dX4_goThroughBanks_16 (by decide) ?_
          refine z_icmp_eq C (tgt := 28) dX4_goThroughBanks_17 (by decide) (fun _ => ?_) (fun h => absurd h (by decide))
          refine z_iinc C (v := (nI (i + 1))) dX4_goThroughBanks_28 2 rfl (nI_add i 1) (by decide) [(0, .ref (ad 0)), (1, .int (nI ((passF (ordL pri mk) flo bnd frm too amt small acc net wai i).2.2.2))), (2, .int (nI (i + 1))), (3, .int (-1))] [1, 2, 0, 3] rfl ?_
          refine z_goto C (tgt := 4) dX4_goThroughBanks_31 (by decide) ?_
          refine z_lv [(0, .ref (ad 0)), (1, .int (nI ((passF (ordL pri mk) flo bnd frm too amt small acc net wai i).2.2.2))), (2, .int (nI (i + 1)))] [0, 1, 2] rfl ?_
          refine z_ws (wX ad cI cZ ((passF (ordL pri mk) flo bnd frm too amt small acc net wai (i + 1)).1) ((passF (ordL pri mk) flo bnd frm too amt small acc net wai (i + 1)).2.1) tacc tnet flo bnd frm too amt pri ((passF (ordL pri mk) flo bnd frm too amt small acc net wai (i + 1)).2.2.1) byp ldr bor due plg clo pap cnd small price cut proc (nI mk) (nI lm) (nI le)) (by simp only [passF, c6_4, n_6, hq_7]) ?_
          refine z_lveq [(0, .ref (ad 0)), (1, .int (nI ((passF (ordL pri mk) flo bnd frm too amt small acc net wai (i + 1)).2.2.2))), (2, .int (nI (i + 1)))] (by simp only [passF, c6_4, n_6, hq_7]) ?_
          exact ih_2 (i + 1) (by omega) (by first | assumption | omega)
        · skip
          have hm_p_8 := nxtQ_mem hq_7
          have := hm_p_8.1
          refine z_callVi C (T := Unit) (As := [.int (nI i)]) (rest := []) (ws' := fun _ => (wX ad cI cZ ((passF (ordL pri mk) flo bnd frm too amt small acc net wai i).1) ((passF (ordL pri mk) flo bnd frm too amt small acc net wai i).2.1) tacc tnet flo bnd frm too amt pri ((passF (ordL pri mk) flo bnd frm too amt small acc net wai i).2.2.1) byp ldr bor due plg clo pap cnd small price cut proc (nI mk) (nI lm) (nI le))) (c_X4_nextToGo l sa D cI cZ cL ad ((passF (ordL pri mk) flo bnd frm too amt small acc net wai i).1) ((passF (ordL pri mk) flo bnd frm too amt small acc net wai i).2.1) tacc tnet flo bnd frm too amt pri ((passF (ordL pri mk) flo bnd frm too amt small acc net wai i).2.2.1) byp ldr bor due plg clo pap cnd small price cut proc mk lm le i (by first | assumption | omega) (by first | assumption | omega) (by first | assumption | omega) (by first | assumption | omega) (by first | assumption | omega)) (cwV 1 C.2.2.2.2.1 gX4_goThroughBanks_X4_nextToGo rfl rfl rfl (by decide +kernel) ⟨Nat.le_of_ble_eq_true rfl, Nat.le_of_ble_eq_true rfl⟩) 0 rfl rfl rfl (fun _ => zSub.full) zIn.full rfl (Nat.le_of_ble_eq_true rfl) ⟨Nat.le_of_ble_eq_true rfl, Nat.le_of_ble_eq_true rfl⟩ dX4_goThroughBanks_11 (fun r_11 _ h_12 => ?_)
          obtain rfl : r_11 = (nI p_8) := h_12.trans (by rw [hq_7]; rfl)
          refine z_istore_n C dX4_goThroughBanks_14 rfl (by decide) [(0, .ref (ad 0)), (1, .int (nI ((passF (ordL pri mk) flo bnd frm too amt small acc net wai i).2.2.2))), (2, .int (nI i)), (3, .int (nI p_8))] [1, 2, 3, 0] rfl ?_
          refine z_iload_n C dX4_goThroughBanks_15 rfl 3 rfl ?_
          refine z_iconst C (v := (-1)) dX4_goThroughBanks_16 (by decide) ?_
          refine z_icmp_eq C (tgt := 28) dX4_goThroughBanks_17 (by decide) (fun h => absurd h (nI_m1 (by omega))) (fun _ => ?_)
          refine z_aload_n C dX4_goThroughBanks_20 rfl 0 rfl ?_
          refine z_iload_n C dX4_goThroughBanks_21 rfl 3 rfl ?_
          refine z_callVv C (T := Unit) (As := [.int (nI p_8)]) (rest := []) (ws' := fun _ => (wX ad cI cZ (mvA (ix (frm p_8)) (ix (too p_8)) (amt p_8) ((passF (ordL pri mk) flo bnd frm too amt small acc net wai i).1)) (mvN (ix (frm p_8)) (ix (too p_8)) (amt p_8) ((passF (ordL pri mk) flo bnd frm too amt small acc net wai i).2.1)) tacc tnet flo bnd frm too amt pri (upd ((passF (ordL pri mk) flo bnd frm too amt small acc net wai i).2.2.1) p_8 0) byp ldr bor due plg clo pap cnd small price cut proc (nI mk) (nI lm) (nI le))) (c_X4_send l sa D cI cZ cL ad ((passF (ordL pri mk) flo bnd frm too amt small acc net wai i).1) ((passF (ordL pri mk) flo bnd frm too amt small acc net wai i).2.1) tacc tnet flo bnd frm too amt pri ((passF (ordL pri mk) flo bnd frm too amt small acc net wai i).2.2.1) byp ldr bor due plg clo pap cnd small price cut proc mk lm le p_8 (by first | assumption | omega) (by first | assumption | omega) (by first | assumption | omega) (by first | assumption | omega)) (cwV 1 C.2.2.2.2.1 gX4_goThroughBanks_X4_send rfl rfl rfl (by decide +kernel) ⟨Nat.le_of_ble_eq_true rfl, Nat.le_of_ble_eq_true rfl⟩) 0 rfl rfl rfl (fun _ => zSub.full) zIn.full rfl (Nat.le_of_ble_eq_true rfl) ⟨Nat.le_of_ble_eq_true rfl, Nat.le_of_ble_eq_true rfl⟩ dX4_goThroughBanks_22 (fun _ _ => ?_)
          refine z_iinc C (v := (nI (((passF (ordL pri mk) flo bnd frm too amt small acc net wai i).2.2.2) + 1))) dX4_goThroughBanks_25 1 rfl (nI_add ((passF (ordL pri mk) flo bnd frm too amt small acc net wai i).2.2.2) 1) (by decide) [(0, .ref (ad 0)), (1, .int (nI (((passF (ordL pri mk) flo bnd frm too amt small acc net wai i).2.2.2) + 1))), (2, .int (nI i)), (3, .int (nI p_8))] [1, 0, 2, 3] rfl ?_
          refine z_iinc C (v := (nI (i + 1))) dX4_goThroughBanks_28 2 rfl (nI_add i 1) (by decide) [(0, .ref (ad 0)), (1, .int (nI (((passF (ordL pri mk) flo bnd frm too amt small acc net wai i).2.2.2) + 1))), (2, .int (nI (i + 1))), (3, .int (nI p_8))] [1, 2, 0, 3] rfl ?_
          refine z_goto C (tgt := 4) dX4_goThroughBanks_31 (by decide) ?_
          refine z_lv [(0, .ref (ad 0)), (1, .int (nI (((passF (ordL pri mk) flo bnd frm too amt small acc net wai i).2.2.2) + 1))), (2, .int (nI (i + 1)))] [0, 1, 2] rfl ?_
          refine z_ws (wX ad cI cZ ((passF (ordL pri mk) flo bnd frm too amt small acc net wai (i + 1)).1) ((passF (ordL pri mk) flo bnd frm too amt small acc net wai (i + 1)).2.1) tacc tnet flo bnd frm too amt pri ((passF (ordL pri mk) flo bnd frm too amt small acc net wai (i + 1)).2.2.1) byp ldr bor due plg clo pap cnd small price cut proc (nI mk) (nI lm) (nI le)) (by simp only [passF, c6_4, n_6, hq_7]) ?_
          refine z_lveq [(0, .ref (ad 0)), (1, .int (nI ((passF (ordL pri mk) flo bnd frm too amt small acc net wai (i + 1)).2.2.2))), (2, .int (nI (i + 1)))] (by simp only [passF, c6_4, n_6, hq_7]) ?_
          exact ih_2 (i + 1) (by omega) (by first | assumption | omega)
  refine z_ws (wX ad cI cZ ((passF (ordL pri mk) flo bnd frm too amt small acc net wai 0).1) ((passF (ordL pri mk) flo bnd frm too amt small acc net wai 0).2.1) tacc tnet flo bnd frm too amt pri ((passF (ordL pri mk) flo bnd frm too amt small acc net wai 0).2.2.1) byp ldr bor due plg clo pap cnd small price cut proc (nI mk) (nI lm) (nI le)) (by rfl) ?_
  refine z_lveq [(0, .ref (ad 0)), (1, .int (nI ((passF (ordL pri mk) flo bnd frm too amt small acc net wai 0).2.2.2))), (2, .int (nI 0))] (by rfl) ?_
  exact L4_k_1 (5 - 0 + 1) 0 (Nat.lt_succ_self _) (by first | assumption | omega)
