theorem m_X2_enter_f31 : Cond.fieldLink RX2 31 "Queuefloat$Payments" "made" "I" ∈ wsX2_enter := by decide +kernel
theorem i_X2_enter_X2 : ∀ w ∈ wsX20, w ∈ wsX2_enter := by decide +kernel
theorem m_X2_enter_f9 : Cond.fieldLink RX2 9 "Queuefloat$Payments" "from" "[I" ∈ wsX2_enter := by decide +kernel
theorem m_X2_enter_f15 : Cond.fieldLink RX2 15 "Queuefloat$Payments" "to" "[I" ∈ wsX2_enter := by decide +kernel
theorem m_X2_enter_f18 : Cond.fieldLink RX2 18 "Queuefloat$Payments" "amount" "[I" ∈ wsX2_enter := by decide +kernel
theorem m_X2_enter_f21 : Cond.fieldLink RX2 21 "Queuefloat$Payments" "priorityOf" "[I" ∈ wsX2_enter := by decide +kernel
theorem m_X2_enter_f24 : Cond.fieldLink RX2 24 "Queuefloat$Payments" "waits" "[Z" ∈ wsX2_enter := by decide +kernel
theorem m_X2_enter_f28 : Cond.fieldLink RX2 28 "Queuefloat$Payments" "byPriority" "[I" ∈ wsX2_enter := by decide +kernel
theorem m_X1_enter_f24 : Cond.fieldLink RX1 24 "Queuefloat$Loans" "made" "I" ∈ wsX1_enter := by decide +kernel
theorem i_X1_enter_X1 : ∀ w ∈ wsX10, w ∈ wsX1_enter := by decide +kernel
theorem m_X1_enter_f9 : Cond.fieldLink RX1 9 "Queuefloat$Loans" "lender" "[I" ∈ wsX1_enter := by decide +kernel
theorem m_X1_enter_f15 : Cond.fieldLink RX1 15 "Queuefloat$Loans" "borrower" "[I" ∈ wsX1_enter := by decide +kernel
theorem m_X1_enter_f18 : Cond.fieldLink RX1 18 "Queuefloat$Loans" "due" "[I" ∈ wsX1_enter := by decide +kernel
theorem m_X1_enter_f21 : Cond.fieldLink RX1 21 "Queuefloat$Loans" "pledge" "[I" ∈ wsX1_enter := by decide +kernel
theorem m_X4_sendLargestSet_f48 : Cond.fieldLink RX4 48 "Queuefloat" "candidates" "[I" ∈ wsX4_sendLargestSet := by decide +kernel
theorem i_X4_sendLargestSet_X4 : ∀ w ∈ wsX40, w ∈ wsX4_sendLargestSet := by decide +kernel
theorem m_X4_sendLargestSet_f29 : Cond.fieldLink RX4 29 "Queuefloat" "payments" "LQueuefloat$Payments;" ∈ wsX4_sendLargestSet := by decide +kernel
set_option maxHeartbeats 4000000 in
set_option maxRecDepth 100000 in
theorem c_X2_enter (l : Launch) (sa : Nat → Nat) (D : va_G) (cI cZ cL : ClassId) (ad : Nat → Nat) (acc net tacc tnet flo bnd frm too amt pri wai byp ldr bor due plg clo pap cnd : Nat → Int32) (small price cut proc : Int32) (mk lm le : Nat) (f : Nat) (t : Nat) (x : Int32) (r : Nat) (hf : f < 5) (ht : t < 5) (hr : r < 3) (hmk : mk < 60) (hpri : wf3 mk pri) (hbyp : bypOK byp pri mk) : zMi (T := Nat → Int32) sa D vwCl (zty cI cZ cL) l yX2_enter wsX2_enter ({ frames := 0, cells := 0, slots := 0, locals := 0 } : Room) [.ref (ad 4), .int (nI f), .int (nI t), .int x, .int (nI r)] (wX ad cI cZ acc net tacc tnet flo bnd frm too amt pri wai byp ldr bor due plg clo pap cnd small price cut proc (nI mk) (nI lm) (nI le)) (fun r9 u => r9 = (nI mk) ∧ bypOK u (upd pri mk (nI r)) (mk + 1)) (fun u => (wX ad cI cZ acc net tacc tnet flo bnd (upd frm mk (nI f)) (upd too mk (nI t)) (upd amt mk x) (upd pri mk (nI r)) (upd wai mk 1) u ldr bor due plg clo pap cnd small price cut proc (nI (mk + 1)) (nI lm) (nI le))) 0 0 := by
  refine zMi.of (ret := (some .int)) (cc := cX2_enter) (nL := 7) (own := RX2) (by decide +kernel) rfl [(0, .ref (ad 4)), (1, .int (nI f)), (2, .int (nI t)), (3, .int x), (4, .int (nI r))] rfl (Nat.le_of_ble_eq_true rfl) rfl ?_
  intro A p e s m args below meth c C hmn
  refine z_aload_n C dX2_enter_0 rfl 0 rfl ?_
  refine z_get C 4 rfl i_X2_enter_X2 rfl 6 (by decide) m_X2_enter_f31 rfl rfl dX2_enter_1 ?_
  refine z_istore C dX2_enter_4 (by decide) [(0, .ref (ad 4)), (1, .int (nI f)), (2, .int (nI t)), (3, .int x), (4, .int (nI r)), (5, .int (nI mk))] [1, 2, 3, 4, 5, 0] rfl ?_
  refine z_aload_n C dX2_enter_6 rfl 0 rfl ?_
  refine z_get C 4 rfl i_X2_enter_X2 rfl 0 (by decide) m_X2_enter_f9 rfl rfl dX2_enter_7 ?_
  refine z_iload C dX2_enter_10 5 rfl ?_
  refine z_iload_n C dX2_enter_12 rfl 1 rfl ?_
  refine z_iast C 12 0 rfl rfl mk (nI_clamp (by omega)) (vp_in_nI (by omega) (by omega)) (nI f) rfl dX2_enter_13 (wX ad cI cZ acc net tacc tnet flo bnd (upd frm mk (nI f)) too amt pri wai byp ldr bor due plg clo pap cnd small price cut proc (nI mk) (nI lm) (nI le)) rfl ?_
  refine z_aload_n C dX2_enter_14 rfl 0 rfl ?_
  refine z_get C 4 rfl i_X2_enter_X2 rfl 1 (by decide) m_X2_enter_f15 rfl rfl dX2_enter_15 ?_
  refine z_iload C dX2_enter_18 5 rfl ?_
  refine z_iload_n C dX2_enter_20 rfl 2 rfl ?_
  refine z_iast C 13 0 rfl rfl mk (nI_clamp (by omega)) (vp_in_nI (by omega) (by omega)) (nI t) rfl dX2_enter_21 (wX ad cI cZ acc net tacc tnet flo bnd (upd frm mk (nI f)) (upd too mk (nI t)) amt pri wai byp ldr bor due plg clo pap cnd small price cut proc (nI mk) (nI lm) (nI le)) rfl ?_
  refine z_aload_n C dX2_enter_22 rfl 0 rfl ?_
  refine z_get C 4 rfl i_X2_enter_X2 rfl 2 (by decide) m_X2_enter_f18 rfl rfl dX2_enter_23 ?_
  refine z_iload C dX2_enter_26 5 rfl ?_
  refine z_iload_n C dX2_enter_28 rfl 3 rfl ?_
  refine z_iast C 14 0 rfl rfl mk (nI_clamp (by omega)) (vp_in_nI (by omega) (by omega)) x rfl dX2_enter_29 (wX ad cI cZ acc net tacc tnet flo bnd (upd frm mk (nI f)) (upd too mk (nI t)) (upd amt mk x) pri wai byp ldr bor due plg clo pap cnd small price cut proc (nI mk) (nI lm) (nI le)) rfl ?_
  refine z_aload_n C dX2_enter_30 rfl 0 rfl ?_
  refine z_get C 4 rfl i_X2_enter_X2 rfl 3 (by decide) m_X2_enter_f21 rfl rfl dX2_enter_31 ?_
  refine z_iload C dX2_enter_34 5 rfl ?_
  refine z_iload C dX2_enter_36 4 rfl ?_
  refine z_iast C 15 0 rfl rfl mk (nI_clamp (by omega)) (vp_in_nI (by omega) (by omega)) (nI r) rfl dX2_enter_38 (wX ad cI cZ acc net tacc tnet flo bnd (upd frm mk (nI f)) (upd too mk (nI t)) (upd amt mk x) (upd pri mk (nI r)) wai byp ldr bor due plg clo pap cnd small price cut proc (nI mk) (nI lm) (nI le)) rfl ?_
  refine z_aload_n C dX2_enter_39 rfl 0 rfl ?_
  refine z_get C 4 rfl i_X2_enter_X2 rfl 4 (by decide) m_X2_enter_f24 rfl rfl dX2_enter_40 ?_
  refine z_iload C dX2_enter_43 5 rfl ?_
  refine z_iconst C (v := 1) dX2_enter_45 (by decide) ?_
  refine z_zast C 16 1 rfl rfl mk (nI_clamp (by omega)) (vp_in_nI (by omega) (by omega)) 1 (by decide) dX2_enter_46 (wX ad cI cZ acc net tacc tnet flo bnd (upd frm mk (nI f)) (upd too mk (nI t)) (upd amt mk x) (upd pri mk (nI r)) (upd wai mk 1) byp ldr bor due plg clo pap cnd small price cut proc (nI mk) (nI lm) (nI le)) rfl ?_
  refine z_aload_n C dX2_enter_47 rfl 0 rfl ?_
  refine z_get C 4 rfl i_X2_enter_X2 rfl 6 (by decide) m_X2_enter_f31 rfl rfl dX2_enter_48 ?_
  refine z_istore C dX2_enter_51 (by decide) [(0, .ref (ad 4)), (1, .int (nI f)), (2, .int (nI t)), (3, .int x), (4, .int (nI r)), (5, .int (nI mk)), (6, .int (nI mk))] [1, 2, 3, 4, 5, 6, 0] rfl ?_
  have L53_k_1 : ∀ (n : Nat) (j : Nat), j < n → (j ≤ mk) → (∀ i p9, j ≤ i → (ordL pri mk)[i]? = some p9 → ix (pri p9) < r) → zW 0 p l e ({ frames := 0, cells := 0, slots := 0, locals := 0 } : Room) s m args below meth c (MQ below (zQi (T := Nat → Int32) D vwCl (zty cI cZ cL) A (fun r9 u => r9 = (nI mk) ∧ bypOK u (upd pri mk (nI r)) (mk + 1)) (fun u => (wX ad cI cZ acc net tacc tnet flo bnd (upd frm mk (nI f)) (upd too mk (nI t)) (upd amt mk x) (upd pri mk (nI r)) (upd wai mk 1) u ldr bor due plg clo pap cnd small price cut proc (nI (mk + 1)) (nI lm) (nI le)))) args s 0 0 A) D vwCl A 7 0 0 (wX ad cI cZ acc net tacc tnet flo bnd (upd frm mk (nI f)) (upd too mk (nI t)) (upd amt mk x) (upd pri mk (nI r)) (upd wai mk 1) (insP byp mk j) ldr bor due plg clo pap cnd small price cut proc (nI mk) (nI lm) (nI le)) [(0, .ref (ad 4)), (1, .int (nI f)), (2, .int (nI t)), (3, .int x), (4, .int (nI r)), (5, .int (nI mk)), (6, .int (nI j))] 53 [] := by
    intro n
    induction n with
    | zero => intros; omega
    | succ n ih_2 =>
      intro j hm_3 hj hj2
      refine z_iload C dX2_enter_53 6 rfl ?_
      refine z_if_le C (tgt := 99) dX2_enter_55 (by decide) (fun c55_4 => ?_) (fun c55_4 => ?_)
      · skip
        have n_5 : j ≤ 0 := (nI_leI (a := j) (b := 0) (by omega) (by omega)).mp c55_4
        refine z_aload_n C dX2_enter_99 rfl 0 rfl ?_
        refine z_get C 4 rfl i_X2_enter_X2 rfl 5 (by decide) m_X2_enter_f28 rfl rfl dX2_enter_100 ?_
        refine z_iload C dX2_enter_103 6 rfl ?_
        refine z_iload C dX2_enter_105 5 rfl ?_
        refine z_iast C 17 0 rfl rfl j (nI_clamp (by omega)) (vp_in_nI (by omega) (by omega)) (nI mk) rfl dX2_enter_107 (wX ad cI cZ acc net tacc tnet flo bnd (upd frm mk (nI f)) (upd too mk (nI t)) (upd amt mk x) (upd pri mk (nI r)) (upd wai mk 1) (upd (insP byp mk j) j (nI mk)) ldr bor due plg clo pap cnd small price cut proc (nI mk) (nI lm) (nI le)) rfl ?_
        refine z_aload_n C dX2_enter_108 rfl 0 rfl ?_
        refine z_dup C dX2_enter_109 rfl ?_
        refine z_get C 4 rfl i_X2_enter_X2 rfl 6 (by decide) m_X2_enter_f31 rfl rfl dX2_enter_110 ?_
        refine z_iconst C (v := 1) dX2_enter_113 (by decide) ?_
        refine z_iadd C (v := (nI (mk + 1))) dX2_enter_114 (nI_add mk 1) ?_
        refine z_put C 4 rfl i_X2_enter_X2 rfl 6 (by decide) m_X2_enter_f31 rfl tyX2 tyX2_ok nmX2 rfl (ty := .int) (by decide +kernel) rfl rfl (Nat.le_of_ble_eq_true rfl) dX2_enter_115 (wX ad cI cZ acc net tacc tnet flo bnd (upd frm mk (nI f)) (upd too mk (nI t)) (upd amt mk x) (upd pri mk (nI r)) (upd wai mk 1) (upd (insP byp mk j) j (nI mk)) ldr bor due plg clo pap cnd small price cut proc (nI (mk + 1)) (nI lm) (nI le)) rfl ?_
        refine z_iload C dX2_enter_118 5 rfl ?_
        exact z_iret C (upd (insP byp mk j) j (nI mk)) (by exact ⟨rfl, ins_ok hr hpri hbyp hj (fun i p9 hi hp9 => absurd hi (by omega)) hj2⟩) rfl (by decide) (by decide) dX2_enter_120
      · skip
        have n_6 : ¬ j ≤ 0 := fun q => c55_4 ((nI_leI (a := j) (b := 0) (by omega) (by omega)).mpr q)
        refine z_aload_n C dX2_enter_58 rfl 0 rfl ?_
        refine z_get C 4 rfl i_X2_enter_X2 rfl 3 (by decide) m_X2_enter_f21 rfl rfl dX2_enter_59 ?_
        refine z_aload_n C dX2_enter_62 rfl 0 rfl ?_
        refine z_get C 4 rfl i_X2_enter_X2 rfl 5 (by decide) m_X2_enter_f28 rfl rfl dX2_enter_63 ?_
        refine z_iload C dX2_enter_66 6 rfl ?_
        refine z_iconst C (v := 1) dX2_enter_68 (by decide) ?_
        refine z_isub C (v := (nI (j - 1))) dX2_enter_69 (pk_sub (a := j) (b := 1) (by omega)) ?_
        obtain ⟨q_byp, hq_byp⟩ := hbyp (j - 1) (by omega)
        have hq_lt := ordL_mem (List.mem_of_getElem? hq_byp.1)
        refine z_iald C 17 0 rfl rfl (j - 1) (nI_clamp (by omega)) (vp_in_nI (by omega) (by omega)) (nI q_byp) (by rw [insP_at (by omega)]; exact hq_byp.2) dX2_enter_70 ?_
        have hq_3 := (hpri q_byp (by omega)).2
        refine z_iald C 15 0 rfl rfl q_byp (nI_clamp (by omega)) (vp_in_nI (by omega) (by omega)) (nI (ix (pri q_byp))) (upd_ne (by omega) (hpri q_byp (by omega)).1) dX2_enter_71 ?_
        refine z_iload C dX2_enter_72 4 rfl ?_
        refine z_icmp_ge C (tgt := 99) dX2_enter_74 (by decide) (fun c74_7 => ?_) (fun c74_7 => ?_)
        · skip
          have n_8 : r ≤ (ix (pri q_byp)) := (nI_leI (a := r) (b := ix (pri q_byp)) (by omega) (by omega)).mp c74_7
          refine z_aload_n C dX2_enter_99 rfl 0 rfl ?_
          refine z_get C 4 rfl i_X2_enter_X2 rfl 5 (by decide) m_X2_enter_f28 rfl rfl dX2_enter_100 ?_
          refine z_iload C dX2_enter_103 6 rfl ?_
          refine z_iload C dX2_enter_105 5 rfl ?_
          refine z_iast C 17 0 rfl rfl j (nI_clamp (by omega)) (vp_in_nI (by omega) (by omega)) (nI mk) rfl dX2_enter_107 (wX ad cI cZ acc net tacc tnet flo bnd (upd frm mk (nI f)) (upd too mk (nI t)) (upd amt mk x) (upd pri mk (nI r)) (upd wai mk 1) (upd (insP byp mk j) j (nI mk)) ldr bor due plg clo pap cnd small price cut proc (nI mk) (nI lm) (nI le)) rfl ?_
          refine z_aload_n C dX2_enter_108 rfl 0 rfl ?_
          refine z_dup C dX2_enter_109 rfl ?_
          refine z_get C 4 rfl i_X2_enter_X2 rfl 6 (by decide) m_X2_enter_f31 rfl rfl dX2_enter_110 ?_
          refine z_iconst C (v := 1) dX2_enter_113 (by decide) ?_
          refine z_iadd C (v := (nI (mk + 1))) dX2_enter_114 (nI_add mk 1) ?_
          refine z_put C 4 rfl i_X2_enter_X2 rfl 6 (by decide) m_X2_enter_f31 rfl tyX2 tyX2_ok nmX2 rfl (ty := .int) (by decide +kernel) rfl rfl (Nat.le_of_ble_eq_true rfl) dX2_enter_115 (wX ad cI cZ acc net tacc tnet flo bnd (upd frm mk (nI f)) (upd too mk (nI t)) (upd amt mk x) (upd pri mk (nI r)) (upd wai mk 1) (upd (insP byp mk j) j (nI mk)) ldr bor due plg clo pap cnd small price cut proc (nI (mk + 1)) (nI lm) (nI le)) rfl ?_
          refine z_iload C dX2_enter_118 5 rfl ?_
          exact z_iret C (upd (insP byp mk j) j (nI mk)) (by exact ⟨rfl, ins_ok hr hpri hbyp hj (fun i p9 hi hp9 => by have := ordL_le (pri := pri) (show i ≤ j - 1 by omega) hp9 hq_byp.1; omega) hj2⟩) rfl (by decide) (by decide) dX2_enter_120
        · skip
          have n_9 : ¬ r ≤ (ix (pri q_byp)) := fun q => c74_7 ((nI_leI (a := r) (b := ix (pri q_byp)) (by omega) (by omega)).mpr q)
          refine z_aload_n C dX2_enter_77 rfl 0 rfl ?_
          refine z_get C 4 rfl i_X2_enter_X2 rfl 5 (by decide) m_X2_enter_f28 rfl rfl dX2_enter_78 ?_
          refine z_iload C dX2_enter_81 6 rfl ?_
          refine z_aload_n C dX2_enter_83 rfl 0 rfl ?_
          refine z_get C 4 rfl i_X2_enter_X2 rfl 5 (by decide) m_X2_enter_f28 rfl rfl dX2_enter_84 ?_
          refine z_iload C dX2_enter_87 6 rfl ?_
          refine z_iconst C (v := 1) dX2_enter_89 (by decide) ?_
          refine z_isub C (v := (nI (j - 1))) dX2_enter_90 (pk_sub (a := j) (b := 1) (by omega)) ?_
          refine z_iald C 17 0 rfl rfl (j - 1) (nI_clamp (by omega)) (vp_in_nI (by omega) (by omega)) (nI q_byp) (by rw [insP_at (by omega)]; exact hq_byp.2) dX2_enter_91 ?_
          refine z_iast C 17 0 rfl rfl j (nI_clamp (by omega)) (vp_in_nI (by omega) (by omega)) (nI q_byp) rfl dX2_enter_92 (wX ad cI cZ acc net tacc tnet flo bnd (upd frm mk (nI f)) (upd too mk (nI t)) (upd amt mk x) (upd pri mk (nI r)) (upd wai mk 1) (upd (insP byp mk j) j (nI q_byp)) ldr bor due plg clo pap cnd small price cut proc (nI mk) (nI lm) (nI le)) rfl ?_
          refine z_iinc C (v := (nI (j - 1))) dX2_enter_93 6 rfl (z_dec (by omega)) (by decide) [(0, .ref (ad 4)), (1, .int (nI f)), (2, .int (nI t)), (3, .int x), (4, .int (nI r)), (5, .int (nI mk)), (6, .int (nI (j - 1)))] [1, 2, 3, 4, 5, 6, 0] rfl ?_
          refine z_goto C (tgt := 53) dX2_enter_96 (by decide) ?_
          refine z_ws (wX ad cI cZ acc net tacc tnet flo bnd (upd frm mk (nI f)) (upd too mk (nI t)) (upd amt mk x) (upd pri mk (nI r)) (upd wai mk 1) (insP byp mk (j - 1)) ldr bor due plg clo pap cnd small price cut proc (nI mk) (nI lm) (nI le)) (by rw [insP_s (by omega) (by omega) hq_byp.2]) ?_
          exact ih_2 (j - 1) (by omega) (by first | assumption | omega) (by exact hj2_s (P := fun p9 => ix (pri p9) < r) (by omega) hq_byp.1 (by omega) hj2)
  refine z_ws (wX ad cI cZ acc net tacc tnet flo bnd (upd frm mk (nI f)) (upd too mk (nI t)) (upd amt mk x) (upd pri mk (nI r)) (upd wai mk 1) (insP byp mk mk) ldr bor due plg clo pap cnd small price cut proc (nI mk) (nI lm) (nI le)) (by rw [insP_0]) ?_
  exact L53_k_1 (mk + 1) mk (Nat.lt_succ_self _) (by first | assumption | omega) (by intro i p9 hi hp9; have := ordL_len pri mk; have := (List.getElem?_eq_some_iff.mp hp9).1; omega)
set_option maxHeartbeats 4000000 in
set_option maxRecDepth 100000 in
theorem c_X1_enter (l : Launch) (sa : Nat → Nat) (D : va_G) (cI cZ cL : ClassId) (ad : Nat → Nat) (acc net tacc tnet flo bnd frm too amt pri wai byp ldr bor due plg clo pap cnd : Nat → Int32) (small price cut proc : Int32) (mk lm le : Nat) (d : Nat) (b : Nat) (x : Int32) (y : Int32) (hlm : lm < 40) : zMi (T := Unit) sa D vwCl (zty cI cZ cL) l yX1_enter wsX1_enter ({ frames := 0, cells := 0, slots := 0, locals := 0 } : Room) [.ref (ad 5), .int (nI d), .int (nI b), .int x, .int y] (wX ad cI cZ acc net tacc tnet flo bnd frm too amt pri wai byp ldr bor due plg clo pap cnd small price cut proc (nI mk) (nI lm) (nI le)) (fun r9 _ => r9 = (nI lm)) (fun _ => (wX ad cI cZ acc net tacc tnet flo bnd frm too amt pri wai byp (upd ldr lm (nI d)) (upd bor lm (nI b)) (upd due lm x) (upd plg lm y) clo pap cnd small price cut proc (nI mk) (nI (lm + 1)) (nI le))) 0 0 := by
  refine zMi.of (ret := (some .int)) (cc := cX1_enter) (nL := 6) (own := RX1) (by decide +kernel) rfl [(0, .ref (ad 5)), (1, .int (nI d)), (2, .int (nI b)), (3, .int x), (4, .int y)] rfl (Nat.le_of_ble_eq_true rfl) rfl ?_
  intro A p e s m args below meth c C hmn
  refine z_aload_n C dX1_enter_0 rfl 0 rfl ?_
  refine z_get C 5 rfl i_X1_enter_X1 rfl 4 (by decide) m_X1_enter_f24 rfl rfl dX1_enter_1 ?_
  refine z_istore C dX1_enter_4 (by decide) [(0, .ref (ad 5)), (1, .int (nI d)), (2, .int (nI b)), (3, .int x), (4, .int y), (5, .int (nI lm))] [1, 2, 3, 4, 5, 0] rfl ?_
  refine z_aload_n C dX1_enter_6 rfl 0 rfl ?_
  refine z_get C 5 rfl i_X1_enter_X1 rfl 0 (by decide) m_X1_enter_f9 rfl rfl dX1_enter_7 ?_
  refine z_iload C dX1_enter_10 5 rfl ?_
  refine z_iload_n C dX1_enter_12 rfl 1 rfl ?_
  refine z_iast C 18 0 rfl rfl lm (nI_clamp (by omega)) (vp_in_nI (by omega) (by omega)) (nI d) rfl dX1_enter_13 (wX ad cI cZ acc net tacc tnet flo bnd frm too amt pri wai byp (upd ldr lm (nI d)) bor due plg clo pap cnd small price cut proc (nI mk) (nI lm) (nI le)) rfl ?_
  refine z_aload_n C dX1_enter_14 rfl 0 rfl ?_
  refine z_get C 5 rfl i_X1_enter_X1 rfl 1 (by decide) m_X1_enter_f15 rfl rfl dX1_enter_15 ?_
  refine z_iload C dX1_enter_18 5 rfl ?_
  refine z_iload_n C dX1_enter_20 rfl 2 rfl ?_
  refine z_iast C 19 0 rfl rfl lm (nI_clamp (by omega)) (vp_in_nI (by omega) (by omega)) (nI b) rfl dX1_enter_21 (wX ad cI cZ acc net tacc tnet flo bnd frm too amt pri wai byp (upd ldr lm (nI d)) (upd bor lm (nI b)) due plg clo pap cnd small price cut proc (nI mk) (nI lm) (nI le)) rfl ?_
  refine z_aload_n C dX1_enter_22 rfl 0 rfl ?_
  refine z_get C 5 rfl i_X1_enter_X1 rfl 2 (by decide) m_X1_enter_f18 rfl rfl dX1_enter_23 ?_
  refine z_iload C dX1_enter_26 5 rfl ?_
  refine z_iload_n C dX1_enter_28 rfl 3 rfl ?_
  refine z_iast C 20 0 rfl rfl lm (nI_clamp (by omega)) (vp_in_nI (by omega) (by omega)) x rfl dX1_enter_29 (wX ad cI cZ acc net tacc tnet flo bnd frm too amt pri wai byp (upd ldr lm (nI d)) (upd bor lm (nI b)) (upd due lm x) plg clo pap cnd small price cut proc (nI mk) (nI lm) (nI le)) rfl ?_
  refine z_aload_n C dX1_enter_30 rfl 0 rfl ?_
  refine z_get C 5 rfl i_X1_enter_X1 rfl 3 (by decide) m_X1_enter_f21 rfl rfl dX1_enter_31 ?_
  refine z_iload C dX1_enter_34 5 rfl ?_
  refine z_iload C dX1_enter_36 4 rfl ?_
  refine z_iast C 21 0 rfl rfl lm (nI_clamp (by omega)) (vp_in_nI (by omega) (by omega)) y rfl dX1_enter_38 (wX ad cI cZ acc net tacc tnet flo bnd frm too amt pri wai byp (upd ldr lm (nI d)) (upd bor lm (nI b)) (upd due lm x) (upd plg lm y) clo pap cnd small price cut proc (nI mk) (nI lm) (nI le)) rfl ?_
  refine z_aload_n C dX1_enter_39 rfl 0 rfl ?_
  refine z_dup C dX1_enter_40 rfl ?_
  refine z_get C 5 rfl i_X1_enter_X1 rfl 4 (by decide) m_X1_enter_f24 rfl rfl dX1_enter_41 ?_
  refine z_iconst C (v := 1) dX1_enter_44 (by decide) ?_
  refine z_iadd C (v := (nI (lm + 1))) dX1_enter_45 (nI_add lm 1) ?_
  refine z_put C 5 rfl i_X1_enter_X1 rfl 4 (by decide) m_X1_enter_f24 rfl tyX1 tyX1_ok nmX1 rfl (ty := .int) (by decide +kernel) rfl rfl (Nat.le_of_ble_eq_true rfl) dX1_enter_46 (wX ad cI cZ acc net tacc tnet flo bnd frm too amt pri wai byp (upd ldr lm (nI d)) (upd bor lm (nI b)) (upd due lm x) (upd plg lm y) clo pap cnd small price cut proc (nI mk) (nI (lm + 1)) (nI le)) rfl ?_
  refine z_iload C dX1_enter_49 5 rfl ?_
  exact z_iret C () rfl rfl (by decide) (by decide) dX1_enter_51
set_option maxHeartbeats 4000000 in
set_option maxRecDepth 100000 in
theorem c_X4_sendLargestSet (l : Launch) (sa : Nat → Nat) (D : va_G) (cI cZ cL : ClassId) (ad : Nat → Nat) (acc net tacc tnet flo bnd frm too amt pri wai byp ldr bor due plg clo pap cnd : Nat → Int32) (small price cut proc : Int32) (mk lm le : Nat)  (hmk : mk ≤ 60) (hfrm : wf5 mk frm) (htoo : wf5 mk too) (hbyp : bypOK byp pri mk) : zMi (T := (Nat → Int32) × (Nat → Int32) × (Nat → Int32)) sa D vwCl (zty cI cZ cL) l yX4_sendLargestSet wsX4_sendLargestSet ({ frames := 4, cells := 0, slots := 0, locals := 89 } : Room) [.ref (ad 0)] (wX ad cI cZ acc net tacc tnet flo bnd frm too amt pri wai byp ldr bor due plg clo pap cnd small price cut proc (nI mk) (nI lm) (nI le)) (fun r9 u => r9 = (nI ((togF (ordL pri mk) flo bnd frm too amt acc net wai).2.2.2))) (fun u => (wX ad cI cZ ((togF (ordL pri mk) flo bnd frm too amt acc net wai).1) ((togF (ordL pri mk) flo bnd frm too amt acc net wai).2.1) u.2.1 u.2.2 flo bnd frm too amt pri ((togF (ordL pri mk) flo bnd frm too amt acc net wai).2.2.1) byp ldr bor due plg clo pap u.1 small price cut proc (nI mk) (nI lm) (nI le))) 0 0 := by
  refine zMi.of (ret := (some .int)) (cc := cX4_sendLargestSet) (nL := 3) (own := RX4) (by decide +kernel) rfl [(0, .ref (ad 0))] rfl (Nat.le_of_ble_eq_true rfl) rfl ?_
  intro A p e s m args below meth c C hmn
  refine z_iconst C (v := 0) dX4_sendLargestSet_0 (by decide) ?_
  refine z_istore_n C dX4_sendLargestSet_1 rfl (by decide) [(0, .ref (ad 0)), (1, .int 0)] [1, 0] rfl ?_
  have L2_k_1 : ∀ (n : Nat) (i : Nat), 5 - i < n → (i ≤ 5) → zW 0 p l e ({ frames := 4, cells := 0, slots := 0, locals := 89 } : Room) s m args below meth c (MQ below (zQi (T := (Nat → Int32) × (Nat → Int32) × (Nat → Int32)) D vwCl (zty cI cZ cL) A (fun r9 u => r9 = (nI ((togF (ordL pri mk) flo bnd frm too amt acc net wai).2.2.2))) (fun u => (wX ad cI cZ ((togF (ordL pri mk) flo bnd frm too amt acc net wai).1) ((togF (ordL pri mk) flo bnd frm too amt acc net wai).2.1) u.2.1 u.2.2 flo bnd frm too amt pri ((togF (ordL pri mk) flo bnd frm too amt acc net wai).2.2.1) byp ldr bor due plg clo pap u.1 small price cut proc (nI mk) (nI lm) (nI le)))) args s 0 0 A) D vwCl A 3 0 0 (wX ad cI cZ acc net tacc tnet flo bnd frm too amt pri wai byp ldr bor due plg clo pap (filC (fcnQ (ordL pri mk) wai frm) cnd i) small price cut proc (nI mk) (nI lm) (nI le)) [(0, .ref (ad 0)), (1, .int (nI i))] 2 [] := by
    intro n
    induction n with
    | zero => intros; omega
    | succ n ih_2 =>
      intro i hm_3 hi
      refine z_iload_n C dX4_sendLargestSet_2 rfl 1 rfl ?_
      refine z_iconst C (v := 5) dX4_sendLargestSet_3 (by decide) ?_
      refine z_icmp_ge C (tgt := 28) dX4_sendLargestSet_4 (by decide) (fun c4_4 => ?_) (fun c4_4 => ?_)
      · skip
        have n_5 : 5 ≤ i := (nI_leI (a := 5) (b := i) (by omega) (by omega)).mp c4_4
        refine z_iconst C (v := 0) dX4_sendLargestSet_28 (by decide) ?_
        refine z_istore_n C dX4_sendLargestSet_29 rfl (by decide) [(0, .ref (ad 0)), (1, .int 0)] [1, 0] rfl ?_
        refine z_iconst C (v := 1) dX4_sendLargestSet_30 (by decide) ?_
        refine z_istore_n C dX4_sendLargestSet_31 rfl (by decide) [(0, .ref (ad 0)), (1, .int 0), (2, .int 1)] [1, 2, 0] rfl ?_
        have L32_k_6 : ∀ (n : Nat) (s9 : Nat) (ta tn : Nat → Int32), 32 - s9 < n → (s9 ≤ 32) → (1 ≤ s9) → zW 0 p l e ({ frames := 4, cells := 0, slots := 0, locals := 89 } : Room) s m args below meth c (MQ below (zQi (T := (Nat → Int32) × (Nat → Int32) × (Nat → Int32)) D vwCl (zty cI cZ cL) A (fun r9 u => r9 = (nI ((togF (ordL pri mk) flo bnd frm too amt acc net wai).2.2.2))) (fun u => (wX ad cI cZ ((togF (ordL pri mk) flo bnd frm too amt acc net wai).1) ((togF (ordL pri mk) flo bnd frm too amt acc net wai).2.1) u.2.1 u.2.2 flo bnd frm too amt pri ((togF (ordL pri mk) flo bnd frm too amt acc net wai).2.2.1) byp ldr bor due plg clo pap u.1 small price cut proc (nI mk) (nI lm) (nI le)))) args s 0 0 A) D vwCl A 3 0 0 (wX ad cI cZ acc net ta tn flo bnd frm too amt pri wai byp ldr bor due plg clo pap (filC (fcnQ (ordL pri mk) wai frm) cnd i) small price cut proc (nI mk) (nI lm) (nI le)) [(0, .ref (ad 0)), (1, .int (nI (bestS (okS frm too amt flo bnd (fcnQ (ordL pri mk) wai frm) 5 acc net) s9))), (2, .int (nI s9))] 32 [] := by
          intro n
          induction n with
          | zero => intros; omega
          | succ n ih_7 =>
            intro s9 ta tn hm_8 hs hs1
            have hb9 := bestS_lt1 (okS frm too amt flo bnd (fcnQ (ordL pri mk) wai frm) 5 acc net) s9 hs1
            refine z_iload_n C dX4_sendLargestSet_32 rfl 2 rfl ?_
            refine z_bipush C (v := 32) dX4_sendLargestSet_33 (by decide) ?_
            refine z_icmp_ge C (tgt := 66) dX4_sendLargestSet_35 (by decide) (fun c35_9 => ?_) (fun c35_9 => ?_)
            · skip
              have n_10 : 32 ≤ s9 := (nI_leI (a := 32) (b := s9) (by omega) (by omega)).mp c35_9
              refine z_iconst C (v := 0) dX4_sendLargestSet_66 (by decide) ?_
              refine z_istore_n C dX4_sendLargestSet_67 rfl (by decide) [(0, .ref (ad 0)), (1, .int (nI (bestS (okS frm too amt flo bnd (fcnQ (ordL pri mk) wai frm) 5 acc net) s9))), (2, .int 0)] [1, 2, 0] rfl ?_
              have L68_k_11 : ∀ (n : Nat) (j : Nat), 5 - j < n → (j ≤ 5) → zW 0 p l e ({ frames := 4, cells := 0, slots := 0, locals := 89 } : Room) s m args below meth c (MQ below (zQi (T := (Nat → Int32) × (Nat → Int32) × (Nat → Int32)) D vwCl (zty cI cZ cL) A (fun r9 u => r9 = (nI ((togF (ordL pri mk) flo bnd frm too amt acc net wai).2.2.2))) (fun u => (wX ad cI cZ ((togF (ordL pri mk) flo bnd frm too amt acc net wai).1) ((togF (ordL pri mk) flo bnd frm too amt acc net wai).2.1) u.2.1 u.2.2 flo bnd frm too amt pri ((togF (ordL pri mk) flo bnd frm too amt acc net wai).2.2.1) byp ldr bor due plg clo pap u.1 small price cut proc (nI mk) (nI lm) (nI le)))) args s 0 0 A) D vwCl A 3 0 0 (wX ad cI cZ ((snB frm too amt (fcnQ (ordL pri mk) wai frm) (bestS (okS frm too amt flo bnd (fcnQ (ordL pri mk) wai frm) 5 acc net) s9) acc net wai j).1) ((snB frm too amt (fcnQ (ordL pri mk) wai frm) (bestS (okS frm too amt flo bnd (fcnQ (ordL pri mk) wai frm) 5 acc net) s9) acc net wai j).2.1) ta tn flo bnd frm too amt pri ((snB frm too amt (fcnQ (ordL pri mk) wai frm) (bestS (okS frm too amt flo bnd (fcnQ (ordL pri mk) wai frm) 5 acc net) s9) acc net wai j).2.2) byp ldr bor due plg clo pap (filC (fcnQ (ordL pri mk) wai frm) cnd i) small price cut proc (nI mk) (nI lm) (nI le)) [(0, .ref (ad 0)), (1, .int (nI (bestS (okS frm too amt flo bnd (fcnQ (ordL pri mk) wai frm) 5 acc net) s9))), (2, .int (nI j))] 68 [] := by
                intro n
                induction n with
                | zero => intros; omega
                | succ n ih_12 =>
                  intro j hm_13 hj
                  refine z_iload_n C dX4_sendLargestSet_68 rfl 2 rfl ?_
                  refine z_iconst C (v := 5) dX4_sendLargestSet_69 (by decide) ?_
                  refine z_icmp_ge C (tgt := 97) dX4_sendLargestSet_70 (by decide) (fun c70_14 => ?_) (fun c70_14 => ?_)
                  · skip
                    have n_15 : 5 ≤ j := (nI_leI (a := 5) (b := j) (by omega) (by omega)).mp c70_14
                    refine z_iload_n C dX4_sendLargestSet_97 rfl 1 rfl ?_
                    refine z_callSi C (T := Unit) (As := [.int (nI (bestS (okS frm too amt flo bnd (fcnQ (ordL pri mk) wai frm) 5 acc net) s9))]) (rest := []) (ws' := fun _ => (wX ad cI cZ ((snB frm too amt (fcnQ (ordL pri mk) wai frm) (bestS (okS frm too amt flo bnd (fcnQ (ordL pri mk) wai frm) 5 acc net) s9) acc net wai j).1) ((snB frm too amt (fcnQ (ordL pri mk) wai frm) (bestS (okS frm too amt flo bnd (fcnQ (ordL pri mk) wai frm) 5 acc net) s9) acc net wai j).2.1) ta tn flo bnd frm too amt pri ((snB frm too amt (fcnQ (ordL pri mk) wai frm) (bestS (okS frm too amt flo bnd (fcnQ (ordL pri mk) wai frm) 5 acc net) s9) acc net wai j).2.2) byp ldr bor due plg clo pap (filC (fcnQ (ordL pri mk) wai frm) cnd i) small price cut proc (nI mk) (nI lm) (nI le))) (c_bitCount l sa D cI cZ cL  (bestS (okS frm too amt flo bnd (fcnQ (ordL pri mk) wai frm) 5 acc net) s9) (by first | assumption | omega)) (va_cwS 1 C.2.2.2.2.1 gX4_sendLargestSet_J6_bitCount_0f7a4 rfl rfl rfl (by decide +kernel) ⟨Nat.le_of_ble_eq_true rfl, Nat.le_of_ble_eq_true rfl⟩) (fun _ => zSub.none) zIn.none rfl (Nat.le_of_ble_eq_true rfl) ⟨Nat.le_of_ble_eq_true rfl, Nat.le_of_ble_eq_true rfl⟩ dX4_sendLargestSet_98 (fun r_16 _ h_17 => ?_)
                    obtain rfl : r_16 = (nI (pc5 (bestS (okS frm too amt flo bnd (fcnQ (ordL pri mk) wai frm) 5 acc net) s9))) := h_17
                    exact z_iret C ((filC (fcnQ (ordL pri mk) wai frm) cnd i), ta, tn) (by obtain rfl : s9 = 32 := (by omega); rfl) (by obtain rfl : s9 = 32 := (by omega); obtain rfl : j = 5 := (by omega); rfl) (by decide) (by decide) dX4_sendLargestSet_101
                  · skip
                    have n_18 : ¬ 5 ≤ j := fun q => c70_14 ((nI_leI (a := 5) (b := j) (by omega) (by omega)).mpr q)
                    refine z_iload_n C dX4_sendLargestSet_73 rfl 1 rfl ?_
                    refine z_iload_n C dX4_sendLargestSet_74 rfl 2 rfl ?_
                    refine z_case ((bestS (okS frm too amt flo bnd (fcnQ (ordL pri mk) wai frm) 5 acc net) s9).testBit j = true) (fun hp_19 => ?_) (fun hp_19 => ?_)
                    · skip
                      refine z_callSi C (T := Unit) (As := [.int (nI (bestS (okS frm too amt flo bnd (fcnQ (ordL pri mk) wai frm) 5 acc net) s9)), .int (nI j)]) (rest := []) (ws' := fun _ => (wX ad cI cZ ((snB frm too amt (fcnQ (ordL pri mk) wai frm) (bestS (okS frm too amt flo bnd (fcnQ (ordL pri mk) wai frm) 5 acc net) s9) acc net wai j).1) ((snB frm too amt (fcnQ (ordL pri mk) wai frm) (bestS (okS frm too amt flo bnd (fcnQ (ordL pri mk) wai frm) 5 acc net) s9) acc net wai j).2.1) ta tn flo bnd frm too amt pri ((snB frm too amt (fcnQ (ordL pri mk) wai frm) (bestS (okS frm too amt flo bnd (fcnQ (ordL pri mk) wai frm) 5 acc net) s9) acc net wai j).2.2) byp ldr bor due plg clo pap (filC (fcnQ (ordL pri mk) wai frm) cnd i) small price cut proc (nI mk) (nI lm) (nI le))) (c_X4_isIn l sa D cI cZ cL  (bestS (okS frm too amt flo bnd (fcnQ (ordL pri mk) wai frm) 5 acc net) s9) j (by first | assumption | omega) (by first | assumption | omega)) (va_cwS 2 C.2.2.2.2.1 gX4_sendLargestSet_X4_isIn rfl rfl rfl (by decide +kernel) ⟨Nat.le_of_ble_eq_true rfl, Nat.le_of_ble_eq_true rfl⟩) (fun _ => zSub.none) zIn.none rfl (Nat.le_of_ble_eq_true rfl) ⟨Nat.le_of_ble_eq_true rfl, Nat.le_of_ble_eq_true rfl⟩ dX4_sendLargestSet_75 (fun r_20 _ h_21 => ?_)
                      obtain rfl : r_20 = 1 := h_21.trans (if_pos hp_19)
                      refine z_if_eq C (tgt := 91) dX4_sendLargestSet_78 (by decide) (fun h => absurd h (by decide)) (fun _ => ?_)
                      refine z_aload_n C dX4_sendLargestSet_81 rfl 0 rfl ?_
                      refine z_aload_n C dX4_sendLargestSet_82 rfl 0 rfl ?_
                      refine z_get C 0 rfl i_X4_sendLargestSet_X4 rfl 7 (by decide) m_X4_sendLargestSet_f48 rfl rfl dX4_sendLargestSet_83 ?_
                      refine z_iload_n C dX4_sendLargestSet_86 rfl 2 rfl ?_
                      rcases hq_22 : fcnQ (ordL pri mk) wai frm j with _ | p_23
                      · skip
                        exact absurd hq_22 (best_some (by omega) (by assumption))
                      · skip
                        have := fcnQ_lt _ _ hq_22
                        refine z_iald C 24 0 rfl rfl j (nI_clamp (by omega)) (vp_in_nI (by omega) (by omega)) (nI p_23) ((filC_at (by omega)).trans (by rw [hq_22]; rfl)) dX4_sendLargestSet_87 ?_
                        refine z_callVv C (T := Unit) (As := [.int (nI p_23)]) (rest := []) (ws' := fun _ => (wX ad cI cZ (mvA (ix (frm p_23)) (ix (too p_23)) (amt p_23) ((snB frm too amt (fcnQ (ordL pri mk) wai frm) (bestS (okS frm too amt flo bnd (fcnQ (ordL pri mk) wai frm) 5 acc net) s9) acc net wai j).1)) (mvN (ix (frm p_23)) (ix (too p_23)) (amt p_23) ((snB frm too amt (fcnQ (ordL pri mk) wai frm) (bestS (okS frm too amt flo bnd (fcnQ (ordL pri mk) wai frm) 5 acc net) s9) acc net wai j).2.1)) ta tn flo bnd frm too amt pri (upd ((snB frm too amt (fcnQ (ordL pri mk) wai frm) (bestS (okS frm too amt flo bnd (fcnQ (ordL pri mk) wai frm) 5 acc net) s9) acc net wai j).2.2) p_23 0) byp ldr bor due plg clo pap (filC (fcnQ (ordL pri mk) wai frm) cnd i) small price cut proc (nI mk) (nI lm) (nI le))) (c_X4_send l sa D cI cZ cL ad ((snB frm too amt (fcnQ (ordL pri mk) wai frm) (bestS (okS frm too amt flo bnd (fcnQ (ordL pri mk) wai frm) 5 acc net) s9) acc net wai j).1) ((snB frm too amt (fcnQ (ordL pri mk) wai frm) (bestS (okS frm too amt flo bnd (fcnQ (ordL pri mk) wai frm) 5 acc net) s9) acc net wai j).2.1) ta tn flo bnd frm too amt pri ((snB frm too amt (fcnQ (ordL pri mk) wai frm) (bestS (okS frm too amt flo bnd (fcnQ (ordL pri mk) wai frm) 5 acc net) s9) acc net wai j).2.2) byp ldr bor due plg clo pap (filC (fcnQ (ordL pri mk) wai frm) cnd i) small price cut proc mk lm le p_23 (by first | assumption | omega) (by first | assumption | omega) (by first | assumption | omega) (by first | assumption | omega)) (cwV 1 C.2.2.2.2.1 gX4_sendLargestSet_X4_send rfl rfl rfl (by decide +kernel) ⟨Nat.le_of_ble_eq_true rfl, Nat.le_of_ble_eq_true rfl⟩) 0 rfl rfl rfl (fun _ => zSub.full) zIn.full rfl (Nat.le_of_ble_eq_true rfl) ⟨Nat.le_of_ble_eq_true rfl, Nat.le_of_ble_eq_true rfl⟩ dX4_sendLargestSet_88 (fun _ _ => ?_)
                        refine z_iinc C (v := (nI (j + 1))) dX4_sendLargestSet_91 2 rfl (nI_add j 1) (by decide) [(0, .ref (ad 0)), (1, .int (nI (bestS (okS frm too amt flo bnd (fcnQ (ordL pri mk) wai frm) 5 acc net) s9))), (2, .int (nI (j + 1)))] [1, 2, 0] rfl ?_
                        refine z_goto C (tgt := 68) dX4_sendLargestSet_94 (by decide) ?_
                        refine z_ws (wX ad cI cZ ((snB frm too amt (fcnQ (ordL pri mk) wai frm) (bestS (okS frm too amt flo bnd (fcnQ (ordL pri mk) wai frm) 5 acc net) s9) acc net wai (j + 1)).1) ((snB frm too amt (fcnQ (ordL pri mk) wai frm) (bestS (okS frm too amt flo bnd (fcnQ (ordL pri mk) wai frm) 5 acc net) s9) acc net wai (j + 1)).2.1) ta tn flo bnd frm too amt pri ((snB frm too amt (fcnQ (ordL pri mk) wai frm) (bestS (okS frm too amt flo bnd (fcnQ (ordL pri mk) wai frm) 5 acc net) s9) acc net wai (j + 1)).2.2) byp ldr bor due plg clo pap (filC (fcnQ (ordL pri mk) wai frm) cnd i) small price cut proc (nI mk) (nI lm) (nI le)) (by simp only [snB, c4_4, n_5, c35_9, n_10, c70_14, n_18, hp_19, hq_22, if_true, if_false]; try rfl) ?_
                        exact ih_12 (j + 1) (by omega) (by first | assumption | omega)
                    · skip
                      refine z_callSi C (T := Unit) (As := [.int (nI (bestS (okS frm too amt flo bnd (fcnQ (ordL pri mk) wai frm) 5 acc net) s9)), .int (nI j)]) (rest := []) (ws' := fun _ => (wX ad cI cZ ((snB frm too amt (fcnQ (ordL pri mk) wai frm) (bestS (okS frm too amt flo bnd (fcnQ (ordL pri mk) wai frm) 5 acc net) s9) acc net wai j).1) ((snB frm too amt (fcnQ (ordL pri mk) wai frm) (bestS (okS frm too amt flo bnd (fcnQ (ordL pri mk) wai frm) 5 acc net) s9) acc net wai j).2.1) ta tn flo bnd frm too amt pri ((snB frm too amt (fcnQ (ordL pri mk) wai frm) (bestS (okS frm too amt flo bnd (fcnQ (ordL pri mk) wai frm) 5 acc net) s9) acc net wai j).2.2) byp ldr bor due plg clo pap (filC (fcnQ (ordL pri mk) wai frm) cnd i) small price cut proc (nI mk) (nI lm) (nI le))) (c_X4_isIn l sa D cI cZ cL  (bestS (okS frm too amt flo bnd (fcnQ (ordL pri mk) wai frm) 5 acc net) s9) j (by first | assumption | omega) (by first | assumption | omega)) (va_cwS 2 C.2.2.2.2.1 gX4_sendLargestSet_X4_isIn rfl rfl rfl (by decide +kernel) ⟨Nat.le_of_ble_eq_true rfl, Nat.le_of_ble_eq_true rfl⟩) (fun _ => zSub.none) zIn.none rfl (Nat.le_of_ble_eq_true rfl) ⟨Nat.le_of_ble_eq_true rfl, Nat.le_of_ble_eq_true rfl⟩ dX4_sendLargestSet_75 (fun r_24 _ h_25 => ?_)
                      obtain rfl : r_24 = 0 := h_25.trans (if_neg hp_19)
                      refine z_if_eq C (tgt := 91) dX4_sendLargestSet_78 (by decide) (fun _ => ?_) (fun h => absurd h (by decide))
                      refine z_iinc C (v := (nI (j + 1))) dX4_sendLargestSet_91 2 rfl (nI_add j 1) (by decide) [(0, .ref (ad 0)), (1, .int (nI (bestS (okS frm too amt flo bnd (fcnQ (ordL pri mk) wai frm) 5 acc net) s9))), (2, .int (nI (j + 1)))] [1, 2, 0] rfl ?_
                      refine z_goto C (tgt := 68) dX4_sendLargestSet_94 (by decide) ?_
                      refine z_ws (wX ad cI cZ ((snB frm too amt (fcnQ (ordL pri mk) wai frm) (bestS (okS frm too amt flo bnd (fcnQ (ordL pri mk) wai frm) 5 acc net) s9) acc net wai (j + 1)).1) ((snB frm too amt (fcnQ (ordL pri mk) wai frm) (bestS (okS frm too amt flo bnd (fcnQ (ordL pri mk) wai frm) 5 acc net) s9) acc net wai (j + 1)).2.1) ta tn flo bnd frm too amt pri ((snB frm too amt (fcnQ (ordL pri mk) wai frm) (bestS (okS frm too amt flo bnd (fcnQ (ordL pri mk) wai frm) 5 acc net) s9) acc net wai (j + 1)).2.2) byp ldr bor due plg clo pap (filC (fcnQ (ordL pri mk) wai frm) cnd i) small price cut proc (nI mk) (nI lm) (nI le)) (by simp only [snB, c4_4, n_5, c35_9, n_10, c70_14, n_18, hp_19, if_true, if_false]; try rfl) ?_
                      exact ih_12 (j + 1) (by omega) (by first | assumption | omega)
              refine z_ws (wX ad cI cZ ((snB frm too amt (fcnQ (ordL pri mk) wai frm) (bestS (okS frm too amt flo bnd (fcnQ (ordL pri mk) wai frm) 5 acc net) s9) acc net wai 0).1) ((snB frm too amt (fcnQ (ordL pri mk) wai frm) (bestS (okS frm too amt flo bnd (fcnQ (ordL pri mk) wai frm) 5 acc net) s9) acc net wai 0).2.1) ta tn flo bnd frm too amt pri ((snB frm too amt (fcnQ (ordL pri mk) wai frm) (bestS (okS frm too amt flo bnd (fcnQ (ordL pri mk) wai frm) 5 acc net) s9) acc net wai 0).2.2) byp ldr bor due plg clo pap (filC (fcnQ (ordL pri mk) wai frm) cnd i) small price cut proc (nI mk) (nI lm) (nI le)) (by rfl) ?_
              refine z_lveq [(0, .ref (ad 0)), (1, .int (nI (bestS (okS frm too amt flo bnd (fcnQ (ordL pri mk) wai frm) 5 acc net) s9))), (2, .int (nI 0))] (by rfl) ?_
              exact L68_k_11 (5 - 0 + 1) 0 (Nat.lt_succ_self _) (by first | assumption | omega)
            · skip
              have n_26 : ¬ 32 ≤ s9 := fun q => c35_9 ((nI_leI (a := 32) (b := s9) (by omega) (by omega)).mpr q)
              refine z_iload_n C dX4_sendLargestSet_38 rfl 2 rfl ?_
              refine z_callSi C (T := Unit) (As := [.int (nI s9)]) (rest := []) (ws' := fun _ => (wX ad cI cZ acc net ta tn flo bnd frm too amt pri wai byp ldr bor due plg clo pap (filC (fcnQ (ordL pri mk) wai frm) cnd i) small price cut proc (nI mk) (nI lm) (nI le))) (c_bitCount l sa D cI cZ cL  s9 (by first | assumption | omega)) (va_cwS 1 C.2.2.2.2.1 gX4_sendLargestSet_J6_bitCount_0f7a4 rfl rfl rfl (by decide +kernel) ⟨Nat.le_of_ble_eq_true rfl, Nat.le_of_ble_eq_true rfl⟩) (fun _ => zSub.none) zIn.none rfl (Nat.le_of_ble_eq_true rfl) ⟨Nat.le_of_ble_eq_true rfl, Nat.le_of_ble_eq_true rfl⟩ dX4_sendLargestSet_39 (fun r_27 _ h_28 => ?_)
              obtain rfl : r_27 = (nI (pc5 s9)) := h_28
              have := pc5_le s9
              refine z_iload_n C dX4_sendLargestSet_42 rfl 1 rfl ?_
              refine z_callSi C (T := Unit) (As := [.int (nI (bestS (okS frm too amt flo bnd (fcnQ (ordL pri mk) wai frm) 5 acc net) s9))]) (rest := [.int (nI (pc5 s9))]) (ws' := fun _ => (wX ad cI cZ acc net ta tn flo bnd frm too amt pri wai byp ldr bor due plg clo pap (filC (fcnQ (ordL pri mk) wai frm) cnd i) small price cut proc (nI mk) (nI lm) (nI le))) (c_bitCount l sa D cI cZ cL  (bestS (okS frm too amt flo bnd (fcnQ (ordL pri mk) wai frm) 5 acc net) s9) (by first | assumption | omega)) (va_cwS 1 C.2.2.2.2.1 gX4_sendLargestSet_J6_bitCount_0f7a4 rfl rfl rfl (by decide +kernel) ⟨Nat.le_of_ble_eq_true rfl, Nat.le_of_ble_eq_true rfl⟩) (fun _ => zSub.none) zIn.none rfl (Nat.le_of_ble_eq_true rfl) ⟨Nat.le_of_ble_eq_true rfl, Nat.le_of_ble_eq_true rfl⟩ dX4_sendLargestSet_43 (fun r_29 _ h_30 => ?_)
              obtain rfl : r_29 = (nI (pc5 (bestS (okS frm too amt flo bnd (fcnQ (ordL pri mk) wai frm) 5 acc net) s9))) := h_30
              have := pc5_le (bestS (okS frm too amt flo bnd (fcnQ (ordL pri mk) wai frm) 5 acc net) s9)
              refine z_icmp_le C (tgt := 60) dX4_sendLargestSet_46 (by decide) (fun c46_31 => ?_) (fun c46_31 => ?_)
              · skip
                have n_32 : (pc5 s9) ≤ (pc5 (bestS (okS frm too amt flo bnd (fcnQ (ordL pri mk) wai frm) 5 acc net) s9)) := (nI_leI (a := pc5 s9) (b := pc5 (bestS (okS frm too amt flo bnd (fcnQ (ordL pri mk) wai frm) 5 acc net) s9)) (by omega) (by omega)).mp c46_31
                refine z_iinc C (v := (nI (s9 + 1))) dX4_sendLargestSet_60 2 rfl (nI_add s9 1) (by decide) [(0, .ref (ad 0)), (1, .int (nI (bestS (okS frm too amt flo bnd (fcnQ (ordL pri mk) wai frm) 5 acc net) s9))), (2, .int (nI (s9 + 1)))] [1, 2, 0] rfl ?_
                refine z_goto C (tgt := 32) dX4_sendLargestSet_63 (by decide) ?_
                refine z_lveq [(0, .ref (ad 0)), (1, .int (nI (bestS (okS frm too amt flo bnd (fcnQ (ordL pri mk) wai frm) 5 acc net) (s9 + 1)))), (2, .int (nI (s9 + 1)))] (by first | rw [bestS_y (by assumption) (by assumption)] | rw [bestS_n1 (by assumption)] | rw [bestS_n2 (by assumption)]) ?_
                exact ih_7 (s9 + 1) ta tn (by omega) (by first | assumption | omega) (by first | assumption | omega)
              · skip
                have n_33 : ¬ (pc5 s9) ≤ (pc5 (bestS (okS frm too amt flo bnd (fcnQ (ordL pri mk) wai frm) 5 acc net) s9)) := fun q => c46_31 ((nI_leI (a := pc5 s9) (b := pc5 (bestS (okS frm too amt flo bnd (fcnQ (ordL pri mk) wai frm) 5 acc net) s9)) (by omega) (by omega)).mpr q)
                refine z_aload_n C dX4_sendLargestSet_49 rfl 0 rfl ?_
                refine z_iload_n C dX4_sendLargestSet_50 rfl 2 rfl ?_
                refine z_iconst C (v := 5) dX4_sendLargestSet_51 (by decide) ?_
                refine z_case (okS frm too amt flo bnd (fcnQ (ordL pri mk) wai frm) 5 acc net s9 = true) (fun hp_34 => ?_) (fun hp_34 => ?_)
                · skip
                  refine z_callVi C (As := [.int (nI s9), .int 5]) (rest := []) (ws' := fun u_35 => (wX ad cI cZ acc net u_35.1 u_35.2 flo bnd frm too amt pri wai byp ldr bor due plg clo pap (filC (fcnQ (ordL pri mk) wai frm) cnd i) small price cut proc (nI mk) (nI lm) (nI le))) (c_X4_canGoTogether l sa D cI cZ cL ad acc net ta tn flo bnd frm too amt pri wai byp ldr bor due plg clo pap (filC (fcnQ (ordL pri mk) wai frm) cnd i) small price cut proc mk lm le s9 5 (fcnQ (ordL pri mk) wai frm) (by first | assumption | omega) (by first | assumption | omega) (by intro k hk; exact filC_at (by omega)) (by exact fcnQ_lt) (by first | assumption | omega) (by first | assumption | omega) (by first | assumption | omega)) (cwV 2 C.2.2.2.2.1 gX4_sendLargestSet_X4_canGoTogether rfl rfl rfl (by decide +kernel) ⟨Nat.le_of_ble_eq_true rfl, Nat.le_of_ble_eq_true rfl⟩) 0 rfl rfl rfl (fun _ => zSub.full) zIn.full rfl (Nat.le_of_ble_eq_true rfl) ⟨Nat.le_of_ble_eq_true rfl, Nat.le_of_ble_eq_true rfl⟩ dX4_sendLargestSet_52 (fun r_36 u_35 h_37 => ?_)
                  obtain rfl : r_36 = 1 := h_37.trans (if_pos hp_34)
                  refine z_if_eq C (tgt := 60) dX4_sendLargestSet_55 (by decide) (fun h => absurd h (by decide)) (fun _ => ?_)
                  refine z_iload_n C dX4_sendLargestSet_58 rfl 2 rfl ?_
                  refine z_istore_n C dX4_sendLargestSet_59 rfl (by decide) [(0, .ref (ad 0)), (1, .int (nI s9)), (2, .int (nI s9))] [1, 0, 2] rfl ?_
                  refine z_iinc C (v := (nI (s9 + 1))) dX4_sendLargestSet_60 2 rfl (nI_add s9 1) (by decide) [(0, .ref (ad 0)), (1, .int (nI s9)), (2, .int (nI (s9 + 1)))] [1, 2, 0] rfl ?_
                  refine z_goto C (tgt := 32) dX4_sendLargestSet_63 (by decide) ?_
                  refine z_lveq [(0, .ref (ad 0)), (1, .int (nI (bestS (okS frm too amt flo bnd (fcnQ (ordL pri mk) wai frm) 5 acc net) (s9 + 1)))), (2, .int (nI (s9 + 1)))] (by first | rw [bestS_y (by assumption) (by assumption)] | rw [bestS_n1 (by assumption)] | rw [bestS_n2 (by assumption)]) ?_
                  exact ih_7 (s9 + 1) u_35.1 u_35.2 (by omega) (by first | assumption | omega) (by first | assumption | omega)
                · skip
                  refine z_callVi C (As := [.int (nI s9), .int 5]) (rest := []) (ws' := fun u_38 => (wX ad cI cZ acc net u_38.1 u_38.2 flo bnd frm too amt pri wai byp ldr bor due plg clo pap (filC (fcnQ (ordL pri mk) wai frm) cnd i) small price cut proc (nI mk) (nI lm) (nI le))) (c_X4_canGoTogether l sa D cI cZ cL ad acc net ta tn flo bnd frm too amt pri wai byp ldr bor due plg clo pap (filC (fcnQ (ordL pri mk) wai frm) cnd i) small price cut proc mk lm le s9 5 (fcnQ (ordL pri mk) wai frm) (by first | assumption | omega) (by first | assumption | omega) (by intro k hk; exact filC_at (by omega)) (by exact fcnQ_lt) (by first | assumption | omega) (by first | assumption | omega) (by first | assumption | omega)) (cwV 2 C.2.2.2.2.1 gX4_sendLargestSet_X4_canGoTogether rfl rfl rfl (by decide +kernel) ⟨Nat.le_of_ble_eq_true rfl, Nat.le_of_ble_eq_true rfl⟩) 0 rfl rfl rfl (fun _ => zSub.full) zIn.full rfl (Nat.le_of_ble_eq_true rfl) ⟨Nat.le_of_ble_eq_true rfl, Nat.le_of_ble_eq_true rfl⟩ dX4_sendLargestSet_52 (fun r_39 u_38 h_40 => ?_)
                  obtain rfl : r_39 = 0 := h_40.trans (if_neg hp_34)
                  refine z_if_eq C (tgt := 60) dX4_sendLargestSet_55 (by decide) (fun _ => ?_) (fun h => absurd h (by decide))
                  refine z_iinc C (v := (nI (s9 + 1))) dX4_sendLargestSet_60 2 rfl (nI_add s9 1) (by decide) [(0, .ref (ad 0)), (1, .int (nI (bestS (okS frm too amt flo bnd (fcnQ (ordL pri mk) wai frm) 5 acc net) s9))), (2, .int (nI (s9 + 1)))] [1, 2, 0] rfl ?_
                  refine z_goto C (tgt := 32) dX4_sendLargestSet_63 (by decide) ?_
                  refine z_lveq [(0, .ref (ad 0)), (1, .int (nI (bestS (okS frm too amt flo bnd (fcnQ (ordL pri mk) wai frm) 5 acc net) (s9 + 1)))), (2, .int (nI (s9 + 1)))] (by first | rw [bestS_y (by assumption) (by assumption)] | rw [bestS_n1 (by assumption)] | rw [bestS_n2 (by assumption)]) ?_
                  exact ih_7 (s9 + 1) u_38.1 u_38.2 (by omega) (by first | assumption | omega) (by first | assumption | omega)
        refine z_lveq [(0, .ref (ad 0)), (1, .int (nI (bestS (okS frm too amt flo bnd (fcnQ (ordL pri mk) wai frm) 5 acc net) 1))), (2, .int (nI 1))] (by rw [bestS_1]; rfl) ?_
        exact L32_k_6 (32 - 1 + 1) 1 tacc tnet (Nat.lt_succ_self _) (by first | assumption | omega) (by first | assumption | omega)
      · skip
        have n_41 : ¬ 5 ≤ i := fun q => c4_4 ((nI_leI (a := 5) (b := i) (by omega) (by omega)).mpr q)
        refine z_aload_n C dX4_sendLargestSet_7 rfl 0 rfl ?_
        refine z_get C 0 rfl i_X4_sendLargestSet_X4 rfl 7 (by decide) m_X4_sendLargestSet_f48 rfl rfl dX4_sendLargestSet_8 ?_
        refine z_iload_n C dX4_sendLargestSet_11 rfl 1 rfl ?_
        refine z_aload_n C dX4_sendLargestSet_12 rfl 0 rfl ?_
        refine z_get C 0 rfl i_X4_sendLargestSet_X4 rfl 3 (by decide) m_X4_sendLargestSet_f29 rfl rfl dX4_sendLargestSet_13 ?_
        refine z_iload_n C dX4_sendLargestSet_16 rfl 1 rfl ?_
        refine z_iconst C (v := 0) dX4_sendLargestSet_17 (by decide) ?_
        rcases hq_42 : atQ (ordL pri mk) (isq wai frm i) 0 with _ | p_43
        · skip
          refine z_callVi C (T := Unit) (As := [.int (nI i), .int 0]) (rest := [.int (nI i), .ref (ad 24)]) (ws' := fun _ => (wX ad cI cZ acc net tacc tnet flo bnd frm too amt pri wai byp ldr bor due plg clo pap (filC (fcnQ (ordL pri mk) wai frm) cnd i) small price cut proc (nI mk) (nI lm) (nI le))) (c_X2_inQueue l sa D cI cZ cL ad acc net tacc tnet flo bnd frm too amt pri wai byp ldr bor due plg clo pap (filC (fcnQ (ordL pri mk) wai frm) cnd i) small price cut proc mk lm le i 0 (by first | assumption | omega) (by first | assumption | omega) (by first | assumption | omega) (by first | assumption | omega) (by first | assumption | omega) (by first | assumption | omega)) (cwV 2 C.2.2.2.2.1 gX4_sendLargestSet_X2_inQueue rfl rfl rfl (by decide +kernel) ⟨Nat.le_of_ble_eq_true rfl, Nat.le_of_ble_eq_true rfl⟩) 4 rfl rfl rfl (fun _ => zSub.full) zIn.full rfl (Nat.le_of_ble_eq_true rfl) ⟨Nat.le_of_ble_eq_true rfl, Nat.le_of_ble_eq_true rfl⟩ dX4_sendLargestSet_18 (fun r_44 _ h_45 => ?_)
          obtain rfl : r_44 = (-1) := h_45.trans (by rw [hq_42]; rfl)
          refine z_iast C 24 0 rfl rfl i (nI_clamp (by omega)) (vp_in_nI (by omega) (by omega)) (-1) rfl dX4_sendLargestSet_21 (wX ad cI cZ acc net tacc tnet flo bnd frm too amt pri wai byp ldr bor due plg clo pap (upd (filC (fcnQ (ordL pri mk) wai frm) cnd i) i (-1)) small price cut proc (nI mk) (nI lm) (nI le)) rfl ?_
          refine z_iinc C (v := (nI (i + 1))) dX4_sendLargestSet_22 1 rfl (nI_add i 1) (by decide) [(0, .ref (ad 0)), (1, .int (nI (i + 1)))] [1, 0] rfl ?_
          refine z_goto C (tgt := 2) dX4_sendLargestSet_25 (by decide) ?_
          refine z_ws (wX ad cI cZ acc net tacc tnet flo bnd frm too amt pri wai byp ldr bor due plg clo pap (filC (fcnQ (ordL pri mk) wai frm) cnd (i + 1)) small price cut proc (nI mk) (nI lm) (nI le)) (by rw [filC_s (show oI ((fcnQ (ordL pri mk) wai frm) i) = _ by unfold fcnQ; rw [hq_42]; rfl)]) ?_
          exact ih_2 (i + 1) (by omega) (by first | assumption | omega)
        · skip
          have hm_p_43 := atQ_mem hq_42
          have := ordL_mem hm_p_43.1
          refine z_callVi C (T := Unit) (As := [.int (nI i), .int 0]) (rest := [.int (nI i), .ref (ad 24)]) (ws' := fun _ => (wX ad cI cZ acc net tacc tnet flo bnd frm too amt pri wai byp ldr bor due plg clo pap (filC (fcnQ (ordL pri mk) wai frm) cnd i) small price cut proc (nI mk) (nI lm) (nI le))) (c_X2_inQueue l sa D cI cZ cL ad acc net tacc tnet flo bnd frm too amt pri wai byp ldr bor due plg clo pap (filC (fcnQ (ordL pri mk) wai frm) cnd i) small price cut proc mk lm le i 0 (by first | assumption | omega) (by first | assumption | omega) (by first | assumption | omega) (by first | assumption | omega) (by first | assumption | omega) (by first | assumption | omega)) (cwV 2 C.2.2.2.2.1 gX4_sendLargestSet_X2_inQueue rfl rfl rfl (by decide +kernel) ⟨Nat.le_of_ble_eq_true rfl, Nat.le_of_ble_eq_true rfl⟩) 4 rfl rfl rfl (fun _ => zSub.full) zIn.full rfl (Nat.le_of_ble_eq_true rfl) ⟨Nat.le_of_ble_eq_true rfl, Nat.le_of_ble_eq_true rfl⟩ dX4_sendLargestSet_18 (fun r_46 _ h_47 => ?_)
          obtain rfl : r_46 = (nI p_43) := h_47.trans (by rw [hq_42]; rfl)
          refine z_iast C 24 0 rfl rfl i (nI_clamp (by omega)) (vp_in_nI (by omega) (by omega)) (nI p_43) rfl dX4_sendLargestSet_21 (wX ad cI cZ acc net tacc tnet flo bnd frm too amt pri wai byp ldr bor due plg clo pap (upd (filC (fcnQ (ordL pri mk) wai frm) cnd i) i (nI p_43)) small price cut proc (nI mk) (nI lm) (nI le)) rfl ?_
          refine z_iinc C (v := (nI (i + 1))) dX4_sendLargestSet_22 1 rfl (nI_add i 1) (by decide) [(0, .ref (ad 0)), (1, .int (nI (i + 1)))] [1, 0] rfl ?_
          refine z_goto C (tgt := 2) dX4_sendLargestSet_25 (by decide) ?_
          refine z_ws (wX ad cI cZ acc net tacc tnet flo bnd frm too amt pri wai byp ldr bor due plg clo pap (filC (fcnQ (ordL pri mk) wai frm) cnd (i + 1)) small price cut proc (nI mk) (nI lm) (nI le)) (by rw [filC_s (show oI ((fcnQ (ordL pri mk) wai frm) i) = _ by unfold fcnQ; rw [hq_42]; rfl)]) ?_
          exact ih_2 (i + 1) (by omega) (by first | assumption | omega)
  refine z_ws (wX ad cI cZ acc net tacc tnet flo bnd frm too amt pri wai byp ldr bor due plg clo pap (filC (fcnQ (ordL pri mk) wai frm) cnd 0) small price cut proc (nI mk) (nI lm) (nI le)) (by rw [filC_0]) ?_
  refine z_lveq [(0, .ref (ad 0)), (1, .int (nI 0))] (by rfl) ?_
  exact L2_k_1 (5 - 0 + 1) 0 (Nat.lt_succ_self _) (by first | assumption | omega)
set_option maxHeartbeats 4000000 in
set_option maxRecDepth 100000 in
theorem c_X4_run (l : Launch) (sa : Nat → Nat) (D : va_G) (cI cZ cL : ClassId) (ad : Nat → Nat) (acc net tacc tnet flo bnd frm too amt pri wai byp ldr bor due plg clo pap cnd : Nat → Int32) (small price cut proc : Int32) (mk lm le : Nat)  (hmk : mk ≤ 60) (hfrm : wf5 mk frm) (htoo : wf5 mk too) (hbyp : bypOK byp pri mk) : zMi (T := (Nat → Int32) × (Nat → Int32) × (Nat → Int32)) sa D vwCl (zty cI cZ cL) l yX4_run wsX4_run ({ frames := 5, cells := 0, slots := 0, locals := 113 } : Room) [.ref (ad 0)] (wX ad cI cZ acc net tacc tnet flo bnd frm too amt pri wai byp ldr bor due plg clo pap cnd small price cut proc (nI mk) (nI lm) (nI le)) (fun r9 u => r9 = ((runF (ordL pri mk) flo bnd frm too amt small 61 acc net wai 0).2.2.2)) (fun u => (wX ad cI cZ ((runF (ordL pri mk) flo bnd frm too amt small 61 acc net wai 0).1) ((runF (ordL pri mk) flo bnd frm too amt small 61 acc net wai 0).2.1) u.2.1 u.2.2 flo bnd frm too amt pri ((runF (ordL pri mk) flo bnd frm too amt small 61 acc net wai 0).2.2.1) byp ldr bor due plg clo pap u.1 small price cut proc (nI mk) (nI lm) (nI le))) 0 0 := by
  refine zMi.of (ret := (some .int)) (cc := cX4_run) (nL := 4) (own := RX4) (by decide +kernel) rfl [(0, .ref (ad 0))] rfl (Nat.le_of_ble_eq_true rfl) rfl ?_
  intro A p e s m args below meth c C hmn
  refine z_iconst C (v := 0) dX4_run_0 (by decide) ?_
  refine z_istore_n C dX4_run_1 rfl (by decide) [(0, .ref (ad 0)), (1, .int 0)] [1, 0] rfl ?_
  refine z_iconst C (v := 0) dX4_run_2 (by decide) ?_
  refine z_istore_n C dX4_run_3 rfl (by decide) [(0, .ref (ad 0)), (1, .int 0), (2, .int 0)] [1, 2, 0] rfl ?_
  have L4_k_1 : ∀ (n : Nat) (i : Nat) (g9 : Int32) (a9 n9 w9 c9 ta tn : Nat → Int32), 61 - i < n → (i ≤ 61) → (runF (ordL pri mk) flo bnd frm too amt small (61 - i) a9 n9 w9 g9 = (runF (ordL pri mk) flo bnd frm too amt small 61 acc net wai 0)) → zW 0 p l e ({ frames := 5, cells := 0, slots := 0, locals := 113 } : Room) s m args below meth c (MQ below (zQi (T := (Nat → Int32) × (Nat → Int32) × (Nat → Int32)) D vwCl (zty cI cZ cL) A (fun r9 u => r9 = ((runF (ordL pri mk) flo bnd frm too amt small 61 acc net wai 0).2.2.2)) (fun u => (wX ad cI cZ ((runF (ordL pri mk) flo bnd frm too amt small 61 acc net wai 0).1) ((runF (ordL pri mk) flo bnd frm too amt small 61 acc net wai 0).2.1) u.2.1 u.2.2 flo bnd frm too amt pri ((runF (ordL pri mk) flo bnd frm too amt small 61 acc net wai 0).2.2.1) byp ldr bor due plg clo pap u.1 small price cut proc (nI mk) (nI lm) (nI le)))) args s 0 0 A) D vwCl A 4 0 0 (wX ad cI cZ a9 n9 ta tn flo bnd frm too amt pri w9 byp ldr bor due plg clo pap c9 small price cut proc (nI mk) (nI lm) (nI le)) [(0, .ref (ad 0)), (1, .int g9), (2, .int (nI i))] 4 [] := by
    intro n
    induction n with
    | zero => intros; omega
    | succ n ih_2 =>
      intro i g9 a9 n9 w9 c9 ta tn hm_3 hi hR
      refine z_iload_n C dX4_run_4 rfl 2 rfl ?_
      refine z_bipush C (v := 60) dX4_run_5 (by decide) ?_
      refine z_icmp_gt C (tgt := 40) dX4_run_7 (by decide) (fun c7_4 => ?_) (fun c7_4 => ?_)
      · skip
        have n_5 : 60 < i := (nI_ltI (a := 60) (b := i) (by omega) (by omega)).mp c7_4
        refine z_iload_n C dX4_run_40 rfl 1 rfl ?_
        exact z_iret C (c9, ta, tn) (by rw [← hR, show 61 - i = 0 by omega]; rfl) (by rw [← hR, show 61 - i = 0 by omega]; rfl) (by decide) (by decide) dX4_run_41
      · skip
        have n_6 : ¬ 60 < i := fun q => c7_4 ((nI_ltI (a := 60) (b := i) (by omega) (by omega)).mpr q)
        refine z_aload_n C dX4_run_10 rfl 0 rfl ?_
        refine z_callVi C (T := Unit) (As := []) (rest := []) (ws' := fun _ => (wX ad cI cZ ((passF (ordL pri mk) flo bnd frm too amt small a9 n9 w9 5).1) ((passF (ordL pri mk) flo bnd frm too amt small a9 n9 w9 5).2.1) ta tn flo bnd frm too amt pri ((passF (ordL pri mk) flo bnd frm too amt small a9 n9 w9 5).2.2.1) byp ldr bor due plg clo pap c9 small price cut proc (nI mk) (nI lm) (nI le))) (c_X4_goThroughBanks l sa D cI cZ cL ad a9 n9 ta tn flo bnd frm too amt pri w9 byp ldr bor due plg clo pap c9 small price cut proc mk lm le  (by first | assumption | omega) (by first | assumption | omega) (by first | assumption | omega) (by first | assumption | omega)) (cwV 0 C.2.2.2.2.1 gX4_run_X4_goThroughBanks rfl rfl rfl (by decide +kernel) ⟨Nat.le_of_ble_eq_true rfl, Nat.le_of_ble_eq_true rfl⟩) 0 rfl rfl rfl (fun _ => zSub.full) zIn.full rfl (Nat.le_of_ble_eq_true rfl) ⟨Nat.le_of_ble_eq_true rfl, Nat.le_of_ble_eq_true rfl⟩ dX4_run_11 (fun r_7 _ h_8 => ?_)
        obtain rfl : r_7 = (nI ((passF (ordL pri mk) flo bnd frm too amt small a9 n9 w9 5).2.2.2)) := h_8
        have := passF_le (ordL pri mk) flo bnd frm too amt small a9 n9 w9 5
        refine z_istore_n C dX4_run_14 rfl (by decide) [(0, .ref (ad 0)), (1, .int g9), (2, .int (nI i)), (3, .int (nI ((passF (ordL pri mk) flo bnd frm too amt small a9 n9 w9 5).2.2.2)))] [1, 2, 3, 0] rfl ?_
        refine z_iload_n C dX4_run_15 rfl 3 rfl ?_
        refine z_if_ne C (tgt := 24) dX4_run_16 (by decide) (fun c16_9 => ?_) (fun c16_9 => ?_)
        · skip
          have n_10 : ¬ ((passF (ordL pri mk) flo bnd frm too amt small a9 n9 w9 5).2.2.2) = 0 := fun q => c16_9 ((nI_eq (a := (passF (ordL pri mk) flo bnd frm too amt small a9 n9 w9 5).2.2.2) (b := 0) (by omega) (by omega)).mpr q)
          refine z_iload_n C dX4_run_24 rfl 3 rfl ?_
          refine z_if_ne C (tgt := 30) dX4_run_25 (by decide) (fun c25_11 => ?_) (fun c25_11 => ?_)
          · skip
            have n_12 : ¬ ((passF (ordL pri mk) flo bnd frm too amt small a9 n9 w9 5).2.2.2) = 0 := fun q => c25_11 ((nI_eq (a := (passF (ordL pri mk) flo bnd frm too amt small a9 n9 w9 5).2.2.2) (b := 0) (by omega) (by omega)).mpr q)
            refine z_iload_n C dX4_run_30 rfl 1 rfl ?_
            refine z_iload_n C dX4_run_31 rfl 3 rfl ?_
            refine z_iadd C (v := (g9 + (nI ((passF (ordL pri mk) flo bnd frm too amt small a9 n9 w9 5).2.2.2)))) dX4_run_32 rfl ?_
            refine z_istore_n C dX4_run_33 rfl (by decide) [(0, .ref (ad 0)), (1, .int (g9 + (nI ((passF (ordL pri mk) flo bnd frm too amt small a9 n9 w9 5).2.2.2)))), (2, .int (nI i)), (3, .int (nI ((passF (ordL pri mk) flo bnd frm too amt small a9 n9 w9 5).2.2.2)))] [1, 0, 2, 3] rfl ?_
            refine z_iinc C (v := (nI (i + 1))) dX4_run_34 2 rfl (nI_add i 1) (by decide) [(0, .ref (ad 0)), (1, .int (g9 + (nI ((passF (ordL pri mk) flo bnd frm too amt small a9 n9 w9 5).2.2.2)))), (2, .int (nI (i + 1))), (3, .int (nI ((passF (ordL pri mk) flo bnd frm too amt small a9 n9 w9 5).2.2.2)))] [1, 2, 0, 3] rfl ?_
            refine z_goto C (tgt := 4) dX4_run_37 (by decide) ?_
            refine z_lv [(0, .ref (ad 0)), (1, .int (g9 + (nI ((passF (ordL pri mk) flo bnd frm too amt small a9 n9 w9 5).2.2.2)))), (2, .int (nI (i + 1)))] [0, 1, 2] rfl ?_
            exact ih_2 (i + 1) (g9 + (nI ((passF (ordL pri mk) flo bnd frm too amt small a9 n9 w9 5).2.2.2))) ((passF (ordL pri mk) flo bnd frm too amt small a9 n9 w9 5).1) ((passF (ordL pri mk) flo bnd frm too amt small a9 n9 w9 5).2.1) ((passF (ordL pri mk) flo bnd frm too amt small a9 n9 w9 5).2.2.1) c9 ta tn (by omega) (by first | assumption | omega) (by rw [← hR, show 61 - i = (61 - (i + 1)) + 1 by omega]; simp only [runF, rndF, c7_4, n_6, c16_9, n_10, c25_11, n_12, if_true, if_false])
          · skip
            have n_13 : ((passF (ordL pri mk) flo bnd frm too amt small a9 n9 w9 5).2.2.2) = 0 := (nI_eq (a := (passF (ordL pri mk) flo bnd frm too amt small a9 n9 w9 5).2.2.2) (b := 0) (by omega) (by omega)).mp c25_11
            refine z_iload_n C dX4_run_28 rfl 1 rfl ?_
            exact z_iret C (c9, ta, tn) (by first | (exfalso; omega) | (rw [← hR, show 61 - i = (60 - i) + 1 by omega]; simp only [runF, rndF, c7_4, n_6, c16_9, n_10, c25_11, n_13, if_true])) (by first | (exfalso; omega) | (rw [← hR, show 61 - i = (60 - i) + 1 by omega]; simp only [runF, rndF, c7_4, n_6, c16_9, n_10, c25_11, n_13, if_true])) (by decide) (by decide) dX4_run_29
        · skip
          have n_14 : ((passF (ordL pri mk) flo bnd frm too amt small a9 n9 w9 5).2.2.2) = 0 := (nI_eq (a := (passF (ordL pri mk) flo bnd frm too amt small a9 n9 w9 5).2.2.2) (b := 0) (by omega) (by omega)).mp c16_9
          refine z_aload_n C dX4_run_19 rfl 0 rfl ?_
          refine z_callVi C (As := []) (rest := []) (ws' := fun u_15 => (wX ad cI cZ ((togF (ordL pri mk) flo bnd frm too amt ((passF (ordL pri mk) flo bnd frm too amt small a9 n9 w9 5).1) ((passF (ordL pri mk) flo bnd frm too amt small a9 n9 w9 5).2.1) ((passF (ordL pri mk) flo bnd frm too amt small a9 n9 w9 5).2.2.1)).1) ((togF (ordL pri mk) flo bnd frm too amt ((passF (ordL pri mk) flo bnd frm too amt small a9 n9 w9 5).1) ((passF (ordL pri mk) flo bnd frm too amt small a9 n9 w9 5).2.1) ((passF (ordL pri mk) flo bnd frm too amt small a9 n9 w9 5).2.2.1)).2.1) u_15.2.1 u_15.2.2 flo bnd frm too amt pri ((togF (ordL pri mk) flo bnd frm too amt ((passF (ordL pri mk) flo bnd frm too amt small a9 n9 w9 5).1) ((passF (ordL pri mk) flo bnd frm too amt small a9 n9 w9 5).2.1) ((passF (ordL pri mk) flo bnd frm too amt small a9 n9 w9 5).2.2.1)).2.2.1) byp ldr bor due plg clo pap u_15.1 small price cut proc (nI mk) (nI lm) (nI le))) (c_X4_sendLargestSet l sa D cI cZ cL ad ((passF (ordL pri mk) flo bnd frm too amt small a9 n9 w9 5).1) ((passF (ordL pri mk) flo bnd frm too amt small a9 n9 w9 5).2.1) ta tn flo bnd frm too amt pri ((passF (ordL pri mk) flo bnd frm too amt small a9 n9 w9 5).2.2.1) byp ldr bor due plg clo pap c9 small price cut proc mk lm le  (by first | assumption | omega) (by first | assumption | omega) (by first | assumption | omega) (by first | assumption | omega)) (cwV 0 C.2.2.2.2.1 gX4_run_X4_sendLargestSet rfl rfl rfl (by decide +kernel) ⟨Nat.le_of_ble_eq_true rfl, Nat.le_of_ble_eq_true rfl⟩) 0 rfl rfl rfl (fun _ => zSub.full) zIn.full rfl (Nat.le_of_ble_eq_true rfl) ⟨Nat.le_of_ble_eq_true rfl, Nat.le_of_ble_eq_true rfl⟩ dX4_run_20 (fun r_16 u_15 h_17 => ?_)
          obtain rfl : r_16 = (nI ((togF (ordL pri mk) flo bnd frm too amt ((passF (ordL pri mk) flo bnd frm too amt small a9 n9 w9 5).1) ((passF (ordL pri mk) flo bnd frm too amt small a9 n9 w9 5).2.1) ((passF (ordL pri mk) flo bnd frm too amt small a9 n9 w9 5).2.2.1)).2.2.2)) := h_17
          have := togF_le (ordL pri mk) flo bnd frm too amt (passF (ordL pri mk) flo bnd frm too amt small a9 n9 w9 5).1 (passF (ordL pri mk) flo bnd frm too amt small a9 n9 w9 5).2.1 (passF (ordL pri mk) flo bnd frm too amt small a9 n9 w9 5).2.2.1
          refine z_istore_n C dX4_run_23 rfl (by decide) [(0, .ref (ad 0)), (1, .int g9), (2, .int (nI i)), (3, .int (nI ((togF (ordL pri mk) flo bnd frm too amt ((passF (ordL pri mk) flo bnd frm too amt small a9 n9 w9 5).1) ((passF (ordL pri mk) flo bnd frm too amt small a9 n9 w9 5).2.1) ((passF (ordL pri mk) flo bnd frm too amt small a9 n9 w9 5).2.2.1)).2.2.2)))] [1, 2, 3, 0] rfl ?_
          refine z_iload_n C dX4_run_24 rfl 3 rfl ?_
          refine z_if_ne C (tgt := 30) dX4_run_25 (by decide) (fun c25_18 => ?_) (fun c25_18 => ?_)
          · skip
            have n_19 : ¬ ((togF (ordL pri mk) flo bnd frm too amt ((passF (ordL pri mk) flo bnd frm too amt small a9 n9 w9 5).1) ((passF (ordL pri mk) flo bnd frm too amt small a9 n9 w9 5).2.1) ((passF (ordL pri mk) flo bnd frm too amt small a9 n9 w9 5).2.2.1)).2.2.2) = 0 := fun q => c25_18 ((nI_eq (a := (togF (ordL pri mk) flo bnd frm too amt ((passF (ordL pri mk) flo bnd frm too amt small a9 n9 w9 5).1) ((passF (ordL pri mk) flo bnd frm too amt small a9 n9 w9 5).2.1) ((passF (ordL pri mk) flo bnd frm too amt small a9 n9 w9 5).2.2.1)).2.2.2) (b := 0) (by omega) (by omega)).mpr q)
            refine z_iload_n C dX4_run_30 rfl 1 rfl ?_
            refine z_iload_n C dX4_run_31 rfl 3 rfl ?_
            refine z_iadd C (v := (g9 + (nI ((togF (ordL pri mk) flo bnd frm too amt ((passF (ordL pri mk) flo bnd frm too amt small a9 n9 w9 5).1) ((passF (ordL pri mk) flo bnd frm too amt small a9 n9 w9 5).2.1) ((passF (ordL pri mk) flo bnd frm too amt small a9 n9 w9 5).2.2.1)).2.2.2)))) dX4_run_32 rfl ?_
            refine z_istore_n C dX4_run_33 rfl (by decide) [(0, .ref (ad 0)), (1, .int (g9 + (nI ((togF (ordL pri mk) flo bnd frm too amt ((passF (ordL pri mk) flo bnd frm too amt small a9 n9 w9 5).1) ((passF (ordL pri mk) flo bnd frm too amt small a9 n9 w9 5).2.1) ((passF (ordL pri mk) flo bnd frm too amt small a9 n9 w9 5).2.2.1)).2.2.2)))), (2, .int (nI i)), (3, .int (nI ((togF (ordL pri mk) flo bnd frm too amt ((passF (ordL pri mk) flo bnd frm too amt small a9 n9 w9 5).1) ((passF (ordL pri mk) flo bnd frm too amt small a9 n9 w9 5).2.1) ((passF (ordL pri mk) flo bnd frm too amt small a9 n9 w9 5).2.2.1)).2.2.2)))] [1, 0, 2, 3] rfl ?_
            refine z_iinc C (v := (nI (i + 1))) dX4_run_34 2 rfl (nI_add i 1) (by decide) [(0, .ref (ad 0)), (1, .int (g9 + (nI ((togF (ordL pri mk) flo bnd frm too amt ((passF (ordL pri mk) flo bnd frm too amt small a9 n9 w9 5).1) ((passF (ordL pri mk) flo bnd frm too amt small a9 n9 w9 5).2.1) ((passF (ordL pri mk) flo bnd frm too amt small a9 n9 w9 5).2.2.1)).2.2.2)))), (2, .int (nI (i + 1))), (3, .int (nI ((togF (ordL pri mk) flo bnd frm too amt ((passF (ordL pri mk) flo bnd frm too amt small a9 n9 w9 5).1) ((passF (ordL pri mk) flo bnd frm too amt small a9 n9 w9 5).2.1) ((passF (ordL pri mk) flo bnd frm too amt small a9 n9 w9 5).2.2.1)).2.2.2)))] [1, 2, 0, 3] rfl ?_
            refine z_goto C (tgt := 4) dX4_run_37 (by decide) ?_
            refine z_lv [(0, .ref (ad 0)), (1, .int (g9 + (nI ((togF (ordL pri mk) flo bnd frm too amt ((passF (ordL pri mk) flo bnd frm too amt small a9 n9 w9 5).1) ((passF (ordL pri mk) flo bnd frm too amt small a9 n9 w9 5).2.1) ((passF (ordL pri mk) flo bnd frm too amt small a9 n9 w9 5).2.2.1)).2.2.2)))), (2, .int (nI (i + 1)))] [0, 1, 2] rfl ?_
            exact ih_2 (i + 1) (g9 + (nI ((togF (ordL pri mk) flo bnd frm too amt ((passF (ordL pri mk) flo bnd frm too amt small a9 n9 w9 5).1) ((passF (ordL pri mk) flo bnd frm too amt small a9 n9 w9 5).2.1) ((passF (ordL pri mk) flo bnd frm too amt small a9 n9 w9 5).2.2.1)).2.2.2))) ((togF (ordL pri mk) flo bnd frm too amt ((passF (ordL pri mk) flo bnd frm too amt small a9 n9 w9 5).1) ((passF (ordL pri mk) flo bnd frm too amt small a9 n9 w9 5).2.1) ((passF (ordL pri mk) flo bnd frm too amt small a9 n9 w9 5).2.2.1)).1) ((togF (ordL pri mk) flo bnd frm too amt ((passF (ordL pri mk) flo bnd frm too amt small a9 n9 w9 5).1) ((passF (ordL pri mk) flo bnd frm too amt small a9 n9 w9 5).2.1) ((passF (ordL pri mk) flo bnd frm too amt small a9 n9 w9 5).2.2.1)).2.1) ((togF (ordL pri mk) flo bnd frm too amt ((passF (ordL pri mk) flo bnd frm too amt small a9 n9 w9 5).1) ((passF (ordL pri mk) flo bnd frm too amt small a9 n9 w9 5).2.1) ((passF (ordL pri mk) flo bnd frm too amt small a9 n9 w9 5).2.2.1)).2.2.1) u_15.1 u_15.2.1 u_15.2.2 (by omega) (by first | assumption | omega) (by rw [← hR, show 61 - i = (61 - (i + 1)) + 1 by omega]; simp only [runF, rndF, c7_4, n_6, c16_9, n_14, c25_18, n_19, if_true, if_false])
          · skip
            have n_20 : ((togF (ordL pri mk) flo bnd frm too amt ((passF (ordL pri mk) flo bnd frm too amt small a9 n9 w9 5).1) ((passF (ordL pri mk) flo bnd frm too amt small a9 n9 w9 5).2.1) ((passF (ordL pri mk) flo bnd frm too amt small a9 n9 w9 5).2.2.1)).2.2.2) = 0 := (nI_eq (a := (togF (ordL pri mk) flo bnd frm too amt ((passF (ordL pri mk) flo bnd frm too amt small a9 n9 w9 5).1) ((passF (ordL pri mk) flo bnd frm too amt small a9 n9 w9 5).2.1) ((passF (ordL pri mk) flo bnd frm too amt small a9 n9 w9 5).2.2.1)).2.2.2) (b := 0) (by omega) (by omega)).mp c25_18
            refine z_iload_n C dX4_run_28 rfl 1 rfl ?_
            exact z_iret C (u_15.1, u_15.2.1, u_15.2.2) (by first | (exfalso; omega) | (rw [← hR, show 61 - i = (60 - i) + 1 by omega]; simp only [runF, rndF, c7_4, n_6, c16_9, n_14, c25_18, n_20, if_true])) (by first | (exfalso; omega) | (rw [← hR, show 61 - i = (60 - i) + 1 by omega]; simp only [runF, rndF, c7_4, n_6, c16_9, n_14, c25_18, n_20, if_true])) (by decide) (by decide) dX4_run_29
  refine z_lveq [(0, .ref (ad 0)), (1, .int 0), (2, .int (nI 0))] (by rfl) ?_
  exact L4_k_1 (61 - 0 + 1) 0 0 acc net wai cnd tacc tnet (Nat.lt_succ_self _) (by first | assumption | omega) (by rfl)
