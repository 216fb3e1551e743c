theorem m_X5_at_f79 : Cond.fieldLink RX5 79 "QueuefloatModel" "payments" "I" ∈ wsX5_at := by decide +kernel
theorem i_X5_at_X5 : ∀ w ∈ wsX50, w ∈ wsX5_at := by decide +kernel
theorem m_X5_at_f41 : Cond.fieldLink RX5 41 "QueuefloatModel" "isWaiting" "[Z" ∈ wsX5_at := by decide +kernel
theorem m_X5_at_f29 : Cond.fieldLink RX5 29 "QueuefloatModel" "from" "[I" ∈ wsX5_at := by decide +kernel
theorem m_X5_at_f38 : Cond.fieldLink RX5 38 "QueuefloatModel" "priority" "[I" ∈ wsX5_at := by decide +kernel
theorem m_X5_reason_f29 : Cond.fieldLink RX5 29 "QueuefloatModel" "from" "[I" ∈ wsX5_reason := by decide +kernel
theorem i_X5_reason_X5 : ∀ w ∈ wsX50, w ∈ wsX5_reason := by decide +kernel
theorem m_X5_reason_f32 : Cond.fieldLink RX5 32 "QueuefloatModel" "to" "[I" ∈ wsX5_reason := by decide +kernel
theorem m_X5_reason_f41 : Cond.fieldLink RX5 41 "QueuefloatModel" "isWaiting" "[Z" ∈ wsX5_reason := by decide +kernel
theorem m_X5_reason_f7 : Cond.fieldLink RX5 7 "QueuefloatModel" "account" "[I" ∈ wsX5_reason := by decide +kernel
theorem m_X5_reason_f35 : Cond.fieldLink RX5 35 "QueuefloatModel" "amount" "[I" ∈ wsX5_reason := by decide +kernel
theorem m_X5_reason_f13 : Cond.fieldLink RX5 13 "QueuefloatModel" "floor" "[I" ∈ wsX5_reason := by decide +kernel
theorem m_X5_reason_f23 : Cond.fieldLink RX5 23 "QueuefloatModel" "paid" "[I" ∈ wsX5_reason := by decide +kernel
theorem m_X5_reason_f26 : Cond.fieldLink RX5 26 "QueuefloatModel" "bound" "[I" ∈ wsX5_reason := by decide +kernel
theorem m_X5_moves_f35 : Cond.fieldLink RX5 35 "QueuefloatModel" "amount" "[I" ∈ wsX5_moves := by decide +kernel
theorem i_X5_moves_X5 : ∀ w ∈ wsX50, w ∈ wsX5_moves := by decide +kernel
theorem m_X5_moves_f7 : Cond.fieldLink RX5 7 "QueuefloatModel" "account" "[I" ∈ wsX5_moves := by decide +kernel
theorem m_X5_moves_f29 : Cond.fieldLink RX5 29 "QueuefloatModel" "from" "[I" ∈ wsX5_moves := by decide +kernel
theorem m_X5_moves_f32 : Cond.fieldLink RX5 32 "QueuefloatModel" "to" "[I" ∈ wsX5_moves := by decide +kernel
theorem m_X5_moves_f23 : Cond.fieldLink RX5 23 "QueuefloatModel" "paid" "[I" ∈ wsX5_moves := by decide +kernel
theorem m_X5_goes_f41 : Cond.fieldLink RX5 41 "QueuefloatModel" "isWaiting" "[Z" ∈ wsX5_goes := by decide +kernel
theorem i_X5_goes_X5 : ∀ w ∈ wsX50, w ∈ wsX5_goes := by decide +kernel
theorem m_X5_isSound_f7 : Cond.fieldLink RX5 7 "QueuefloatModel" "account" "[I" ∈ wsX5_isSound := by decide +kernel
theorem i_X5_isSound_X5 : ∀ w ∈ wsX50, w ∈ wsX5_isSound := by decide +kernel
theorem m_X5_isSound_f13 : Cond.fieldLink RX5 13 "QueuefloatModel" "floor" "[I" ∈ wsX5_isSound := by decide +kernel
theorem m_X5_isSound_f23 : Cond.fieldLink RX5 23 "QueuefloatModel" "paid" "[I" ∈ wsX5_isSound := by decide +kernel
theorem m_X5_isSound_f26 : Cond.fieldLink RX5 26 "QueuefloatModel" "bound" "[I" ∈ wsX5_isSound := by decide +kernel
theorem m_X5_next_f35 : Cond.fieldLink RX5 35 "QueuefloatModel" "amount" "[I" ∈ wsX5_next := by decide +kernel
theorem i_X5_next_X5 : ∀ w ∈ wsX50, w ∈ wsX5_next := by decide +kernel
theorem m_X5_next_f44 : Cond.fieldLink RX5 44 "QueuefloatModel" "small" "I" ∈ wsX5_next := by decide +kernel
theorem m_X5_firsts_f48 : Cond.fieldLink RX5 48 "QueuefloatModel" "first" "[I" ∈ wsX5_firsts := by decide +kernel
theorem i_X5_firsts_X5 : ∀ w ∈ wsX50, w ∈ wsX5_firsts := by decide +kernel
theorem m_X5_isSet_f48 : Cond.fieldLink RX5 48 "QueuefloatModel" "first" "[I" ∈ wsX5_isSet := by decide +kernel
theorem i_X5_isSet_X5 : ∀ w ∈ wsX50, w ∈ wsX5_isSet := by decide +kernel
set_option maxHeartbeats 4000000 in
set_option maxRecDepth 100000 in
theorem m_at (l : Launch) (sa : Nat → Nat) (D : va_G) (cI cZ cL : ClassId) (md : Nat → Nat) (acc flo pap clo net bnd frm too amt pri wai fst ldr bor lnt rat plg opn : Nat → Int32) (small price cut proc thr : Int32) (mk lm : Nat) (b : Nat) (k : Nat) (hb : b < 5) (hk : k < 2147483648) (hmk : mk ≤ 60) (hfrm : wf5 mk frm) (htoo : wf5 mk too) : zMi (T := Unit) sa D vwCl (zty cI cZ cL) l yX5_at wsX5_at ({ frames := 0, cells := 0, slots := 0, locals := 0 } : Room) [.ref (md 0), .int (nI b), .int (nI k)] (wM md cI cZ acc flo pap clo net bnd frm too amt pri wai fst ldr bor lnt rat plg opn (nI mk) small (nI lm) price cut proc thr) (fun r9 _ => r9 = oI (atQ (ordL pri mk) (isq wai frm b) k)) (fun _ => (wM md cI cZ acc flo pap clo net bnd frm too amt pri wai fst ldr bor lnt rat plg opn (nI mk) small (nI lm) price cut proc thr)) 0 0 := by
  refine zMi.of (ret := (some .int)) (cc := cX5_at) (nL := 6) (own := RX5) (by decide +kernel) rfl [(0, .ref (md 0)), (1, .int (nI b)), (2, .int (nI k))] rfl (Nat.le_of_ble_eq_true rfl) rfl ?_
  intro A p e s m args below meth c C hmn
  refine z_iconst C (v := 0) dX5_at_0 (by decide) ?_
  refine z_istore_n C dX5_at_1 rfl (by decide) [(0, .ref (md 0)), (1, .int (nI b)), (2, .int (nI k)), (3, .int 0)] [1, 2, 3, 0] rfl ?_
  refine z_iconst C (v := 2) dX5_at_2 (by decide) ?_
  refine z_istore C dX5_at_3 (by decide) [(0, .ref (md 0)), (1, .int (nI b)), (2, .int (nI k)), (3, .int 0), (4, .int 2)] [1, 2, 3, 4, 0] rfl ?_
  refine z_iload C dX5_at_5 4 rfl ?_
  refine z_if_lt C (tgt := 78) dX5_at_7 (by decide) (fun h => absurd h (by decide)) (fun _ => ?_)
  refine z_iconst C (v := 0) dX5_at_10 (by decide) ?_
  refine z_istore C dX5_at_11 (by decide) [(0, .ref (md 0)), (1, .int (nI b)), (2, .int (nI k)), (3, .int 0), (4, .int 2), (5, .int 0)] [1, 2, 3, 4, 5, 0] rfl ?_
  have L13_k_1 : ∀ (n : Nat) (a i : Nat), mk - i < n → (i ≤ mk) → (a ≤ k) → (a = ((([] : List Nat) ++ fl pri 2 i).filter (isq wai frm b)).length) → zW p l e ({ frames := 0, cells := 0, slots := 0, locals := 0 } : Room) s m args below meth c (MQ below (zQi (T := Unit) D vwCl (zty cI cZ cL) A (fun r9 _ => r9 = oI (atQ (ordL pri mk) (isq wai frm b) k)) (fun _ => (wM md cI cZ acc flo pap clo net bnd frm too amt pri wai fst ldr bor lnt rat plg opn (nI mk) small (nI lm) price cut proc thr))) args s 0 0 A) D vwCl A 6 0 0 (wM md cI cZ acc flo pap clo net bnd frm too amt pri wai fst ldr bor lnt rat plg opn (nI mk) small (nI lm) price cut proc thr) [(0, .ref (md 0)), (1, .int (nI b)), (2, .int (nI k)), (3, .int (nI a)), (4, .int 2), (5, .int (nI i))] 13 [] := by
    intro n
    induction n with
    | zero => intros; omega
    | succ n ih =>
      intro a i hm hi hak ha
      refine z_iload C dX5_at_13 5 rfl ?_
      refine z_aload_n C dX5_at_15 rfl 0 rfl ?_
      refine z_get C 0 rfl i_X5_at_X5 rfl 6 (by decide) m_X5_at_f79 rfl rfl dX5_at_16 ?_
      refine z_icmp_ge C (tgt := 72) dX5_at_19 (by decide) (fun c19_2 => ?_) (fun c19_2 => ?_)
      · skip
        have n_3 : mk ≤ i := (nI_leI (a := mk) (b := i) (by omega) (by omega)).mp c19_2
        refine z_iinc C (v := 1) dX5_at_72 4 rfl (by decide) (by decide) [(0, .ref (md 0)), (1, .int (nI b)), (2, .int (nI k)), (3, .int (nI a)), (4, .int 1), (5, .int (nI i))] [1, 2, 3, 4, 0, 5] rfl ?_
        refine z_goto C (tgt := 5) dX5_at_75 (by decide) ?_
        refine z_iload C dX5_at_5 4 rfl ?_
        refine z_if_lt C (tgt := 78) dX5_at_7 (by decide) (fun h => absurd h (by decide)) (fun _ => ?_)
        refine z_iconst C (v := 0) dX5_at_10 (by decide) ?_
        refine z_istore C dX5_at_11 (by decide) [(0, .ref (md 0)), (1, .int (nI b)), (2, .int (nI k)), (3, .int (nI a)), (4, .int 1), (5, .int 0)] [1, 2, 3, 4, 5, 0] rfl ?_
        have L13_k_4 : ∀ (n : Nat) (a i : Nat), mk - i < n → (i ≤ mk) → (a ≤ k) → (a = (((fl pri 2 mk) ++ fl pri 1 i).filter (isq wai frm b)).length) → zW p l e ({ frames := 0, cells := 0, slots := 0, locals := 0 } : Room) s m args below meth c (MQ below (zQi (T := Unit) D vwCl (zty cI cZ cL) A (fun r9 _ => r9 = oI (atQ (ordL pri mk) (isq wai frm b) k)) (fun _ => (wM md cI cZ acc flo pap clo net bnd frm too amt pri wai fst ldr bor lnt rat plg opn (nI mk) small (nI lm) price cut proc thr))) args s 0 0 A) D vwCl A 6 0 0 (wM md cI cZ acc flo pap clo net bnd frm too amt pri wai fst ldr bor lnt rat plg opn (nI mk) small (nI lm) price cut proc thr) [(0, .ref (md 0)), (1, .int (nI b)), (2, .int (nI k)), (3, .int (nI a)), (4, .int 1), (5, .int (nI i))] 13 [] := by
          intro n
          induction n with
          | zero => intros; omega
          | succ n ih =>
            intro a i hm hi hak ha
            refine z_iload C dX5_at_13 5 rfl ?_
            refine z_aload_n C dX5_at_15 rfl 0 rfl ?_
            refine z_get C 0 rfl i_X5_at_X5 rfl 6 (by decide) m_X5_at_f79 rfl rfl dX5_at_16 ?_
            refine z_icmp_ge C (tgt := 72) dX5_at_19 (by decide) (fun c19_5 => ?_) (fun c19_5 => ?_)
            · skip
              have n_6 : mk ≤ i := (nI_leI (a := mk) (b := i) (by omega) (by omega)).mp c19_5
              refine z_iinc C (v := 0) dX5_at_72 4 rfl (by decide) (by decide) [(0, .ref (md 0)), (1, .int (nI b)), (2, .int (nI k)), (3, .int (nI a)), (4, .int 0), (5, .int (nI i))] [1, 2, 3, 4, 0, 5] rfl ?_
              refine z_goto C (tgt := 5) dX5_at_75 (by decide) ?_
              refine z_iload C dX5_at_5 4 rfl ?_
              refine z_if_lt C (tgt := 78) dX5_at_7 (by decide) (fun h => absurd h (by decide)) (fun _ => ?_)
              refine z_iconst C (v := 0) dX5_at_10 (by decide) ?_
              refine z_istore C dX5_at_11 (by decide) [(0, .ref (md 0)), (1, .int (nI b)), (2, .int (nI k)), (3, .int (nI a)), (4, .int 0), (5, .int 0)] [1, 2, 3, 4, 5, 0] rfl ?_
              have L13_k_7 : ∀ (n : Nat) (a i : Nat), mk - i < n → (i ≤ mk) → (a ≤ k) → (a = (((fl pri 2 mk ++ fl pri 1 mk) ++ fl pri 0 i).filter (isq wai frm b)).length) → zW p l e ({ frames := 0, cells := 0, slots := 0, locals := 0 } : Room) s m args below meth c (MQ below (zQi (T := Unit) D vwCl (zty cI cZ cL) A (fun r9 _ => r9 = oI (atQ (ordL pri mk) (isq wai frm b) k)) (fun _ => (wM md cI cZ acc flo pap clo net bnd frm too amt pri wai fst ldr bor lnt rat plg opn (nI mk) small (nI lm) price cut proc thr))) args s 0 0 A) D vwCl A 6 0 0 (wM md cI cZ acc flo pap clo net bnd frm too amt pri wai fst ldr bor lnt rat plg opn (nI mk) small (nI lm) price cut proc thr) [(0, .ref (md 0)), (1, .int (nI b)), (2, .int (nI k)), (3, .int (nI a)), (4, .int 0), (5, .int (nI i))] 13 [] := by
                intro n
                induction n with
                | zero => intros; omega
                | succ n ih =>
                  intro a i hm hi hak ha
                  refine z_iload C dX5_at_13 5 rfl ?_
                  refine z_aload_n C dX5_at_15 rfl 0 rfl ?_
                  refine z_get C 0 rfl i_X5_at_X5 rfl 6 (by decide) m_X5_at_f79 rfl rfl dX5_at_16 ?_
                  refine z_icmp_ge C (tgt := 72) dX5_at_19 (by decide) (fun c19_8 => ?_) (fun c19_8 => ?_)
                  · skip
                    have n_9 : mk ≤ i := (nI_leI (a := mk) (b := i) (by omega) (by omega)).mp c19_8
                    refine z_iinc C (v := (-1)) dX5_at_72 4 rfl (by decide) (by decide) [(0, .ref (md 0)), (1, .int (nI b)), (2, .int (nI k)), (3, .int (nI a)), (4, .int (-1)), (5, .int (nI i))] [1, 2, 3, 4, 0, 5] rfl ?_
                    refine z_goto C (tgt := 5) dX5_at_75 (by decide) ?_
                    refine z_iload C dX5_at_5 4 rfl ?_
                    refine z_if_lt C (tgt := 78) dX5_at_7 (by decide) (fun _ => ?_) (fun h => absurd h (by decide))
                    refine z_iconst C (v := (-1)) dX5_at_78 (by decide) ?_
                    exact z_iret C () (by rw [at_miss (by rw [show i = mk by omega] at ha; rw [ord1, ← ha]; exact hak)]; rfl) rfl (by decide) (by decide) dX5_at_79
                  · skip
                    have n_10 : ¬ mk ≤ i := fun q => c19_8 ((nI_leI (a := mk) (b := i) (by omega) (by omega)).mpr q)
                    refine z_aload_n C dX5_at_22 rfl 0 rfl ?_
                    refine z_get C 0 rfl i_X5_at_X5 rfl 11 (by decide) m_X5_at_f41 rfl rfl dX5_at_23 ?_
                    refine z_iload C dX5_at_26 5 rfl ?_
                    refine z_zald C 11 1 rfl rfl i (nI_clamp (by omega)) (vp_in_nI (by omega) (by omega)) (wai i) rfl dX5_at_28 ?_
                    refine z_if_eq C (tgt := 66) dX5_at_29 (by decide) (fun c29_11 => ?_) (fun c29_11 => ?_)
                    · skip
                      refine z_iinc C (v := (nI (i + 1))) dX5_at_66 5 rfl (nI_add i 1) (by decide) [(0, .ref (md 0)), (1, .int (nI b)), (2, .int (nI k)), (3, .int (nI a)), (4, .int 0), (5, .int (nI (i + 1)))] [1, 2, 3, 4, 5, 0] rfl ?_
                      refine z_goto C (tgt := 13) dX5_at_69 (by decide) ?_
                      exact ih a (i + 1) (by omega) (by first | assumption | omega) (by first | assumption | omega) (by rw [at_no1 (f := isq wai frm b) (i := i) (by simp [isq, c19_8, n_10, c29_11])]; exact ha)
                    · skip
                      refine z_aload_n C dX5_at_32 rfl 0 rfl ?_
                      refine z_get C 0 rfl i_X5_at_X5 rfl 7 (by decide) m_X5_at_f29 rfl rfl dX5_at_33 ?_
                      refine z_iload C dX5_at_36 5 rfl ?_
                      have := (hfrm i (by omega)).2
                      refine z_iald C 7 0 rfl rfl i (nI_clamp (by omega)) (vp_in_nI (by omega) (by omega)) (nI (ix (frm i))) (hfrm i (by omega)).1 dX5_at_38 ?_
                      refine z_iload_n C dX5_at_39 rfl 1 rfl ?_
                      refine z_icmp_ne C (tgt := 66) dX5_at_40 (by decide) (fun c40_12 => ?_) (fun c40_12 => ?_)
                      · skip
                        have n_13 : ¬ (ix (frm i)) = b := fun q => c40_12 ((nI_eq (a := ix (frm i)) (b := b) (by omega) (by omega)).mpr q)
                        refine z_iinc C (v := (nI (i + 1))) dX5_at_66 5 rfl (nI_add i 1) (by decide) [(0, .ref (md 0)), (1, .int (nI b)), (2, .int (nI k)), (3, .int (nI a)), (4, .int 0), (5, .int (nI (i + 1)))] [1, 2, 3, 4, 5, 0] rfl ?_
                        refine z_goto C (tgt := 13) dX5_at_69 (by decide) ?_
                        exact ih a (i + 1) (by omega) (by first | assumption | omega) (by first | assumption | omega) (by rw [at_no1 (f := isq wai frm b) (i := i) (by simp [isq, c19_8, n_10, c29_11, c40_12, n_13])]; exact ha)
                      · skip
                        have n_14 : (ix (frm i)) = b := (nI_eq (a := ix (frm i)) (b := b) (by omega) (by omega)).mp c40_12
                        refine z_aload_n C dX5_at_43 rfl 0 rfl ?_
                        refine z_get C 0 rfl i_X5_at_X5 rfl 10 (by decide) m_X5_at_f38 rfl rfl dX5_at_44 ?_
                        refine z_iload C dX5_at_47 5 rfl ?_
                        refine z_iald C 10 0 rfl rfl i (nI_clamp (by omega)) (vp_in_nI (by omega) (by omega)) (pri i) rfl dX5_at_49 ?_
                        refine z_iload C dX5_at_50 4 rfl ?_
                        refine z_icmp_ne C (tgt := 66) dX5_at_52 (by decide) (fun c52_15 => ?_) (fun c52_15 => ?_)
                        · skip
                          refine z_iinc C (v := (nI (i + 1))) dX5_at_66 5 rfl (nI_add i 1) (by decide) [(0, .ref (md 0)), (1, .int (nI b)), (2, .int (nI k)), (3, .int (nI a)), (4, .int 0), (5, .int (nI (i + 1)))] [1, 2, 3, 4, 5, 0] rfl ?_
                          refine z_goto C (tgt := 13) dX5_at_69 (by decide) ?_
                          exact ih a (i + 1) (by omega) (by first | assumption | omega) (by first | assumption | omega) (by rw [at_no2 (by assumption)]; exact ha)
                        · skip
                          refine z_iload_n C dX5_at_55 rfl 3 rfl ?_
                          refine z_iload_n C dX5_at_56 rfl 2 rfl ?_
                          refine z_icmp_ne C (tgt := 63) dX5_at_57 (by decide) (fun c57_16 => ?_) (fun c57_16 => ?_)
                          · skip
                            have n_17 : ¬ a = k := fun q => c57_16 ((nI_eq (a := a) (b := k) (by omega) (by omega)).mpr q)
                            refine z_iinc C (v := (nI (a + 1))) dX5_at_63 3 rfl (nI_add a 1) (by decide) [(0, .ref (md 0)), (1, .int (nI b)), (2, .int (nI k)), (3, .int (nI (a + 1))), (4, .int 0), (5, .int (nI i))] [1, 2, 3, 0, 4, 5] rfl ?_
                            refine z_iinc C (v := (nI (i + 1))) dX5_at_66 5 rfl (nI_add i 1) (by decide) [(0, .ref (md 0)), (1, .int (nI b)), (2, .int (nI k)), (3, .int (nI (a + 1))), (4, .int 0), (5, .int (nI (i + 1)))] [1, 2, 3, 4, 5, 0] rfl ?_
                            refine z_goto C (tgt := 13) dX5_at_69 (by decide) ?_
                            exact ih (a + 1) (i + 1) (by omega) (by first | assumption | omega) (by first | assumption | omega) (by rw [at_y (f := isq wai frm b) (i := i) (by simp [isq, c19_8, n_10, c29_11, c40_12, n_14, c52_15, c57_16, n_17]) (by assumption)]; omega)
                          · skip
                            have n_18 : a = k := (nI_eq (a := a) (b := k) (by omega) (by omega)).mp c57_16
                            refine z_iload C dX5_at_60 5 rfl ?_
                            exact z_iret C () (by rw [at_hit (f := isq wai frm b) (i := i) (ord0 pri mk) (by omega) (by simp [isq, c19_2, n_3, c19_5, n_6, c19_8, n_10, c29_11, c40_12, n_14, c52_15, c57_16, n_18]) (by assumption) (show k = _ by omega)]; rfl) rfl (by decide) (by decide) dX5_at_62
              refine z_lveq [(0, .ref (md 0)), (1, .int (nI b)), (2, .int (nI k)), (3, .int (nI a)), (4, .int 0), (5, .int (nI 0))] (by rfl) ?_
              exact L13_k_7 (mk - 0 + 1) a 0 (Nat.lt_succ_self _) (by omega) (by first | assumption | omega) (by rw [fl_0, List.append_nil]; rw [show i = mk by omega] at ha; exact ha)
            · skip
              have n_19 : ¬ mk ≤ i := fun q => c19_5 ((nI_leI (a := mk) (b := i) (by omega) (by omega)).mpr q)
              refine z_aload_n C dX5_at_22 rfl 0 rfl ?_
              refine z_get C 0 rfl i_X5_at_X5 rfl 11 (by decide) m_X5_at_f41 rfl rfl dX5_at_23 ?_
              refine z_iload C dX5_at_26 5 rfl ?_
              refine z_zald C 11 1 rfl rfl i (nI_clamp (by omega)) (vp_in_nI (by omega) (by omega)) (wai i) rfl dX5_at_28 ?_
              refine z_if_eq C (tgt := 66) dX5_at_29 (by decide) (fun c29_20 => ?_) (fun c29_20 => ?_)
              · skip
                refine z_iinc C (v := (nI (i + 1))) dX5_at_66 5 rfl (nI_add i 1) (by decide) [(0, .ref (md 0)), (1, .int (nI b)), (2, .int (nI k)), (3, .int (nI a)), (4, .int 1), (5, .int (nI (i + 1)))] [1, 2, 3, 4, 5, 0] rfl ?_
                refine z_goto C (tgt := 13) dX5_at_69 (by decide) ?_
                exact ih a (i + 1) (by omega) (by first | assumption | omega) (by first | assumption | omega) (by rw [at_no1 (f := isq wai frm b) (i := i) (by simp [isq, c19_5, n_19, c29_20])]; exact ha)
              · skip
                refine z_aload_n C dX5_at_32 rfl 0 rfl ?_
                refine z_get C 0 rfl i_X5_at_X5 rfl 7 (by decide) m_X5_at_f29 rfl rfl dX5_at_33 ?_
                refine z_iload C dX5_at_36 5 rfl ?_
                have := (hfrm i (by omega)).2
                refine z_iald C 7 0 rfl rfl i (nI_clamp (by omega)) (vp_in_nI (by omega) (by omega)) (nI (ix (frm i))) (hfrm i (by omega)).1 dX5_at_38 ?_
                refine z_iload_n C dX5_at_39 rfl 1 rfl ?_
                refine z_icmp_ne C (tgt := 66) dX5_at_40 (by decide) (fun c40_21 => ?_) (fun c40_21 => ?_)
                · skip
                  have n_22 : ¬ (ix (frm i)) = b := fun q => c40_21 ((nI_eq (a := ix (frm i)) (b := b) (by omega) (by omega)).mpr q)
                  refine z_iinc C (v := (nI (i + 1))) dX5_at_66 5 rfl (nI_add i 1) (by decide) [(0, .ref (md 0)), (1, .int (nI b)), (2, .int (nI k)), (3, .int (nI a)), (4, .int 1), (5, .int (nI (i + 1)))] [1, 2, 3, 4, 5, 0] rfl ?_
                  refine z_goto C (tgt := 13) dX5_at_69 (by decide) ?_
                  exact ih a (i + 1) (by omega) (by first | assumption | omega) (by first | assumption | omega) (by rw [at_no1 (f := isq wai frm b) (i := i) (by simp [isq, c19_5, n_19, c29_20, c40_21, n_22])]; exact ha)
                · skip
                  have n_23 : (ix (frm i)) = b := (nI_eq (a := ix (frm i)) (b := b) (by omega) (by omega)).mp c40_21
                  refine z_aload_n C dX5_at_43 rfl 0 rfl ?_
                  refine z_get C 0 rfl i_X5_at_X5 rfl 10 (by decide) m_X5_at_f38 rfl rfl dX5_at_44 ?_
                  refine z_iload C dX5_at_47 5 rfl ?_
                  refine z_iald C 10 0 rfl rfl i (nI_clamp (by omega)) (vp_in_nI (by omega) (by omega)) (pri i) rfl dX5_at_49 ?_
                  refine z_iload C dX5_at_50 4 rfl ?_
                  refine z_icmp_ne C (tgt := 66) dX5_at_52 (by decide) (fun c52_24 => ?_) (fun c52_24 => ?_)
                  · skip
                    refine z_iinc C (v := (nI (i + 1))) dX5_at_66 5 rfl (nI_add i 1) (by decide) [(0, .ref (md 0)), (1, .int (nI b)), (2, .int (nI k)), (3, .int (nI a)), (4, .int 1), (5, .int (nI (i + 1)))] [1, 2, 3, 4, 5, 0] rfl ?_
                    refine z_goto C (tgt := 13) dX5_at_69 (by decide) ?_
                    exact ih a (i + 1) (by omega) (by first | assumption | omega) (by first | assumption | omega) (by rw [at_no2 (by assumption)]; exact ha)
                  · skip
                    refine z_iload_n C dX5_at_55 rfl 3 rfl ?_
                    refine z_iload_n C dX5_at_56 rfl 2 rfl ?_
                    refine z_icmp_ne C (tgt := 63) dX5_at_57 (by decide) (fun c57_25 => ?_) (fun c57_25 => ?_)
                    · skip
                      have n_26 : ¬ a = k := fun q => c57_25 ((nI_eq (a := a) (b := k) (by omega) (by omega)).mpr q)
                      refine z_iinc C (v := (nI (a + 1))) dX5_at_63 3 rfl (nI_add a 1) (by decide) [(0, .ref (md 0)), (1, .int (nI b)), (2, .int (nI k)), (3, .int (nI (a + 1))), (4, .int 1), (5, .int (nI i))] [1, 2, 3, 0, 4, 5] rfl ?_
                      refine z_iinc C (v := (nI (i + 1))) dX5_at_66 5 rfl (nI_add i 1) (by decide) [(0, .ref (md 0)), (1, .int (nI b)), (2, .int (nI k)), (3, .int (nI (a + 1))), (4, .int 1), (5, .int (nI (i + 1)))] [1, 2, 3, 4, 5, 0] rfl ?_
                      refine z_goto C (tgt := 13) dX5_at_69 (by decide) ?_
                      exact ih (a + 1) (i + 1) (by omega) (by first | assumption | omega) (by first | assumption | omega) (by rw [at_y (f := isq wai frm b) (i := i) (by simp [isq, c19_5, n_19, c29_20, c40_21, n_23, c52_24, c57_25, n_26]) (by assumption)]; omega)
                    · skip
                      have n_27 : a = k := (nI_eq (a := a) (b := k) (by omega) (by omega)).mp c57_25
                      refine z_iload C dX5_at_60 5 rfl ?_
                      exact z_iret C () (by rw [at_hit (f := isq wai frm b) (i := i) (ord1 pri mk) (by omega) (by simp [isq, c19_2, n_3, c19_5, n_19, c29_20, c40_21, n_23, c52_24, c57_25, n_27]) (by assumption) (show k = _ by omega)]; rfl) rfl (by decide) (by decide) dX5_at_62
        refine z_lveq [(0, .ref (md 0)), (1, .int (nI b)), (2, .int (nI k)), (3, .int (nI a)), (4, .int 1), (5, .int (nI 0))] (by rfl) ?_
        exact L13_k_4 (mk - 0 + 1) a 0 (Nat.lt_succ_self _) (by omega) (by first | assumption | omega) (by rw [fl_0, List.append_nil]; rw [show i = mk by omega] at ha; rw [ha, List.nil_append])
      · skip
        have n_28 : ¬ mk ≤ i := fun q => c19_2 ((nI_leI (a := mk) (b := i) (by omega) (by omega)).mpr q)
        refine z_aload_n C dX5_at_22 rfl 0 rfl ?_
        refine z_get C 0 rfl i_X5_at_X5 rfl 11 (by decide) m_X5_at_f41 rfl rfl dX5_at_23 ?_
        refine z_iload C dX5_at_26 5 rfl ?_
        refine z_zald C 11 1 rfl rfl i (nI_clamp (by omega)) (vp_in_nI (by omega) (by omega)) (wai i) rfl dX5_at_28 ?_
        refine z_if_eq C (tgt := 66) dX5_at_29 (by decide) (fun c29_29 => ?_) (fun c29_29 => ?_)
        · skip
          refine z_iinc C (v := (nI (i + 1))) dX5_at_66 5 rfl (nI_add i 1) (by decide) [(0, .ref (md 0)), (1, .int (nI b)), (2, .int (nI k)), (3, .int (nI a)), (4, .int 2), (5, .int (nI (i + 1)))] [1, 2, 3, 4, 5, 0] rfl ?_
          refine z_goto C (tgt := 13) dX5_at_69 (by decide) ?_
          exact ih a (i + 1) (by omega) (by first | assumption | omega) (by first | assumption | omega) (by rw [at_no1 (f := isq wai frm b) (i := i) (by simp [isq, c19_2, n_28, c29_29])]; exact ha)
        · skip
          refine z_aload_n C dX5_at_32 rfl 0 rfl ?_
          refine z_get C 0 rfl i_X5_at_X5 rfl 7 (by decide) m_X5_at_f29 rfl rfl dX5_at_33 ?_
          refine z_iload C dX5_at_36 5 rfl ?_
          have := (hfrm i (by omega)).2
          refine z_iald C 7 0 rfl rfl i (nI_clamp (by omega)) (vp_in_nI (by omega) (by omega)) (nI (ix (frm i))) (hfrm i (by omega)).1 dX5_at_38 ?_
          refine z_iload_n C dX5_at_39 rfl 1 rfl ?_
          refine z_icmp_ne C (tgt := 66) dX5_at_40 (by decide) (fun c40_30 => ?_) (fun c40_30 => ?_)
          · skip
            have n_31 : ¬ (ix (frm i)) = b := fun q => c40_30 ((nI_eq (a := ix (frm i)) (b := b) (by omega) (by omega)).mpr q)
            refine z_iinc C (v := (nI (i + 1))) dX5_at_66 5 rfl (nI_add i 1) (by decide) [(0, .ref (md 0)), (1, .int (nI b)), (2, .int (nI k)), (3, .int (nI a)), (4, .int 2), (5, .int (nI (i + 1)))] [1, 2, 3, 4, 5, 0] rfl ?_
            refine z_goto C (tgt := 13) dX5_at_69 (by decide) ?_
            exact ih a (i + 1) (by omega) (by first | assumption | omega) (by first | assumption | omega) (by rw [at_no1 (f := isq wai frm b) (i := i) (by simp [isq, c19_2, n_28, c29_29, c40_30, n_31])]; exact ha)
          · skip
            have n_32 : (ix (frm i)) = b := (nI_eq (a := ix (frm i)) (b := b) (by omega) (by omega)).mp c40_30
            refine z_aload_n C dX5_at_43 rfl 0 rfl ?_
            refine z_get C 0 rfl i_X5_at_X5 rfl 10 (by decide) m_X5_at_f38 rfl rfl dX5_at_44 ?_
            refine z_iload C dX5_at_47 5 rfl ?_
            refine z_iald C 10 0 rfl rfl i (nI_clamp (by omega)) (vp_in_nI (by omega) (by omega)) (pri i) rfl dX5_at_49 ?_
            refine z_iload C dX5_at_50 4 rfl ?_
            refine z_icmp_ne C (tgt := 66) dX5_at_52 (by decide) (fun c52_33 => ?_) (fun c52_33 => ?_)
            · skip
              refine z_iinc C (v := (nI (i + 1))) dX5_at_66 5 rfl (nI_add i 1) (by decide) [(0, .ref (md 0)), (1, .int (nI b)), (2, .int (nI k)), (3, .int (nI a)), (4, .int 2), (5, .int (nI (i + 1)))] [1, 2, 3, 4, 5, 0] rfl ?_
              refine z_goto C (tgt := 13) dX5_at_69 (by decide) ?_
              exact ih a (i + 1) (by omega) (by first | assumption | omega) (by first | assumption | omega) (by rw [at_no2 (by assumption)]; exact ha)
            · skip
              refine z_iload_n C dX5_at_55 rfl 3 rfl ?_
              refine z_iload_n C dX5_at_56 rfl 2 rfl ?_
              refine z_icmp_ne C (tgt := 63) dX5_at_57 (by decide) (fun c57_34 => ?_) (fun c57_34 => ?_)
              · skip
                have n_35 : ¬ a = k := fun q => c57_34 ((nI_eq (a := a) (b := k) (by omega) (by omega)).mpr q)
                refine z_iinc C (v := (nI (a + 1))) dX5_at_63 3 rfl (nI_add a 1) (by decide) [(0, .ref (md 0)), (1, .int (nI b)), (2, .int (nI k)), (3, .int (nI (a + 1))), (4, .int 2), (5, .int (nI i))] [1, 2, 3, 0, 4, 5] rfl ?_
                refine z_iinc C (v := (nI (i + 1))) dX5_at_66 5 rfl (nI_add i 1) (by decide) [(0, .ref (md 0)), (1, .int (nI b)), (2, .int (nI k)), (3, .int (nI (a + 1))), (4, .int 2), (5, .int (nI (i + 1)))] [1, 2, 3, 4, 5, 0] rfl ?_
                refine z_goto C (tgt := 13) dX5_at_69 (by decide) ?_
                exact ih (a + 1) (i + 1) (by omega) (by first | assumption | omega) (by first | assumption | omega) (by rw [at_y (f := isq wai frm b) (i := i) (by simp [isq, c19_2, n_28, c29_29, c40_30, n_32, c52_33, c57_34, n_35]) (by assumption)]; omega)
              · skip
                have n_36 : a = k := (nI_eq (a := a) (b := k) (by omega) (by omega)).mp c57_34
                refine z_iload C dX5_at_60 5 rfl ?_
                exact z_iret C () (by rw [at_hit (f := isq wai frm b) (i := i) (ord2 pri mk) (by omega) (by simp [isq, c19_2, n_28, c29_29, c40_30, n_32, c52_33, c57_34, n_36]) (by assumption) (show k = _ by omega)]; rfl) rfl (by decide) (by decide) dX5_at_62
  refine z_lveq [(0, .ref (md 0)), (1, .int (nI b)), (2, .int (nI k)), (3, .int (nI 0)), (4, .int 2), (5, .int (nI 0))] (by rfl) ?_
  exact L13_k_1 (mk - 0 + 1) 0 0 (Nat.lt_succ_self _) (by omega) (by first | assumption | omega) (by rfl)
set_option maxHeartbeats 4000000 in
set_option maxRecDepth 100000 in
theorem m_atd (l : Launch) (sa : Nat → Nat) (D : va_G) (cI cZ cL : ClassId) (md : Nat → Nat) (acc flo pap clo net bnd frm too amt pri wai fst ldr bor lnt rat plg opn : Nat → Int32) (small price cut proc thr : Int32) (mk lm : Nat) (b : Nat) (k : Nat) (hb : b < 5) (hk : k < 2147483648) (hmk : mk ≤ 60) (hfrm : wf5 mk frm) (htoo : wf5 mk too) : zMi (T := Unit) sa D vwCl (zty cI cZ cL) l yX5_at wsX5_at ({ frames := 0, cells := 0, slots := 0, locals := 0 } : Room) [.ref (md 0), .int (nI b), .int (nI k)] (wM md cI cZ acc flo pap clo net bnd frm too amt pri wai fst ldr bor lnt rat plg opn (nI mk) small (nI lm) price cut proc thr) (fun r9 _ => r9 = (oI (atQ (ordL pri mk) (isq wai frm b) k))) (fun _ => (wM md cI cZ acc flo pap clo net bnd frm too amt pri wai fst ldr bor lnt rat plg opn (nI mk) small (nI lm) price cut proc thr)) 0 0 := by
  exact m_at l sa D cI cZ cL md acc flo pap clo net bnd frm too amt pri wai fst ldr bor lnt rat plg opn small price cut proc thr mk lm b k hb hk hmk hfrm htoo
set_option maxHeartbeats 4000000 in
set_option maxRecDepth 100000 in
theorem m_reason (l : Launch) (sa : Nat → Nat) (D : va_G) (cI cZ cL : ClassId) (md : Nat → Nat) (acc flo pap clo net bnd frm too amt pri wai fst ldr bor lnt rat plg opn : Nat → Int32) (small price cut proc thr : Int32) (mk lm : Nat) (p9 : Nat) (hp : p9 < mk) (hmk : mk ≤ 60) (hfrm : wf5 mk frm) (htoo : wf5 mk too) : zMi (T := Unit) sa D vwCl (zty cI cZ cL) l yX5_reason wsX5_reason ({ frames := 0, cells := 0, slots := 0, locals := 0 } : Room) [.ref (md 0), .int (nI p9)] (wM md cI cZ acc flo pap clo net bnd frm too amt pri wai fst ldr bor lnt rat plg opn (nI mk) small (nI lm) price cut proc thr) (fun r9 _ => r9 = (obs acc net flo bnd frm too amt wai p9)) (fun _ => (wM md cI cZ acc flo pap clo net bnd frm too amt pri wai fst ldr bor lnt rat plg opn (nI mk) small (nI lm) price cut proc thr)) 0 0 := by
  refine zMi.of (ret := (some .int)) (cc := cX5_reason) (nL := 4) (own := RX5) (by decide +kernel) rfl [(0, .ref (md 0)), (1, .int (nI p9))] rfl (Nat.le_of_ble_eq_true rfl) rfl ?_
  intro A p e s m args below meth c C hmn
  refine z_aload_n C dX5_reason_0 rfl 0 rfl ?_
  refine z_get C 0 rfl i_X5_reason_X5 rfl 7 (by decide) m_X5_reason_f29 rfl rfl dX5_reason_1 ?_
  refine z_iload_n C dX5_reason_4 rfl 1 rfl ?_
  have := (hfrm p9 (by omega)).2
  refine z_iald C 7 0 rfl rfl p9 (nI_clamp (by omega)) (vp_in_nI (by omega) (by omega)) (nI (ix (frm p9))) (hfrm p9 (by omega)).1 dX5_reason_5 ?_
  refine z_istore_n C dX5_reason_6 rfl (by decide) [(0, .ref (md 0)), (1, .int (nI p9)), (2, .int (nI (ix (frm p9))))] [1, 2, 0] rfl ?_
  refine z_iconst C (v := 5) dX5_reason_7 (by decide) ?_
  refine z_iload_n C dX5_reason_8 rfl 2 rfl ?_
  refine z_imul C (v := (nI ((ix (frm p9)) * 5))) dX5_reason_9 (z_mulc 5 (ix (frm p9))) ?_
  refine z_aload_n C dX5_reason_10 rfl 0 rfl ?_
  refine z_get C 0 rfl i_X5_reason_X5 rfl 8 (by decide) m_X5_reason_f32 rfl rfl dX5_reason_11 ?_
  refine z_iload_n C dX5_reason_14 rfl 1 rfl ?_
  have := (htoo p9 (by omega)).2
  refine z_iald C 8 0 rfl rfl p9 (nI_clamp (by omega)) (vp_in_nI (by omega) (by omega)) (nI (ix (too p9))) (htoo p9 (by omega)).1 dX5_reason_15 ?_
  refine z_iadd C (v := (nI (((ix (frm p9)) * 5) + (ix (too p9))))) dX5_reason_16 (nI_add ((ix (frm p9)) * 5) (ix (too p9))) ?_
  refine z_istore_n C dX5_reason_17 rfl (by decide) [(0, .ref (md 0)), (1, .int (nI p9)), (2, .int (nI (ix (frm p9)))), (3, .int (nI (((ix (frm p9)) * 5) + (ix (too p9)))))] [1, 2, 3, 0] rfl ?_
  refine z_aload_n C dX5_reason_18 rfl 0 rfl ?_
  refine z_get C 0 rfl i_X5_reason_X5 rfl 11 (by decide) m_X5_reason_f41 rfl rfl dX5_reason_19 ?_
  refine z_iload_n C dX5_reason_22 rfl 1 rfl ?_
  refine z_zald C 11 1 rfl rfl p9 (nI_clamp (by omega)) (vp_in_nI (by omega) (by omega)) (wai p9) rfl dX5_reason_23 ?_
  refine z_if_ne C (tgt := 31) dX5_reason_24 (by decide) (fun c24_1 => ?_) (fun c24_1 => ?_)
  · skip
    refine z_aload_n C dX5_reason_31 rfl 0 rfl ?_
    refine z_get C 0 rfl i_X5_reason_X5 rfl 0 (by decide) m_X5_reason_f7 rfl rfl dX5_reason_32 ?_
    refine z_iload_n C dX5_reason_35 rfl 2 rfl ?_
    refine z_iald C 1 0 rfl rfl (ix (frm p9)) (nI_clamp (by omega)) (vp_in_nI (by omega) (by omega)) (acc (ix (frm p9))) rfl dX5_reason_36 ?_
    refine z_aload_n C dX5_reason_37 rfl 0 rfl ?_
    refine z_get C 0 rfl i_X5_reason_X5 rfl 9 (by decide) m_X5_reason_f35 rfl rfl dX5_reason_38 ?_
    refine z_iload_n C dX5_reason_41 rfl 1 rfl ?_
    refine z_iald C 9 0 rfl rfl p9 (nI_clamp (by omega)) (vp_in_nI (by omega) (by omega)) (amt p9) rfl dX5_reason_42 ?_
    refine z_isub C (v := ((acc (ix (frm p9))) - (amt p9))) dX5_reason_43 rfl ?_
    refine z_aload_n C dX5_reason_44 rfl 0 rfl ?_
    refine z_get C 0 rfl i_X5_reason_X5 rfl 1 (by decide) m_X5_reason_f13 rfl rfl dX5_reason_45 ?_
    refine z_iload_n C dX5_reason_48 rfl 2 rfl ?_
    refine z_iald C 2 0 rfl rfl (ix (frm p9)) (nI_clamp (by omega)) (vp_in_nI (by omega) (by omega)) (flo (ix (frm p9))) rfl dX5_reason_49 ?_
    refine z_icmp_ge C (tgt := 57) dX5_reason_50 (by decide) (fun c50_2 => ?_) (fun c50_2 => ?_)
    · skip
      refine z_aload_n C dX5_reason_57 rfl 0 rfl ?_
      refine z_get C 0 rfl i_X5_reason_X5 rfl 4 (by decide) m_X5_reason_f23 rfl rfl dX5_reason_58 ?_
      refine z_iload_n C dX5_reason_61 rfl 3 rfl ?_
      refine z_iald C 5 0 rfl rfl (((ix (frm p9)) * 5) + (ix (too p9))) (nI_clamp (by omega)) (vp_in_nI (by omega) (by omega)) (net (((ix (frm p9)) * 5) + (ix (too p9)))) rfl dX5_reason_62 ?_
      refine z_aload_n C dX5_reason_63 rfl 0 rfl ?_
      refine z_get C 0 rfl i_X5_reason_X5 rfl 9 (by decide) m_X5_reason_f35 rfl rfl dX5_reason_64 ?_
      refine z_iload_n C dX5_reason_67 rfl 1 rfl ?_
      refine z_iald C 9 0 rfl rfl p9 (nI_clamp (by omega)) (vp_in_nI (by omega) (by omega)) (amt p9) rfl dX5_reason_68 ?_
      refine z_iadd C (v := ((net (((ix (frm p9)) * 5) + (ix (too p9)))) + (amt p9))) dX5_reason_69 rfl ?_
      refine z_aload_n C dX5_reason_70 rfl 0 rfl ?_
      refine z_get C 0 rfl i_X5_reason_X5 rfl 5 (by decide) m_X5_reason_f26 rfl rfl dX5_reason_71 ?_
      refine z_iload_n C dX5_reason_74 rfl 3 rfl ?_
      refine z_iald C 6 0 rfl rfl (((ix (frm p9)) * 5) + (ix (too p9))) (nI_clamp (by omega)) (vp_in_nI (by omega) (by omega)) (bnd (((ix (frm p9)) * 5) + (ix (too p9)))) rfl dX5_reason_75 ?_
      refine z_icmp_le C (tgt := 83) dX5_reason_76 (by decide) (fun c76_3 => ?_) (fun c76_3 => ?_)
      · skip
        refine z_iconst C (v := 0) dX5_reason_83 (by decide) ?_
        exact z_iret C () (by simp [obs, c24_1, c50_2, c76_3]) rfl (by decide) (by decide) dX5_reason_84
      · skip
        refine z_iconst C (v := 2) dX5_reason_79 (by decide) ?_
        refine z_goto C (tgt := 84) dX5_reason_80 (by decide) ?_
        exact z_iret C () (by simp [obs, c24_1, c50_2, c76_3]) rfl (by decide) (by decide) dX5_reason_84
    · skip
      refine z_iconst C (v := 1) dX5_reason_53 (by decide) ?_
      refine z_goto C (tgt := 84) dX5_reason_54 (by decide) ?_
      exact z_iret C () (by simp [obs, c24_1, c50_2]) rfl (by decide) (by decide) dX5_reason_84
  · skip
    refine z_iconst C (v := 3) dX5_reason_27 (by decide) ?_
    refine z_goto C (tgt := 84) dX5_reason_28 (by decide) ?_
    exact z_iret C () (by simp [obs, c24_1]) rfl (by decide) (by decide) dX5_reason_84
set_option maxHeartbeats 4000000 in
set_option maxRecDepth 100000 in
theorem m_moves (l : Launch) (sa : Nat → Nat) (D : va_G) (cI cZ cL : ClassId) (md : Nat → Nat) (acc flo pap clo net bnd frm too amt pri wai fst ldr bor lnt rat plg opn : Nat → Int32) (small price cut proc thr : Int32) (mk lm : Nat) (p9 : Nat) (t9 : Int32) (hp : p9 < mk) (hmk : mk ≤ 60) (hfrm : wf5 mk frm) (htoo : wf5 mk too) : zMv (T := Unit) sa D vwCl (zty cI cZ cL) l yX5_moves wsX5_moves ({ frames := 0, cells := 0, slots := 0, locals := 0 } : Room) [.ref (md 0), .int (nI p9), .int t9] (wM md cI cZ acc flo pap clo net bnd frm too amt pri wai fst ldr bor lnt rat plg opn (nI mk) small (nI lm) price cut proc thr) (fun _ => True) (fun _ => (wM md cI cZ (mvA (ix (frm p9)) (ix (too p9)) (t9 * amt p9) acc) flo pap clo (mvN (ix (frm p9)) (ix (too p9)) (t9 * amt p9) net) bnd frm too amt pri wai fst ldr bor lnt rat plg opn (nI mk) small (nI lm) price cut proc thr)) 0 0 := by
  refine zMv.of (ret := none) (cc := cX5_moves) (nL := 4) (own := RX5) (by decide +kernel) rfl [(0, .ref (md 0)), (1, .int (nI p9)), (2, .int t9)] rfl (Nat.le_of_ble_eq_true rfl) rfl ?_
  intro A p e s m args below meth c C hmn
  refine z_iload_n C dX5_moves_0 rfl 2 rfl ?_
  refine z_aload_n C dX5_moves_1 rfl 0 rfl ?_
  refine z_get C 0 rfl i_X5_moves_X5 rfl 9 (by decide) m_X5_moves_f35 rfl rfl dX5_moves_2 ?_
  refine z_iload_n C dX5_moves_5 rfl 1 rfl ?_
  refine z_iald C 9 0 rfl rfl p9 (nI_clamp (by omega)) (vp_in_nI (by omega) (by omega)) (amt p9) rfl dX5_moves_6 ?_
  refine z_imul C (v := (t9 * (amt p9))) dX5_moves_7 rfl ?_
  refine z_istore_n C dX5_moves_8 rfl (by decide) [(0, .ref (md 0)), (1, .int (nI p9)), (2, .int t9), (3, .int (t9 * (amt p9)))] [1, 2, 3, 0] rfl ?_
  refine z_aload_n C dX5_moves_9 rfl 0 rfl ?_
  refine z_get C 0 rfl i_X5_moves_X5 rfl 0 (by decide) m_X5_moves_f7 rfl rfl dX5_moves_10 ?_
  refine z_aload_n C dX5_moves_13 rfl 0 rfl ?_
  refine z_get C 0 rfl i_X5_moves_X5 rfl 7 (by decide) m_X5_moves_f29 rfl rfl dX5_moves_14 ?_
  refine z_iload_n C dX5_moves_17 rfl 1 rfl ?_
  have := (hfrm p9 (by omega)).2
  refine z_iald C 7 0 rfl rfl p9 (nI_clamp (by omega)) (vp_in_nI (by omega) (by omega)) (nI (ix (frm p9))) (hfrm p9 (by omega)).1 dX5_moves_18 ?_
  refine z_dup2 C dX5_moves_19 rfl rfl ?_
  refine z_iald C 1 0 rfl rfl (ix (frm p9)) (nI_clamp (by omega)) (vp_in_nI (by omega) (by omega)) (acc (ix (frm p9))) rfl dX5_moves_20 ?_
  refine z_iload_n C dX5_moves_21 rfl 3 rfl ?_
  refine z_isub C (v := ((acc (ix (frm p9))) - (t9 * (amt p9)))) dX5_moves_22 rfl ?_
  refine z_iast C 1 0 rfl rfl (ix (frm p9)) (nI_clamp (by omega)) (vp_in_nI (by omega) (by omega)) ((acc (ix (frm p9))) - (t9 * (amt p9))) rfl dX5_moves_23 (wM md cI cZ (upd acc (ix (frm p9)) ((acc (ix (frm p9))) - (t9 * (amt p9)))) flo pap clo net bnd frm too amt pri wai fst ldr bor lnt rat plg opn (nI mk) small (nI lm) price cut proc thr) rfl ?_
  refine z_aload_n C dX5_moves_24 rfl 0 rfl ?_
  refine z_get C 0 rfl i_X5_moves_X5 rfl 0 (by decide) m_X5_moves_f7 rfl rfl dX5_moves_25 ?_
  refine z_aload_n C dX5_moves_28 rfl 0 rfl ?_
  refine z_get C 0 rfl i_X5_moves_X5 rfl 8 (by decide) m_X5_moves_f32 rfl rfl dX5_moves_29 ?_
  refine z_iload_n C dX5_moves_32 rfl 1 rfl ?_
  have := (htoo p9 (by omega)).2
  refine z_iald C 8 0 rfl rfl p9 (nI_clamp (by omega)) (vp_in_nI (by omega) (by omega)) (nI (ix (too p9))) (htoo p9 (by omega)).1 dX5_moves_33 ?_
  refine z_dup2 C dX5_moves_34 rfl rfl ?_
  refine z_iald C 1 0 rfl rfl (ix (too p9)) (nI_clamp (by omega)) (vp_in_nI (by omega) (by omega)) ((upd acc (ix (frm p9)) ((acc (ix (frm p9))) - (t9 * (amt p9)))) (ix (too p9))) rfl dX5_moves_35 ?_
  refine z_iload_n C dX5_moves_36 rfl 3 rfl ?_
  refine z_iadd C (v := (((upd acc (ix (frm p9)) ((acc (ix (frm p9))) - (t9 * (amt p9)))) (ix (too p9))) + (t9 * (amt p9)))) dX5_moves_37 rfl ?_
  refine z_iast C 1 0 rfl rfl (ix (too p9)) (nI_clamp (by omega)) (vp_in_nI (by omega) (by omega)) (((upd acc (ix (frm p9)) ((acc (ix (frm p9))) - (t9 * (amt p9)))) (ix (too p9))) + (t9 * (amt p9))) rfl dX5_moves_38 (wM md cI cZ (upd (upd acc (ix (frm p9)) ((acc (ix (frm p9))) - (t9 * (amt p9)))) (ix (too p9)) (((upd acc (ix (frm p9)) ((acc (ix (frm p9))) - (t9 * (amt p9)))) (ix (too p9))) + (t9 * (amt p9)))) flo pap clo net bnd frm too amt pri wai fst ldr bor lnt rat plg opn (nI mk) small (nI lm) price cut proc thr) rfl ?_
  refine z_aload_n C dX5_moves_39 rfl 0 rfl ?_
  refine z_get C 0 rfl i_X5_moves_X5 rfl 4 (by decide) m_X5_moves_f23 rfl rfl dX5_moves_40 ?_
  refine z_iconst C (v := 5) dX5_moves_43 (by decide) ?_
  refine z_aload_n C dX5_moves_44 rfl 0 rfl ?_
  refine z_get C 0 rfl i_X5_moves_X5 rfl 7 (by decide) m_X5_moves_f29 rfl rfl dX5_moves_45 ?_
  refine z_iload_n C dX5_moves_48 rfl 1 rfl ?_
  refine z_iald C 7 0 rfl rfl p9 (nI_clamp (by omega)) (vp_in_nI (by omega) (by omega)) (nI (ix (frm p9))) (hfrm p9 (by omega)).1 dX5_moves_49 ?_
  refine z_imul C (v := (nI ((ix (frm p9)) * 5))) dX5_moves_50 (z_mulc 5 (ix (frm p9))) ?_
  refine z_aload_n C dX5_moves_51 rfl 0 rfl ?_
  refine z_get C 0 rfl i_X5_moves_X5 rfl 8 (by decide) m_X5_moves_f32 rfl rfl dX5_moves_52 ?_
  refine z_iload_n C dX5_moves_55 rfl 1 rfl ?_
  refine z_iald C 8 0 rfl rfl p9 (nI_clamp (by omega)) (vp_in_nI (by omega) (by omega)) (nI (ix (too p9))) (htoo p9 (by omega)).1 dX5_moves_56 ?_
  refine z_iadd C (v := (nI (((ix (frm p9)) * 5) + (ix (too p9))))) dX5_moves_57 (nI_add ((ix (frm p9)) * 5) (ix (too p9))) ?_
  refine z_dup2 C dX5_moves_58 rfl rfl ?_
  refine z_iald C 5 0 rfl rfl (((ix (frm p9)) * 5) + (ix (too p9))) (nI_clamp (by omega)) (vp_in_nI (by omega) (by omega)) (net (((ix (frm p9)) * 5) + (ix (too p9)))) rfl dX5_moves_59 ?_
  refine z_iload_n C dX5_moves_60 rfl 3 rfl ?_
  refine z_iadd C (v := ((net (((ix (frm p9)) * 5) + (ix (too p9)))) + (t9 * (amt p9)))) dX5_moves_61 rfl ?_
  refine z_iast C 5 0 rfl rfl (((ix (frm p9)) * 5) + (ix (too p9))) (nI_clamp (by omega)) (vp_in_nI (by omega) (by omega)) ((net (((ix (frm p9)) * 5) + (ix (too p9)))) + (t9 * (amt p9))) rfl dX5_moves_62 (wM md cI cZ (upd (upd acc (ix (frm p9)) ((acc (ix (frm p9))) - (t9 * (amt p9)))) (ix (too p9)) (((upd acc (ix (frm p9)) ((acc (ix (frm p9))) - (t9 * (amt p9)))) (ix (too p9))) + (t9 * (amt p9)))) flo pap clo (upd net (((ix (frm p9)) * 5) + (ix (too p9))) ((net (((ix (frm p9)) * 5) + (ix (too p9)))) + (t9 * (amt p9)))) bnd frm too amt pri wai fst ldr bor lnt rat plg opn (nI mk) small (nI lm) price cut proc thr) rfl ?_
  refine z_aload_n C dX5_moves_63 rfl 0 rfl ?_
  refine z_get C 0 rfl i_X5_moves_X5 rfl 4 (by decide) m_X5_moves_f23 rfl rfl dX5_moves_64 ?_
  refine z_iconst C (v := 5) dX5_moves_67 (by decide) ?_
  refine z_aload_n C dX5_moves_68 rfl 0 rfl ?_
  refine z_get C 0 rfl i_X5_moves_X5 rfl 8 (by decide) m_X5_moves_f32 rfl rfl dX5_moves_69 ?_
  refine z_iload_n C dX5_moves_72 rfl 1 rfl ?_
  refine z_iald C 8 0 rfl rfl p9 (nI_clamp (by omega)) (vp_in_nI (by omega) (by omega)) (nI (ix (too p9))) (htoo p9 (by omega)).1 dX5_moves_73 ?_
  refine z_imul C (v := (nI ((ix (too p9)) * 5))) dX5_moves_74 (z_mulc 5 (ix (too p9))) ?_
  refine z_aload_n C dX5_moves_75 rfl 0 rfl ?_
  refine z_get C 0 rfl i_X5_moves_X5 rfl 7 (by decide) m_X5_moves_f29 rfl rfl dX5_moves_76 ?_
  refine z_iload_n C dX5_moves_79 rfl 1 rfl ?_
  refine z_iald C 7 0 rfl rfl p9 (nI_clamp (by omega)) (vp_in_nI (by omega) (by omega)) (nI (ix (frm p9))) (hfrm p9 (by omega)).1 dX5_moves_80 ?_
  refine z_iadd C (v := (nI (((ix (too p9)) * 5) + (ix (frm p9))))) dX5_moves_81 (nI_add ((ix (too p9)) * 5) (ix (frm p9))) ?_
  refine z_dup2 C dX5_moves_82 rfl rfl ?_
  refine z_iald C 5 0 rfl rfl (((ix (too p9)) * 5) + (ix (frm p9))) (nI_clamp (by omega)) (vp_in_nI (by omega) (by omega)) ((upd net (((ix (frm p9)) * 5) + (ix (too p9))) ((net (((ix (frm p9)) * 5) + (ix (too p9)))) + (t9 * (amt p9)))) (((ix (too p9)) * 5) + (ix (frm p9)))) rfl dX5_moves_83 ?_
  refine z_iload_n C dX5_moves_84 rfl 3 rfl ?_
  refine z_isub C (v := (((upd net (((ix (frm p9)) * 5) + (ix (too p9))) ((net (((ix (frm p9)) * 5) + (ix (too p9)))) + (t9 * (amt p9)))) (((ix (too p9)) * 5) + (ix (frm p9)))) - (t9 * (amt p9)))) dX5_moves_85 rfl ?_
  refine z_iast C 5 0 rfl rfl (((ix (too p9)) * 5) + (ix (frm p9))) (nI_clamp (by omega)) (vp_in_nI (by omega) (by omega)) (((upd net (((ix (frm p9)) * 5) + (ix (too p9))) ((net (((ix (frm p9)) * 5) + (ix (too p9)))) + (t9 * (amt p9)))) (((ix (too p9)) * 5) + (ix (frm p9)))) - (t9 * (amt p9))) rfl dX5_moves_86 (wM md cI cZ (upd (upd acc (ix (frm p9)) ((acc (ix (frm p9))) - (t9 * (amt p9)))) (ix (too p9)) (((upd acc (ix (frm p9)) ((acc (ix (frm p9))) - (t9 * (amt p9)))) (ix (too p9))) + (t9 * (amt p9)))) flo pap clo (upd (upd net (((ix (frm p9)) * 5) + (ix (too p9))) ((net (((ix (frm p9)) * 5) + (ix (too p9)))) + (t9 * (amt p9)))) (((ix (too p9)) * 5) + (ix (frm p9))) (((upd net (((ix (frm p9)) * 5) + (ix (too p9))) ((net (((ix (frm p9)) * 5) + (ix (too p9)))) + (t9 * (amt p9)))) (((ix (too p9)) * 5) + (ix (frm p9)))) - (t9 * (amt p9)))) bnd frm too amt pri wai fst ldr bor lnt rat plg opn (nI mk) small (nI lm) price cut proc thr) rfl ?_
  exact z_vret C () (by exact trivial) rfl (by decide) (by decide) dX5_moves_87
set_option maxHeartbeats 4000000 in
set_option maxRecDepth 100000 in
theorem m_goes (l : Launch) (sa : Nat → Nat) (D : va_G) (cI cZ cL : ClassId) (md : Nat → Nat) (acc flo pap clo net bnd frm too amt pri wai fst ldr bor lnt rat plg opn : Nat → Int32) (small price cut proc thr : Int32) (mk lm : Nat) (p9 : Nat) (hp : p9 < mk) (hmk : mk ≤ 60) (hfrm : wf5 mk frm) (htoo : wf5 mk too) : zMv (T := Unit) sa D vwCl (zty cI cZ cL) l yX5_goes wsX5_goes ({ frames := 1, cells := 0, slots := 0, locals := 23 } : Room) [.ref (md 0), .int (nI p9)] (wM md cI cZ acc flo pap clo net bnd frm too amt pri wai fst ldr bor lnt rat plg opn (nI mk) small (nI lm) price cut proc thr) (fun _ => True) (fun _ => (wM md cI cZ (mvA (ix (frm p9)) (ix (too p9)) (amt p9) acc) flo pap clo (mvN (ix (frm p9)) (ix (too p9)) (amt p9) net) bnd frm too amt pri (upd wai p9 0) fst ldr bor lnt rat plg opn (nI mk) small (nI lm) price cut proc thr)) 0 0 := by
  refine zMv.of (ret := none) (cc := cX5_goes) (nL := 2) (own := RX5) (by decide +kernel) rfl [(0, .ref (md 0)), (1, .int (nI p9))] rfl (Nat.le_of_ble_eq_true rfl) rfl ?_
  intro A p e s m args below meth c C hmn
  refine z_aload_n C dX5_goes_0 rfl 0 rfl ?_
  refine z_iload_n C dX5_goes_1 rfl 1 rfl ?_
  refine z_iconst C (v := 1) dX5_goes_2 (by decide) ?_
  refine z_callVv C (T := Unit) (As := [.int (nI p9), .int 1]) (rest := []) (ws' := fun _ => (wM md cI cZ (mvA (ix (frm p9)) (ix (too p9)) (1 * amt p9) acc) flo pap clo (mvN (ix (frm p9)) (ix (too p9)) (1 * amt p9) net) bnd frm too amt pri wai fst ldr bor lnt rat plg opn (nI mk) small (nI lm) price cut proc thr)) (m_moves l sa D cI cZ cL md acc flo pap clo net bnd frm too amt pri wai fst ldr bor lnt rat plg opn small price cut proc thr mk lm p9 1 (by first | assumption | omega) (by first | assumption | omega) (by first | assumption | omega) (by first | assumption | omega)) (cwV 2 C.2.2.2.2.1 gX5_goes_X5_moves rfl rfl rfl (by decide +kernel) ⟨Nat.le_of_ble_eq_true rfl, Nat.le_of_ble_eq_true rfl⟩) 0 rfl rfl rfl (fun _ => zSub.full) zIn.full rfl (Nat.le_of_ble_eq_true rfl) ⟨Nat.le_of_ble_eq_true rfl, Nat.le_of_ble_eq_true rfl⟩ dX5_goes_3 (fun _ _ => ?_)
  refine z_aload_n C dX5_goes_6 rfl 0 rfl ?_
  refine z_get C 0 rfl i_X5_goes_X5 rfl 11 (by decide) m_X5_goes_f41 rfl rfl dX5_goes_7 ?_
  refine z_iload_n C dX5_goes_10 rfl 1 rfl ?_
  refine z_iconst C (v := 0) dX5_goes_11 (by decide) ?_
  refine z_zast C 11 1 rfl rfl p9 (nI_clamp (by omega)) (vp_in_nI (by omega) (by omega)) 0 (by decide) dX5_goes_12 (wM md cI cZ (mvA (ix (frm p9)) (ix (too p9)) (1 * amt p9) acc) flo pap clo (mvN (ix (frm p9)) (ix (too p9)) (1 * amt p9) net) bnd frm too amt pri (upd wai p9 0) fst ldr bor lnt rat plg opn (nI mk) small (nI lm) price cut proc thr) rfl ?_
  exact z_vret C () (by exact trivial) (by simp only [Int32.one_mul]) (by decide) (by decide) dX5_goes_13
set_option maxHeartbeats 4000000 in
set_option maxRecDepth 100000 in
theorem m_isSound (l : Launch) (sa : Nat → Nat) (D : va_G) (cI cZ cL : ClassId) (md : Nat → Nat) (acc flo pap clo net bnd frm too amt pri wai fst ldr bor lnt rat plg opn : Nat → Int32) (small price cut proc thr : Int32) (mk lm : Nat)   : zMi (T := Unit) sa D vwCl (zty cI cZ cL) l yX5_isSound wsX5_isSound ({ frames := 0, cells := 0, slots := 0, locals := 0 } : Room) [.ref (md 0)] (wM md cI cZ acc flo pap clo net bnd frm too amt pri wai fst ldr bor lnt rat plg opn (nI mk) small (nI lm) price cut proc thr) (fun r9 _ => r9 = if sndB acc flo net bnd = true then 1 else 0) (fun _ => (wM md cI cZ acc flo pap clo net bnd frm too amt pri wai fst ldr bor lnt rat plg opn (nI mk) small (nI lm) price cut proc thr)) 0 0 := by
  refine zMi.of (ret := (some .boolean)) (cc := cX5_isSound) (nL := 3) (own := RX5) (by decide +kernel) rfl [(0, .ref (md 0))] rfl (Nat.le_of_ble_eq_true rfl) rfl ?_
  intro A p e s m args below meth c C hmn
  refine z_iconst C (v := 1) dX5_isSound_0 (by decide) ?_
  refine z_istore_n C dX5_isSound_1 rfl (by decide) [(0, .ref (md 0)), (1, .int 1)] [1, 0] rfl ?_
  refine z_iconst C (v := 0) dX5_isSound_2 (by decide) ?_
  refine z_istore_n C dX5_isSound_3 rfl (by decide) [(0, .ref (md 0)), (1, .int 1), (2, .int 0)] [1, 2, 0] rfl ?_
  have L4_k_1 : ∀ (n : Nat) (b9 i : Nat), 25 - i < n → (i ≤ 25) → (b9 ≤ 1) → (b9 = 1 ↔ ∀ j, j < i → flo (j / 5) ≤ acc (j / 5) ∧ net j ≤ bnd j) → zW p l e ({ frames := 0, cells := 0, slots := 0, locals := 0 } : Room) s m args below meth c (MQ below (zQi (T := Unit) D vwCl (zty cI cZ cL) A (fun r9 _ => r9 = if sndB acc flo net bnd = true then 1 else 0) (fun _ => (wM md cI cZ acc flo pap clo net bnd frm too amt pri wai fst ldr bor lnt rat plg opn (nI mk) small (nI lm) price cut proc thr))) args s 0 0 A) D vwCl A 3 0 0 (wM md cI cZ acc flo pap clo net bnd frm too amt pri wai fst ldr bor lnt rat plg opn (nI mk) small (nI lm) price cut proc thr) [(0, .ref (md 0)), (1, .int (nI b9)), (2, .int (nI i))] 4 [] := by
    intro n
    induction n with
    | zero => intros; omega
    | succ n ih =>
      intro b9 i hm hi hb1 hb9
      have hz9 := z_b01 hb1
      refine z_iload_n C dX5_isSound_4 rfl 2 rfl ?_
      refine z_bipush C (v := 25) dX5_isSound_5 (by decide) ?_
      refine z_icmp_ge C (tgt := 60) dX5_isSound_7 (by decide) (fun c7_2 => ?_) (fun c7_2 => ?_)
      · skip
        have n_3 : 25 ≤ i := (nI_leI (a := 25) (b := i) (by omega) (by omega)).mp c7_2
        refine z_iload_n C dX5_isSound_60 rfl 1 rfl ?_
        exact z_zret C () (by exact snd_ret hb1 (by rw [show i = 25 by omega] at hb9; exact hb9)) rfl (by decide) (by decide) (z_nb (by assumption)) dX5_isSound_61
      · skip
        have n_4 : ¬ 25 ≤ i := fun q => c7_2 ((nI_leI (a := 25) (b := i) (by omega) (by omega)).mpr q)
        refine z_iload_n C dX5_isSound_10 rfl 1 rfl ?_
        refine z_if_eq C (tgt := 52) dX5_isSound_11 (by decide) (fun c11_5 => ?_) (fun c11_5 => ?_)
        · skip
          have n_6 : b9 = 0 := (nI_eq (a := b9) (b := 0) (by omega) (by omega)).mp c11_5
          refine z_iconst C (v := 0) dX5_isSound_52 (by decide) ?_
          refine z_istore_n C dX5_isSound_53 rfl (by decide) [(0, .ref (md 0)), (1, .int 0), (2, .int (nI i))] [1, 0, 2] rfl ?_
          refine z_iinc C (v := (nI (i + 1))) dX5_isSound_54 2 rfl (nI_add i 1) (by decide) [(0, .ref (md 0)), (1, .int 0), (2, .int (nI (i + 1)))] [1, 2, 0] rfl ?_
          refine z_goto C (tgt := 4) dX5_isSound_57 (by decide) ?_
          refine z_lveq [(0, .ref (md 0)), (1, .int (nI 0)), (2, .int (nI (i + 1)))] (by rfl) ?_
          exact ih 0 (i + 1) (by omega) (by first | assumption | omega) (by first | assumption | omega) (by first | exact snd_y (by assumption) hb1 hb9 (by assumption) (by assumption) | exact snd_n0 (by assumption) hb9 | exact snd_n1 (by assumption) | exact snd_n2 (by assumption))
        · skip
          have n_7 : ¬ b9 = 0 := fun q => c11_5 ((nI_eq (a := b9) (b := 0) (by omega) (by omega)).mpr q)
          refine z_aload_n C dX5_isSound_14 rfl 0 rfl ?_
          refine z_get C 0 rfl i_X5_isSound_X5 rfl 0 (by decide) m_X5_isSound_f7 rfl rfl dX5_isSound_15 ?_
          refine z_iload_n C dX5_isSound_18 rfl 2 rfl ?_
          refine z_iconst C (v := 5) dX5_isSound_19 (by decide) ?_
          refine z_idiv C (v := (nI (i / 5))) dX5_isSound_20 (by decide) (pk_div (a := i) (d := 5) (by omega) (by decide) (by decide)) ?_
          refine z_iald C 1 0 rfl rfl (i / 5) (nI_clamp (by omega)) (vp_in_nI (by omega) (by omega)) (acc (i / 5)) rfl dX5_isSound_21 ?_
          refine z_aload_n C dX5_isSound_22 rfl 0 rfl ?_
          refine z_get C 0 rfl i_X5_isSound_X5 rfl 1 (by decide) m_X5_isSound_f13 rfl rfl dX5_isSound_23 ?_
          refine z_iload_n C dX5_isSound_26 rfl 2 rfl ?_
          refine z_iconst C (v := 5) dX5_isSound_27 (by decide) ?_
          refine z_idiv C (v := (nI (i / 5))) dX5_isSound_28 (by decide) (pk_div (a := i) (d := 5) (by omega) (by decide) (by decide)) ?_
          refine z_iald C 2 0 rfl rfl (i / 5) (nI_clamp (by omega)) (vp_in_nI (by omega) (by omega)) (flo (i / 5)) rfl dX5_isSound_29 ?_
          refine z_icmp_lt C (tgt := 52) dX5_isSound_30 (by decide) (fun c30_8 => ?_) (fun c30_8 => ?_)
          · skip
            refine z_iconst C (v := 0) dX5_isSound_52 (by decide) ?_
            refine z_istore_n C dX5_isSound_53 rfl (by decide) [(0, .ref (md 0)), (1, .int 0), (2, .int (nI i))] [1, 0, 2] rfl ?_
            refine z_iinc C (v := (nI (i + 1))) dX5_isSound_54 2 rfl (nI_add i 1) (by decide) [(0, .ref (md 0)), (1, .int 0), (2, .int (nI (i + 1)))] [1, 2, 0] rfl ?_
            refine z_goto C (tgt := 4) dX5_isSound_57 (by decide) ?_
            refine z_lveq [(0, .ref (md 0)), (1, .int (nI 0)), (2, .int (nI (i + 1)))] (by rfl) ?_
            exact ih 0 (i + 1) (by omega) (by first | assumption | omega) (by first | assumption | omega) (by first | exact snd_y (by assumption) hb1 hb9 (by assumption) (by assumption) | exact snd_n0 (by assumption) hb9 | exact snd_n1 (by assumption) | exact snd_n2 (by assumption))
          · skip
            refine z_aload_n C dX5_isSound_33 rfl 0 rfl ?_
            refine z_get C 0 rfl i_X5_isSound_X5 rfl 4 (by decide) m_X5_isSound_f23 rfl rfl dX5_isSound_34 ?_
            refine z_iload_n C dX5_isSound_37 rfl 2 rfl ?_
            refine z_iald C 5 0 rfl rfl i (nI_clamp (by omega)) (vp_in_nI (by omega) (by omega)) (net i) rfl dX5_isSound_38 ?_
            refine z_aload_n C dX5_isSound_39 rfl 0 rfl ?_
            refine z_get C 0 rfl i_X5_isSound_X5 rfl 5 (by decide) m_X5_isSound_f26 rfl rfl dX5_isSound_40 ?_
            refine z_iload_n C dX5_isSound_43 rfl 2 rfl ?_
            refine z_iald C 6 0 rfl rfl i (nI_clamp (by omega)) (vp_in_nI (by omega) (by omega)) (bnd i) rfl dX5_isSound_44 ?_
            refine z_icmp_gt C (tgt := 52) dX5_isSound_45 (by decide) (fun c45_9 => ?_) (fun c45_9 => ?_)
            · skip
              refine z_iconst C (v := 0) dX5_isSound_52 (by decide) ?_
              refine z_istore_n C dX5_isSound_53 rfl (by decide) [(0, .ref (md 0)), (1, .int 0), (2, .int (nI i))] [1, 0, 2] rfl ?_
              refine z_iinc C (v := (nI (i + 1))) dX5_isSound_54 2 rfl (nI_add i 1) (by decide) [(0, .ref (md 0)), (1, .int 0), (2, .int (nI (i + 1)))] [1, 2, 0] rfl ?_
              refine z_goto C (tgt := 4) dX5_isSound_57 (by decide) ?_
              refine z_lveq [(0, .ref (md 0)), (1, .int (nI 0)), (2, .int (nI (i + 1)))] (by rfl) ?_
              exact ih 0 (i + 1) (by omega) (by first | assumption | omega) (by first | assumption | omega) (by first | exact snd_y (by assumption) hb1 hb9 (by assumption) (by assumption) | exact snd_n0 (by assumption) hb9 | exact snd_n1 (by assumption) | exact snd_n2 (by assumption))
            · skip
              refine z_iconst C (v := 1) dX5_isSound_48 (by decide) ?_
              refine z_goto C (tgt := 53) dX5_isSound_49 (by decide) ?_
              refine z_istore_n C dX5_isSound_53 rfl (by decide) [(0, .ref (md 0)), (1, .int 1), (2, .int (nI i))] [1, 0, 2] rfl ?_
              refine z_iinc C (v := (nI (i + 1))) dX5_isSound_54 2 rfl (nI_add i 1) (by decide) [(0, .ref (md 0)), (1, .int 1), (2, .int (nI (i + 1)))] [1, 2, 0] rfl ?_
              refine z_goto C (tgt := 4) dX5_isSound_57 (by decide) ?_
              refine z_lveq [(0, .ref (md 0)), (1, .int (nI 1)), (2, .int (nI (i + 1)))] (by rfl) ?_
              exact ih 1 (i + 1) (by omega) (by first | assumption | omega) (by first | assumption | omega) (by first | exact snd_y (by assumption) hb1 hb9 (by assumption) (by assumption) | exact snd_n0 (by assumption) hb9 | exact snd_n1 (by assumption) | exact snd_n2 (by assumption))
  refine z_lveq [(0, .ref (md 0)), (1, .int (nI 1)), (2, .int (nI 0))] (by rfl) ?_
  exact L4_k_1 (25 - 0 + 1) 1 0 (Nat.lt_succ_self _) (by first | assumption | omega) (by first | assumption | omega) (by exact ⟨fun _ j hj => absurd hj (Nat.not_lt_zero j), fun _ => rfl⟩)
set_option maxHeartbeats 4000000 in
set_option maxRecDepth 100000 in
theorem m_next (l : Launch) (sa : Nat → Nat) (D : va_G) (cI cZ cL : ClassId) (md : Nat → Nat) (acc flo pap clo net bnd frm too amt pri wai fst ldr bor lnt rat plg opn : Nat → Int32) (small price cut proc thr : Int32) (mk lm : Nat) (b : Nat) (hb : b < 5) (hmk : mk ≤ 60) (hfrm : wf5 mk frm) (htoo : wf5 mk too) : zMi (T := Unit) sa D vwCl (zty cI cZ cL) l yX5_next wsX5_next ({ frames := 1, cells := 0, slots := 0, locals := 25 } : Room) [.ref (md 0), .int (nI b)] (wM md cI cZ acc flo pap clo net bnd frm too amt pri wai fst ldr bor lnt rat plg opn (nI mk) small (nI lm) price cut proc thr) (fun r9 _ => r9 = oI (nxtQ (ordL pri mk) acc net flo bnd frm too amt wai small b)) (fun _ => (wM md cI cZ acc flo pap clo net bnd frm too amt pri wai fst ldr bor lnt rat plg opn (nI mk) small (nI lm) price cut proc thr)) 0 0 := by
  refine zMi.of (ret := (some .int)) (cc := cX5_next) (nL := 5) (own := RX5) (by decide +kernel) rfl [(0, .ref (md 0)), (1, .int (nI b))] rfl (Nat.le_of_ble_eq_true rfl) rfl ?_
  intro A p e s m args below meth c C hmn
  refine z_aload_n C dX5_next_0 rfl 0 rfl ?_
  refine z_iload_n C dX5_next_1 rfl 1 rfl ?_
  refine z_iconst C (v := 0) dX5_next_2 (by decide) ?_
  rcases hq_1 : atQ (ordL pri mk) (isq wai frm b) 0 with _ | p_2
  · skip
    refine z_callVi C (T := Unit) (As := [.int (nI b), .int 0]) (rest := []) (ws' := fun _ => (wM md cI cZ acc flo pap clo net bnd frm too amt pri wai fst ldr bor lnt rat plg opn (nI mk) small (nI lm) price cut proc thr)) (m_at l sa D cI cZ cL md acc flo pap clo net bnd frm too amt pri wai fst ldr bor lnt rat plg opn small price cut proc thr mk lm b 0 (by first | assumption | omega) (by first | assumption | omega) (by first | assumption | omega) (by first | assumption | omega) (by first | assumption | omega)) (cwV 2 C.2.2.2.2.1 gX5_next_X5_at rfl rfl rfl (by decide +kernel) ⟨Nat.le_of_ble_eq_true rfl, Nat.le_of_ble_eq_true rfl⟩) 0 rfl rfl rfl (fun _ => zSub.full) zIn.full rfl (Nat.le_of_ble_eq_true rfl) ⟨Nat.le_of_ble_eq_true rfl, Nat.le_of_ble_eq_true rfl⟩ dX5_next_3 (fun r_3 _ h_4 => ?_)
    obtain rfl : r_3 = (-1) := h_4.trans (by rw [hq_1]; rfl)
    refine z_istore_n C dX5_next_6 rfl (by decide) [(0, .ref (md 0)), (1, .int (nI b)), (2, .int (-1))] [1, 2, 0] rfl ?_
    refine z_iload_n C dX5_next_7 rfl 2 rfl ?_
    refine z_iconst C (v := (-1)) dX5_next_8 (by decide) ?_
    refine z_icmp_eq C (tgt := 20) dX5_next_9 (by decide) (fun _ => ?_) (fun h => absurd h (by decide))
    refine z_iload_n C dX5_next_20 rfl 2 rfl ?_
    exact z_iret C () (by simp [nxtQ, oI, hq_1]) rfl (by decide) (by decide) dX5_next_21
  · skip
    have hm_p_2 := atQ_mem hq_1
    have := ordL_mem hm_p_2.1
    have hl0_p_2 := (List.getElem?_eq_some_iff.mp hq_1).1
    refine z_callVi C (T := Unit) (As := [.int (nI b), .int 0]) (rest := []) (ws' := fun _ => (wM md cI cZ acc flo pap clo net bnd frm too amt pri wai fst ldr bor lnt rat plg opn (nI mk) small (nI lm) price cut proc thr)) (m_at l sa D cI cZ cL md acc flo pap clo net bnd frm too amt pri wai fst ldr bor lnt rat plg opn small price cut proc thr mk lm b 0 (by first | assumption | omega) (by first | assumption | omega) (by first | assumption | omega) (by first | assumption | omega) (by first | assumption | omega)) (cwV 2 C.2.2.2.2.1 gX5_next_X5_at rfl rfl rfl (by decide +kernel) ⟨Nat.le_of_ble_eq_true rfl, Nat.le_of_ble_eq_true rfl⟩) 0 rfl rfl rfl (fun _ => zSub.full) zIn.full rfl (Nat.le_of_ble_eq_true rfl) ⟨Nat.le_of_ble_eq_true rfl, Nat.le_of_ble_eq_true rfl⟩ dX5_next_3 (fun r_5 _ h_6 => ?_)
    obtain rfl : r_5 = (nI p_2) := h_6.trans (by rw [hq_1]; rfl)
    refine z_istore_n C dX5_next_6 rfl (by decide) [(0, .ref (md 0)), (1, .int (nI b)), (2, .int (nI p_2))] [1, 2, 0] rfl ?_
    refine z_iload_n C dX5_next_7 rfl 2 rfl ?_
    refine z_iconst C (v := (-1)) dX5_next_8 (by decide) ?_
    refine z_icmp_eq C (tgt := 20) dX5_next_9 (by decide) (fun h => absurd h (nI_m1 (by omega))) (fun _ => ?_)
    refine z_aload_n C dX5_next_12 rfl 0 rfl ?_
    refine z_iload_n C dX5_next_13 rfl 2 rfl ?_
    refine z_callVi C (T := Unit) (As := [.int (nI p_2)]) (rest := []) (ws' := fun _ => (wM md cI cZ acc flo pap clo net bnd frm too amt pri wai fst ldr bor lnt rat plg opn (nI mk) small (nI lm) price cut proc thr)) (m_reason l sa D cI cZ cL md acc flo pap clo net bnd frm too amt pri wai fst ldr bor lnt rat plg opn small price cut proc thr mk lm p_2 (by first | assumption | omega) (by first | assumption | omega) (by first | assumption | omega) (by first | assumption | omega)) (cwV 1 C.2.2.2.2.1 gX5_next_X5_reason rfl rfl rfl (by decide +kernel) ⟨Nat.le_of_ble_eq_true rfl, Nat.le_of_ble_eq_true rfl⟩) 0 rfl rfl rfl (fun _ => zSub.full) zIn.full rfl (Nat.le_of_ble_eq_true rfl) ⟨Nat.le_of_ble_eq_true rfl, Nat.le_of_ble_eq_true rfl⟩ dX5_next_14 (fun r_7 _ h_8 => ?_)
    obtain rfl : r_7 = (obs acc net flo bnd frm too amt wai p_2) := h_8
    refine z_if_ne C (tgt := 22) dX5_next_17 (by decide) (fun c17_9 => ?_) (fun c17_9 => ?_)
    · skip
      refine z_iconst C (v := 1) dX5_next_22 (by decide) ?_
      refine z_istore_n C dX5_next_23 rfl (by decide) [(0, .ref (md 0)), (1, .int (nI b)), (2, .int (nI p_2)), (3, .int 1)] [1, 2, 3, 0] rfl ?_
      refine z_aload_n C dX5_next_24 rfl 0 rfl ?_
      refine z_iload_n C dX5_next_25 rfl 1 rfl ?_
      refine z_iload_n C dX5_next_26 rfl 3 rfl ?_
      refine z_callVi C (T := Unit) (As := [.int (nI b), .int 1]) (rest := []) (ws' := fun _ => (wM md cI cZ acc flo pap clo net bnd frm too amt pri wai fst ldr bor lnt rat plg opn (nI mk) small (nI lm) price cut proc thr)) (m_atd l sa D cI cZ cL md acc flo pap clo net bnd frm too amt pri wai fst ldr bor lnt rat plg opn small price cut proc thr mk lm b 1 (by first | assumption | omega) (by decide) (by first | assumption | omega) (by first | assumption | omega) (by first | assumption | omega)) (cwV 2 C.2.2.2.2.1 gX5_next_X5_at rfl rfl rfl (by decide +kernel) ⟨Nat.le_of_ble_eq_true rfl, Nat.le_of_ble_eq_true rfl⟩) 0 rfl rfl rfl (fun _ => zSub.full) zIn.full rfl (Nat.le_of_ble_eq_true rfl) ⟨Nat.le_of_ble_eq_true rfl, Nat.le_of_ble_eq_true rfl⟩ dX5_next_27 (fun r_10 _ h_11 => ?_)
      obtain rfl : r_10 = (oI (atQ (ordL pri mk) (isq wai frm b) 1)) := h_11
      refine z_istore C dX5_next_30 (by decide) [(0, .ref (md 0)), (1, .int (nI b)), (2, .int (nI p_2)), (3, .int 1), (4, .int (oI (atQ (ordL pri mk) (isq wai frm b) 1)))] [1, 2, 3, 4, 0] rfl ?_
      have L32_k_12 : ∀ (n : Nat) (k : Nat), ((ordL pri mk).filter (isq wai frm b)).length + 1 - k < n → (k ≤ ((ordL pri mk).filter (isq wai frm b)).length) → ((((ordL pri mk).filter (isq wai frm b)).take k).find? (smf acc net flo bnd frm too amt wai small) = none) → zW p l e ({ frames := 1, cells := 0, slots := 0, locals := 25 } : Room) s m args below meth c (MQ below (zQi (T := Unit) D vwCl (zty cI cZ cL) A (fun r9 _ => r9 = oI (nxtQ (ordL pri mk) acc net flo bnd frm too amt wai small b)) (fun _ => (wM md cI cZ acc flo pap clo net bnd frm too amt pri wai fst ldr bor lnt rat plg opn (nI mk) small (nI lm) price cut proc thr))) args s 0 0 A) D vwCl A 5 0 0 (wM md cI cZ acc flo pap clo net bnd frm too amt pri wai fst ldr bor lnt rat plg opn (nI mk) small (nI lm) price cut proc thr) [(0, .ref (md 0)), (1, .int (nI b)), (2, .int (nI p_2)), (3, .int (nI k)), (4, .int (oI (atQ (ordL pri mk) (isq wai frm b) k)))] 32 [] := by
        intro n
        induction n with
        | zero => intros; omega
        | succ n ih =>
          intro k hm hk1 hfd
          rcases hq_13 : atQ (ordL pri mk) (isq wai frm b) k with _ | p_14
          · skip
            refine z_iload C (x := (-1)) dX5_next_32 4 rfl ?_
            refine z_iconst C (v := (-1)) dX5_next_34 (by decide) ?_
            refine z_icmp_eq C (tgt := 75) dX5_next_35 (by decide) (fun _ => ?_) (fun h => absurd h (by decide))
            refine z_iload C dX5_next_75 4 rfl ?_
            exact z_iret C () (by simp only [nxtQ, hq_1, if_neg c17_9]; rw [← ff_find]; rw [fd_end (List.getElem?_eq_none_iff.mp hq_13) hfd]; try rfl) rfl (by decide) (by decide) dX5_next_77
          · skip
            have hm_p_14 := atQ_mem hq_13
            have := ordL_mem hm_p_14.1
            have hl_p_14 := (List.getElem?_eq_some_iff.mp hq_13).1
            refine z_iload C (x := (nI p_14)) dX5_next_32 4 rfl ?_
            refine z_iconst C (v := (-1)) dX5_next_34 (by decide) ?_
            refine z_icmp_eq C (tgt := 75) dX5_next_35 (by decide) (fun h => absurd h (nI_m1 (by omega))) (fun _ => ?_)
            refine z_aload_n C dX5_next_38 rfl 0 rfl ?_
            refine z_get C 0 rfl i_X5_next_X5 rfl 9 (by decide) m_X5_next_f35 rfl rfl dX5_next_39 ?_
            refine z_iload C dX5_next_42 4 rfl ?_
            refine z_iald C 9 0 rfl rfl p_14 (nI_clamp (by omega)) (vp_in_nI (by omega) (by omega)) (amt p_14) rfl dX5_next_44 ?_
            refine z_aload_n C dX5_next_45 rfl 0 rfl ?_
            refine z_get C 0 rfl i_X5_next_X5 rfl 12 (by decide) m_X5_next_f44 rfl rfl dX5_next_46 ?_
            refine z_icmp_gt C (tgt := 61) dX5_next_49 (by decide) (fun c49_15 => ?_) (fun c49_15 => ?_)
            · skip
              refine z_iinc C (v := (nI (k + 1))) dX5_next_61 3 rfl (nI_add k 1) (by decide) [(0, .ref (md 0)), (1, .int (nI b)), (2, .int (nI p_2)), (3, .int (nI (k + 1))), (4, .int (nI p_14))] [1, 2, 3, 0, 4] rfl ?_
              refine z_aload_n C dX5_next_64 rfl 0 rfl ?_
              refine z_iload_n C dX5_next_65 rfl 1 rfl ?_
              refine z_iload_n C dX5_next_66 rfl 3 rfl ?_
              refine z_callVi C (T := Unit) (As := [.int (nI b), .int (nI (k + 1))]) (rest := []) (ws' := fun _ => (wM md cI cZ acc flo pap clo net bnd frm too amt pri wai fst ldr bor lnt rat plg opn (nI mk) small (nI lm) price cut proc thr)) (m_atd l sa D cI cZ cL md acc flo pap clo net bnd frm too amt pri wai fst ldr bor lnt rat plg opn small price cut proc thr mk lm b (k + 1) (by first | assumption | omega) (by have := List.length_filter_le (isq wai frm b) (ordL pri mk); have := ordL_len pri mk; omega) (by first | assumption | omega) (by first | assumption | omega) (by first | assumption | omega)) (cwV 2 C.2.2.2.2.1 gX5_next_X5_at rfl rfl rfl (by decide +kernel) ⟨Nat.le_of_ble_eq_true rfl, Nat.le_of_ble_eq_true rfl⟩) 0 rfl rfl rfl (fun _ => zSub.full) zIn.full rfl (Nat.le_of_ble_eq_true rfl) ⟨Nat.le_of_ble_eq_true rfl, Nat.le_of_ble_eq_true rfl⟩ dX5_next_67 (fun r_16 _ h_17 => ?_)
              obtain rfl : r_16 = (oI (atQ (ordL pri mk) (isq wai frm b) (k + 1))) := h_17
              refine z_istore C dX5_next_70 (by decide) [(0, .ref (md 0)), (1, .int (nI b)), (2, .int (nI p_2)), (3, .int (nI (k + 1))), (4, .int (oI (atQ (ordL pri mk) (isq wai frm b) (k + 1))))] [1, 2, 3, 4, 0] rfl ?_
              refine z_goto C (tgt := 32) dX5_next_72 (by decide) ?_
              exact ih (k + 1) (by omega) (by first | assumption | omega) (by exact fd_no hq_13 (by simp [smf, hq_1, c17_9, hq_13, c49_15]) hfd)
            · skip
              refine z_aload_n C dX5_next_52 rfl 0 rfl ?_
              refine z_iload C dX5_next_53 4 rfl ?_
              refine z_callVi C (T := Unit) (As := [.int (nI p_14)]) (rest := []) (ws' := fun _ => (wM md cI cZ acc flo pap clo net bnd frm too amt pri wai fst ldr bor lnt rat plg opn (nI mk) small (nI lm) price cut proc thr)) (m_reason l sa D cI cZ cL md acc flo pap clo net bnd frm too amt pri wai fst ldr bor lnt rat plg opn small price cut proc thr mk lm p_14 (by first | assumption | omega) (by first | assumption | omega) (by first | assumption | omega) (by first | assumption | omega)) (cwV 1 C.2.2.2.2.1 gX5_next_X5_reason rfl rfl rfl (by decide +kernel) ⟨Nat.le_of_ble_eq_true rfl, Nat.le_of_ble_eq_true rfl⟩) 0 rfl rfl rfl (fun _ => zSub.full) zIn.full rfl (Nat.le_of_ble_eq_true rfl) ⟨Nat.le_of_ble_eq_true rfl, Nat.le_of_ble_eq_true rfl⟩ dX5_next_55 (fun r_18 _ h_19 => ?_)
              obtain rfl : r_18 = (obs acc net flo bnd frm too amt wai p_14) := h_19
              refine z_if_eq C (tgt := 75) dX5_next_58 (by decide) (fun c58_20 => ?_) (fun c58_20 => ?_)
              · skip
                refine z_iload C dX5_next_75 4 rfl ?_
                exact z_iret C () (by simp only [nxtQ, hq_1, if_neg c17_9]; rw [← ff_find]; rw [fd_found hq_13 (by simp [smf, hq_1, c17_9, hq_13, c49_15, c58_20]) hfd]; try rfl) rfl (by decide) (by decide) dX5_next_77
              · skip
                refine z_iinc C (v := (nI (k + 1))) dX5_next_61 3 rfl (nI_add k 1) (by decide) [(0, .ref (md 0)), (1, .int (nI b)), (2, .int (nI p_2)), (3, .int (nI (k + 1))), (4, .int (nI p_14))] [1, 2, 3, 0, 4] rfl ?_
                refine z_aload_n C dX5_next_64 rfl 0 rfl ?_
                refine z_iload_n C dX5_next_65 rfl 1 rfl ?_
                refine z_iload_n C dX5_next_66 rfl 3 rfl ?_
                refine z_callVi C (T := Unit) (As := [.int (nI b), .int (nI (k + 1))]) (rest := []) (ws' := fun _ => (wM md cI cZ acc flo pap clo net bnd frm too amt pri wai fst ldr bor lnt rat plg opn (nI mk) small (nI lm) price cut proc thr)) (m_atd l sa D cI cZ cL md acc flo pap clo net bnd frm too amt pri wai fst ldr bor lnt rat plg opn small price cut proc thr mk lm b (k + 1) (by first | assumption | omega) (by have := List.length_filter_le (isq wai frm b) (ordL pri mk); have := ordL_len pri mk; omega) (by first | assumption | omega) (by first | assumption | omega) (by first | assumption | omega)) (cwV 2 C.2.2.2.2.1 gX5_next_X5_at rfl rfl rfl (by decide +kernel) ⟨Nat.le_of_ble_eq_true rfl, Nat.le_of_ble_eq_true rfl⟩) 0 rfl rfl rfl (fun _ => zSub.full) zIn.full rfl (Nat.le_of_ble_eq_true rfl) ⟨Nat.le_of_ble_eq_true rfl, Nat.le_of_ble_eq_true rfl⟩ dX5_next_67 (fun r_21 _ h_22 => ?_)
                obtain rfl : r_21 = (oI (atQ (ordL pri mk) (isq wai frm b) (k + 1))) := h_22
                refine z_istore C dX5_next_70 (by decide) [(0, .ref (md 0)), (1, .int (nI b)), (2, .int (nI p_2)), (3, .int (nI (k + 1))), (4, .int (oI (atQ (ordL pri mk) (isq wai frm b) (k + 1))))] [1, 2, 3, 4, 0] rfl ?_
                refine z_goto C (tgt := 32) dX5_next_72 (by decide) ?_
                exact ih (k + 1) (by omega) (by first | assumption | omega) (by exact fd_no hq_13 (by simp [smf, hq_1, c17_9, hq_13, c49_15, c58_20]) hfd)
      refine z_lveq [(0, .ref (md 0)), (1, .int (nI b)), (2, .int (nI p_2)), (3, .int (nI 1)), (4, .int (oI (atQ (ordL pri mk) (isq wai frm b) 1)))] (by rfl) ?_
      exact L32_k_12 (((ordL pri mk).filter (isq wai frm b)).length + 1 - 1 + 1) 1 (Nat.lt_succ_self _) (by have := hq_1; exact (List.getElem?_eq_some_iff.mp this).1) (by exact fd_no (i := 0) hq_1 (by simp [smf, hq_1, c17_9]) (by rfl))
    · skip
      refine z_iload_n C dX5_next_20 rfl 2 rfl ?_
      exact z_iret C () (by simp [nxtQ, oI, hq_1, c17_9]) rfl (by decide) (by decide) dX5_next_21
set_option maxHeartbeats 4000000 in
set_option maxRecDepth 100000 in
theorem m_firsts (l : Launch) (sa : Nat → Nat) (D : va_G) (cI cZ cL : ClassId) (md : Nat → Nat) (acc flo pap clo net bnd frm too amt pri wai fst ldr bor lnt rat plg opn : Nat → Int32) (small price cut proc thr : Int32) (mk lm : Nat) (S : Nat) (hS : S < 32) (hmk : mk ≤ 60) (hfrm : wf5 mk frm) (htoo : wf5 mk too) : zMv (T := Unit) sa D vwCl (zty cI cZ cL) l yX5_firsts wsX5_firsts ({ frames := 1, cells := 0, slots := 0, locals := 25 } : Room) [.ref (md 0), .int (nI S)] (wM md cI cZ acc flo pap clo net bnd frm too amt pri wai fst ldr bor lnt rat plg opn (nI mk) small (nI lm) price cut proc thr) (fun _ => True) (fun _ => (wM md cI cZ acc flo pap clo net bnd frm too amt pri wai (frsF (fcnQ (ordL pri mk) wai frm) S fst 5) ldr bor lnt rat plg opn (nI mk) small (nI lm) price cut proc thr)) 0 0 := by
  refine zMv.of (ret := none) (cc := cX5_firsts) (nL := 3) (own := RX5) (by decide +kernel) rfl [(0, .ref (md 0)), (1, .int (nI S))] rfl (Nat.le_of_ble_eq_true rfl) rfl ?_
  intro A p e s m args below meth c C hmn
  refine z_iconst C (v := 0) dX5_firsts_0 (by decide) ?_
  refine z_istore_n C dX5_firsts_1 rfl (by decide) [(0, .ref (md 0)), (1, .int (nI S)), (2, .int 0)] [1, 2, 0] rfl ?_
  have L2_k_1 : ∀ (n : Nat) (i : Nat), 5 - i < n → (i ≤ 5) → zW p l e ({ frames := 1, cells := 0, slots := 0, locals := 25 } : Room) s m args below meth c (MQ below (zQv (T := Unit) D vwCl (zty cI cZ cL) A (fun _ => True) (fun _ => (wM md cI cZ acc flo pap clo net bnd frm too amt pri wai (frsF (fcnQ (ordL pri mk) wai frm) S fst 5) ldr bor lnt rat plg opn (nI mk) small (nI lm) price cut proc thr))) args s 0 0 A) D vwCl A 3 0 0 (wM md cI cZ acc flo pap clo net bnd frm too amt pri wai (frsF (fcnQ (ordL pri mk) wai frm) S fst i) ldr bor lnt rat plg opn (nI mk) small (nI lm) price cut proc thr) [(0, .ref (md 0)), (1, .int (nI S)), (2, .int (nI i))] 2 [] := by
    intro n
    induction n with
    | zero => intros; omega
    | succ n ih =>
      intro i hm hi
      refine z_iload_n C dX5_firsts_2 rfl 2 rfl ?_
      refine z_iconst C (v := 5) dX5_firsts_3 (by decide) ?_
      refine z_icmp_ge C (tgt := 38) dX5_firsts_4 (by decide) (fun c4_2 => ?_) (fun c4_2 => ?_)
      · skip
        have n_3 : 5 ≤ i := (nI_leI (a := 5) (b := i) (by omega) (by omega)).mp c4_2
        exact z_vret C () (by exact trivial) (by rw [show i = 5 by omega]) (by decide) (by decide) dX5_firsts_38
      · skip
        have n_4 : ¬ 5 ≤ i := fun q => c4_2 ((nI_leI (a := 5) (b := i) (by omega) (by omega)).mpr q)
        refine z_aload_n C dX5_firsts_7 rfl 0 rfl ?_
        refine z_get C 0 rfl i_X5_firsts_X5 rfl 13 (by decide) m_X5_firsts_f48 rfl rfl dX5_firsts_8 ?_
        refine z_iload_n C dX5_firsts_11 rfl 2 rfl ?_
        refine z_iload_n C dX5_firsts_12 rfl 1 rfl ?_
        refine z_iload_n C dX5_firsts_13 rfl 2 rfl ?_
        refine z_ishr C (v := ((nI S) >>> ((nI i) &&& 31))) dX5_firsts_14 rfl ?_
        refine z_iconst C (v := 1) dX5_firsts_15 (by decide) ?_
        refine z_case (Nat.testBit S i = true) (fun hp_5 => ?_) (fun hp_5 => ?_)
        · skip
          refine z_iand C (v := 1) dX5_firsts_16 (by rw [z_bitm S i (by omega) (by omega), hp_5]; rfl) ?_
          refine z_iconst C (v := 1) dX5_firsts_17 (by decide) ?_
          refine z_icmp_ne C (tgt := 30) dX5_firsts_18 (by decide) (fun h => absurd h (by decide)) (fun _ => ?_)
          refine z_aload_n C dX5_firsts_21 rfl 0 rfl ?_
          refine z_iload_n C dX5_firsts_22 rfl 2 rfl ?_
          refine z_iconst C (v := 0) dX5_firsts_23 (by decide) ?_
          refine z_callVi C (T := Unit) (As := [.int (nI i), .int 0]) (rest := [.int (nI i), .ref (md 12)]) (ws' := fun _ => (wM md cI cZ acc flo pap clo net bnd frm too amt pri wai (frsF (fcnQ (ordL pri mk) wai frm) S fst i) ldr bor lnt rat plg opn (nI mk) small (nI lm) price cut proc thr)) (m_atd l sa D cI cZ cL md acc flo pap clo net bnd frm too amt pri wai (frsF (fcnQ (ordL pri mk) wai frm) S fst i) ldr bor lnt rat plg opn small price cut proc thr mk lm i 0 (by first | assumption | omega) (by decide) (by first | assumption | omega) (by first | assumption | omega) (by first | assumption | omega)) (cwV 2 C.2.2.2.2.1 gX5_firsts_X5_at rfl rfl rfl (by decide +kernel) ⟨Nat.le_of_ble_eq_true rfl, Nat.le_of_ble_eq_true rfl⟩) 0 rfl rfl rfl (fun _ => zSub.full) zIn.full rfl (Nat.le_of_ble_eq_true rfl) ⟨Nat.le_of_ble_eq_true rfl, Nat.le_of_ble_eq_true rfl⟩ dX5_firsts_24 (fun r_6 _ h_7 => ?_)
          obtain rfl : r_6 = (oI (atQ (ordL pri mk) (isq wai frm i) 0)) := h_7
          refine z_goto C (tgt := 31) dX5_firsts_27 (by decide) ?_
          refine z_iast C 12 0 rfl rfl i (nI_clamp (by omega)) (vp_in_nI (by omega) (by omega)) (oI (atQ (ordL pri mk) (isq wai frm i) 0)) rfl dX5_firsts_31 (wM md cI cZ acc flo pap clo net bnd frm too amt pri wai (upd (frsF (fcnQ (ordL pri mk) wai frm) S fst i) i (oI (atQ (ordL pri mk) (isq wai frm i) 0))) ldr bor lnt rat plg opn (nI mk) small (nI lm) price cut proc thr) rfl ?_
          refine z_iinc C (v := (nI (i + 1))) dX5_firsts_32 2 rfl (nI_add i 1) (by decide) [(0, .ref (md 0)), (1, .int (nI S)), (2, .int (nI (i + 1)))] [1, 2, 0] rfl ?_
          refine z_goto C (tgt := 2) dX5_firsts_35 (by decide) ?_
          refine z_ws (wM md cI cZ acc flo pap clo net bnd frm too amt pri wai (frsF (fcnQ (ordL pri mk) wai frm) S fst (i + 1)) ldr bor lnt rat plg opn (nI mk) small (nI lm) price cut proc thr) (by first | rw [← frsF_y (by assumption)]; rfl | rw [← frsF_n (by assumption)]) ?_
          exact ih (i + 1) (by omega) (by first | assumption | omega)
        · skip
          refine z_iand C (v := 0) dX5_firsts_16 (by rw [z_bitm S i (by omega) (by omega), ts_f hp_5]; rfl) ?_
          refine z_iconst C (v := 1) dX5_firsts_17 (by decide) ?_
          refine z_icmp_ne C (tgt := 30) dX5_firsts_18 (by decide) (fun _ => ?_) (fun h => absurd h (by decide))
          refine z_iconst C (v := (-1)) dX5_firsts_30 (by decide) ?_
          refine z_iast C 12 0 rfl rfl i (nI_clamp (by omega)) (vp_in_nI (by omega) (by omega)) (-1) rfl dX5_firsts_31 (wM md cI cZ acc flo pap clo net bnd frm too amt pri wai (upd (frsF (fcnQ (ordL pri mk) wai frm) S fst i) i (-1)) ldr bor lnt rat plg opn (nI mk) small (nI lm) price cut proc thr) rfl ?_
          refine z_iinc C (v := (nI (i + 1))) dX5_firsts_32 2 rfl (nI_add i 1) (by decide) [(0, .ref (md 0)), (1, .int (nI S)), (2, .int (nI (i + 1)))] [1, 2, 0] rfl ?_
          refine z_goto C (tgt := 2) dX5_firsts_35 (by decide) ?_
          refine z_ws (wM md cI cZ acc flo pap clo net bnd frm too amt pri wai (frsF (fcnQ (ordL pri mk) wai frm) S fst (i + 1)) ldr bor lnt rat plg opn (nI mk) small (nI lm) price cut proc thr) (by first | rw [← frsF_y (by assumption)]; rfl | rw [← frsF_n (by assumption)]) ?_
          exact ih (i + 1) (by omega) (by first | assumption | omega)
  refine z_ws (wM md cI cZ acc flo pap clo net bnd frm too amt pri wai (frsF (fcnQ (ordL pri mk) wai frm) S fst 0) ldr bor lnt rat plg opn (nI mk) small (nI lm) price cut proc thr) (by rw [frsF_0]) ?_
  refine z_lveq [(0, .ref (md 0)), (1, .int (nI S)), (2, .int (nI 0))] (by rfl) ?_
  exact L2_k_1 (5 - 0 + 1) 0 (Nat.lt_succ_self _) (by first | assumption | omega)
set_option maxHeartbeats 4000000 in
set_option maxRecDepth 100000 in
theorem m_isSet (l : Launch) (sa : Nat → Nat) (D : va_G) (cI cZ cL : ClassId) (md : Nat → Nat) (acc flo pap clo net bnd frm too amt pri wai fst ldr bor lnt rat plg opn : Nat → Int32) (small price cut proc thr : Int32) (mk lm : Nat) (S : Nat) (hS : S < 32) (hall : ∀ k, k < 5 → S.testBit k = true → ¬ (fcnQ (ordL pri mk) wai frm) k = none) (hmk : mk ≤ 60) (hfrm : wf5 mk frm) (htoo : wf5 mk too) : zMi (T := Unit) sa D vwCl (zty cI cZ cL) l yX5_isSet wsX5_isSet ({ frames := 2, cells := 0, slots := 0, locals := 47 } : Room) [.ref (md 0), .int (nI S)] (wM md cI cZ acc flo pap clo net bnd frm too amt pri wai fst ldr bor lnt rat plg opn (nI mk) small (nI lm) price cut proc thr) (fun r9 _ => r9 = if okS frm too amt flo bnd (fcnQ (ordL pri mk) wai frm) 5 acc net S = true then 1 else 0) (fun _ => (wM md cI cZ acc flo pap clo net bnd frm too amt pri wai (frsF (fcnQ (ordL pri mk) wai frm) S fst 5) ldr bor lnt rat plg opn (nI mk) small (nI lm) price cut proc thr)) 0 0 := by
  refine zMi.of (ret := (some .boolean)) (cc := cX5_isSet) (nL := 4) (own := RX5) (by decide +kernel) rfl [(0, .ref (md 0)), (1, .int (nI S))] rfl (Nat.le_of_ble_eq_true rfl) rfl ?_
  intro A p e s m args below meth c C hmn
  refine z_aload_n C dX5_isSet_0 rfl 0 rfl ?_
  refine z_iload_n C dX5_isSet_1 rfl 1 rfl ?_
  refine z_callVv C (T := Unit) (As := [.int (nI S)]) (rest := []) (ws' := fun _ => (wM md cI cZ acc flo pap clo net bnd frm too amt pri wai (frsF (fcnQ (ordL pri mk) wai frm) S fst 5) ldr bor lnt rat plg opn (nI mk) small (nI lm) price cut proc thr)) (m_firsts l sa D cI cZ cL md acc flo pap clo net bnd frm too amt pri wai fst ldr bor lnt rat plg opn small price cut proc thr mk lm S (by first | assumption | omega) (by first | assumption | omega) (by first | assumption | omega) (by first | assumption | omega)) (cwV 1 C.2.2.2.2.1 gX5_isSet_X5_firsts rfl rfl rfl (by decide +kernel) ⟨Nat.le_of_ble_eq_true rfl, Nat.le_of_ble_eq_true rfl⟩) 0 rfl rfl rfl (fun _ => zSub.full) zIn.full rfl (Nat.le_of_ble_eq_true rfl) ⟨Nat.le_of_ble_eq_true rfl, Nat.le_of_ble_eq_true rfl⟩ dX5_isSet_2 (fun _ _ => ?_)
  refine z_iconst C (v := 0) dX5_isSet_5 (by decide) ?_
  refine z_istore_n C dX5_isSet_6 rfl (by decide) [(0, .ref (md 0)), (1, .int (nI S)), (2, .int 0)] [1, 2, 0] rfl ?_
  have L7_k_1 : ∀ (n : Nat) (i : Nat), 5 - i < n → (i ≤ 5) → zW p l e ({ frames := 2, cells := 0, slots := 0, locals := 47 } : Room) s m args below meth c (MQ below (zQi (T := Unit) D vwCl (zty cI cZ cL) A (fun r9 _ => r9 = if okS frm too amt flo bnd (fcnQ (ordL pri mk) wai frm) 5 acc net S = true then 1 else 0) (fun _ => (wM md cI cZ acc flo pap clo net bnd frm too amt pri wai (frsF (fcnQ (ordL pri mk) wai frm) S fst 5) ldr bor lnt rat plg opn (nI mk) small (nI lm) price cut proc thr))) args s 0 0 A) D vwCl A 4 0 0 (wM md cI cZ ((gsk frm too amt 1 (inS (fcnQ (ordL pri mk) wai frm) S) acc net i).1) flo pap clo ((gsk frm too amt 1 (inS (fcnQ (ordL pri mk) wai frm) S) acc net i).2) bnd frm too amt pri wai (frsF (fcnQ (ordL pri mk) wai frm) S fst 5) ldr bor lnt rat plg opn (nI mk) small (nI lm) price cut proc thr) [(0, .ref (md 0)), (1, .int (nI S)), (2, .int (nI i))] 7 [] := by
    intro n
    induction n with
    | zero => intros; omega
    | succ n ih =>
      intro i hm hi
      refine z_iload_n C dX5_isSet_7 rfl 2 rfl ?_
      refine z_iconst C (v := 5) dX5_isSet_8 (by decide) ?_
      refine z_icmp_ge C (tgt := 39) dX5_isSet_9 (by decide) (fun c9_2 => ?_) (fun c9_2 => ?_)
      · skip
        have n_3 : 5 ≤ i := (nI_leI (a := 5) (b := i) (by omega) (by omega)).mp c9_2
        refine z_aload_n C dX5_isSet_39 rfl 0 rfl ?_
        refine z_case (sndB ((gsk frm too amt 1 (inS (fcnQ (ordL pri mk) wai frm) S) acc net i).1) flo ((gsk frm too amt 1 (inS (fcnQ (ordL pri mk) wai frm) S) acc net i).2) bnd = true) (fun hp_4 => ?_) (fun hp_4 => ?_)
        · skip
          refine z_callVi C (T := Unit) (As := []) (rest := []) (ws' := fun _ => (wM md cI cZ ((gsk frm too amt 1 (inS (fcnQ (ordL pri mk) wai frm) S) acc net i).1) flo pap clo ((gsk frm too amt 1 (inS (fcnQ (ordL pri mk) wai frm) S) acc net i).2) bnd frm too amt pri wai (frsF (fcnQ (ordL pri mk) wai frm) S fst 5) ldr bor lnt rat plg opn (nI mk) small (nI lm) price cut proc thr)) (m_isSound l sa D cI cZ cL md ((gsk frm too amt 1 (inS (fcnQ (ordL pri mk) wai frm) S) acc net i).1) flo pap clo ((gsk frm too amt 1 (inS (fcnQ (ordL pri mk) wai frm) S) acc net i).2) bnd frm too amt pri wai (frsF (fcnQ (ordL pri mk) wai frm) S fst 5) ldr bor lnt rat plg opn small price cut proc thr mk lm  ) (cwV 0 C.2.2.2.2.1 gX5_isSet_X5_isSound rfl rfl rfl (by decide +kernel) ⟨Nat.le_of_ble_eq_true rfl, Nat.le_of_ble_eq_true rfl⟩) 0 rfl rfl rfl (fun _ => zSub.full) zIn.full rfl (Nat.le_of_ble_eq_true rfl) ⟨Nat.le_of_ble_eq_true rfl, Nat.le_of_ble_eq_true rfl⟩ dX5_isSet_40 (fun r_5 _ h_6 => ?_)
          obtain rfl : r_5 = 1 := h_6.trans (if_pos hp_4)
          refine z_istore_n C dX5_isSet_43 rfl (by decide) [(0, .ref (md 0)), (1, .int (nI S)), (2, .int 1)] [1, 2, 0] rfl ?_
          refine z_iconst C (v := 0) dX5_isSet_44 (by decide) ?_
          refine z_istore_n C dX5_isSet_45 rfl (by decide) [(0, .ref (md 0)), (1, .int (nI S)), (2, .int 1), (3, .int 0)] [1, 2, 3, 0] rfl ?_
          have L46_k_7 : ∀ (n : Nat) (j : Nat), 5 - j < n → (j ≤ 5) → zW p l e ({ frames := 2, cells := 0, slots := 0, locals := 47 } : Room) s m args below meth c (MQ below (zQi (T := Unit) D vwCl (zty cI cZ cL) A (fun r9 _ => r9 = if okS frm too amt flo bnd (fcnQ (ordL pri mk) wai frm) 5 acc net S = true then 1 else 0) (fun _ => (wM md cI cZ acc flo pap clo net bnd frm too amt pri wai (frsF (fcnQ (ordL pri mk) wai frm) S fst 5) ldr bor lnt rat plg opn (nI mk) small (nI lm) price cut proc thr))) args s 0 0 A) D vwCl A 4 0 0 (wM md cI cZ ((gsk frm too amt (-1) (inS (fcnQ (ordL pri mk) wai frm) S) (gsk frm too amt 1 (inS (fcnQ (ordL pri mk) wai frm) S) acc net i).1 (gsk frm too amt 1 (inS (fcnQ (ordL pri mk) wai frm) S) acc net i).2 j).1) flo pap clo ((gsk frm too amt (-1) (inS (fcnQ (ordL pri mk) wai frm) S) (gsk frm too amt 1 (inS (fcnQ (ordL pri mk) wai frm) S) acc net i).1 (gsk frm too amt 1 (inS (fcnQ (ordL pri mk) wai frm) S) acc net i).2 j).2) bnd frm too amt pri wai (frsF (fcnQ (ordL pri mk) wai frm) S fst 5) ldr bor lnt rat plg opn (nI mk) small (nI lm) price cut proc thr) [(0, .ref (md 0)), (1, .int (nI S)), (2, .int 1), (3, .int (nI j))] 46 [] := by
            intro n
            induction n with
            | zero => intros; omega
            | succ n ih =>
              intro j hm hj
              refine z_iload_n C dX5_isSet_46 rfl 3 rfl ?_
              refine z_iconst C (v := 5) dX5_isSet_47 (by decide) ?_
              refine z_icmp_ge C (tgt := 78) dX5_isSet_48 (by decide) (fun c48_8 => ?_) (fun c48_8 => ?_)
              · skip
                have n_9 : 5 ≤ j := (nI_leI (a := 5) (b := j) (by omega) (by omega)).mp c48_8
                refine z_iload_n C dX5_isSet_78 rfl 2 rfl ?_
                exact z_zret C () (by obtain rfl : i = 5 := (by omega); rw [okS_all hall]; simp only [c9_2, n_3, hp_4, c48_8, n_9, if_true]; try rfl) (by obtain rfl : i = 5 := (by omega); obtain rfl : j = 5 := (by omega); rw [gsk_b1, gsk_b2]) (by decide) (by decide) (by decide) dX5_isSet_79
              · skip
                have n_10 : ¬ 5 ≤ j := fun q => c48_8 ((nI_leI (a := 5) (b := j) (by omega) (by omega)).mpr q)
                refine z_aload_n C dX5_isSet_51 rfl 0 rfl ?_
                refine z_get C 0 rfl i_X5_isSet_X5 rfl 13 (by decide) m_X5_isSet_f48 rfl rfl dX5_isSet_52 ?_
                refine z_iload_n C dX5_isSet_55 rfl 3 rfl ?_
                rcases hq_11 : inS (fcnQ (ordL pri mk) wai frm) S j with _ | p_12
                · skip
                  refine z_iald C 12 0 rfl rfl j (nI_clamp (by omega)) (vp_in_nI (by omega) (by omega)) (-1) ((frsF_at (by omega)).trans (by rw [hq_11]; rfl)) dX5_isSet_56 ?_
                  refine z_iconst C (v := (-1)) dX5_isSet_57 (by decide) ?_
                  refine z_icmp_eq C (tgt := 72) dX5_isSet_58 (by decide) (fun _ => ?_) (fun h => absurd h (by decide))
                  refine z_iinc C (v := (nI (j + 1))) dX5_isSet_72 3 rfl (nI_add j 1) (by decide) [(0, .ref (md 0)), (1, .int (nI S)), (2, .int 1), (3, .int (nI (j + 1)))] [1, 2, 3, 0] rfl ?_
                  refine z_goto C (tgt := 46) dX5_isSet_75 (by decide) ?_
                  refine z_ws (wM md cI cZ ((gsk frm too amt (-1) (inS (fcnQ (ordL pri mk) wai frm) S) (gsk frm too amt 1 (inS (fcnQ (ordL pri mk) wai frm) S) acc net i).1 (gsk frm too amt 1 (inS (fcnQ (ordL pri mk) wai frm) S) acc net i).2 (j + 1)).1) flo pap clo ((gsk frm too amt (-1) (inS (fcnQ (ordL pri mk) wai frm) S) (gsk frm too amt 1 (inS (fcnQ (ordL pri mk) wai frm) S) acc net i).1 (gsk frm too amt 1 (inS (fcnQ (ordL pri mk) wai frm) S) acc net i).2 (j + 1)).2) bnd frm too amt pri wai (frsF (fcnQ (ordL pri mk) wai frm) S fst 5) ldr bor lnt rat plg opn (nI mk) small (nI lm) price cut proc thr) (by first | rw [gsk_some (by assumption)] | rw [gsk_none (by assumption)]) ?_
                  exact ih (j + 1) (by omega) (by first | assumption | omega)
                · skip
                  have := inS_lt hq_11
                  refine z_iald C 12 0 rfl rfl j (nI_clamp (by omega)) (vp_in_nI (by omega) (by omega)) (nI p_12) ((frsF_at (by omega)).trans (by rw [hq_11]; rfl)) dX5_isSet_56 ?_
                  refine z_iconst C (v := (-1)) dX5_isSet_57 (by decide) ?_
                  refine z_icmp_eq C (tgt := 72) dX5_isSet_58 (by decide) (fun h => absurd h (nI_m1 (by omega))) (fun _ => ?_)
                  refine z_aload_n C dX5_isSet_61 rfl 0 rfl ?_
                  refine z_aload_n C dX5_isSet_62 rfl 0 rfl ?_
                  refine z_get C 0 rfl i_X5_isSet_X5 rfl 13 (by decide) m_X5_isSet_f48 rfl rfl dX5_isSet_63 ?_
                  refine z_iload_n C dX5_isSet_66 rfl 3 rfl ?_
                  refine z_iald C 12 0 rfl rfl j (nI_clamp (by omega)) (vp_in_nI (by omega) (by omega)) (nI p_12) ((frsF_at (by omega)).trans (by rw [hq_11]; rfl)) dX5_isSet_67 ?_
                  refine z_iconst C (v := (-1)) dX5_isSet_68 (by decide) ?_
                  refine z_callVv C (T := Unit) (As := [.int (nI p_12), .int (-1)]) (rest := []) (ws' := fun _ => (wM md cI cZ (mvA (ix (frm p_12)) (ix (too p_12)) ((-1) * amt p_12) ((gsk frm too amt (-1) (inS (fcnQ (ordL pri mk) wai frm) S) (gsk frm too amt 1 (inS (fcnQ (ordL pri mk) wai frm) S) acc net i).1 (gsk frm too amt 1 (inS (fcnQ (ordL pri mk) wai frm) S) acc net i).2 j).1)) flo pap clo (mvN (ix (frm p_12)) (ix (too p_12)) ((-1) * amt p_12) ((gsk frm too amt (-1) (inS (fcnQ (ordL pri mk) wai frm) S) (gsk frm too amt 1 (inS (fcnQ (ordL pri mk) wai frm) S) acc net i).1 (gsk frm too amt 1 (inS (fcnQ (ordL pri mk) wai frm) S) acc net i).2 j).2)) bnd frm too amt pri wai (frsF (fcnQ (ordL pri mk) wai frm) S fst 5) ldr bor lnt rat plg opn (nI mk) small (nI lm) price cut proc thr)) (m_moves l sa D cI cZ cL md ((gsk frm too amt (-1) (inS (fcnQ (ordL pri mk) wai frm) S) (gsk frm too amt 1 (inS (fcnQ (ordL pri mk) wai frm) S) acc net i).1 (gsk frm too amt 1 (inS (fcnQ (ordL pri mk) wai frm) S) acc net i).2 j).1) flo pap clo ((gsk frm too amt (-1) (inS (fcnQ (ordL pri mk) wai frm) S) (gsk frm too amt 1 (inS (fcnQ (ordL pri mk) wai frm) S) acc net i).1 (gsk frm too amt 1 (inS (fcnQ (ordL pri mk) wai frm) S) acc net i).2 j).2) bnd frm too amt pri wai (frsF (fcnQ (ordL pri mk) wai frm) S fst 5) ldr bor lnt rat plg opn small price cut proc thr mk lm p_12 (-1) (by first | assumption | omega) (by first | assumption | omega) (by first | assumption | omega) (by first | assumption | omega)) (cwV 2 C.2.2.2.2.1 gX5_isSet_X5_moves rfl rfl rfl (by decide +kernel) ⟨Nat.le_of_ble_eq_true rfl, Nat.le_of_ble_eq_true rfl⟩) 0 rfl rfl rfl (fun _ => zSub.full) zIn.full rfl (Nat.le_of_ble_eq_true rfl) ⟨Nat.le_of_ble_eq_true rfl, Nat.le_of_ble_eq_true rfl⟩ dX5_isSet_69 (fun _ _ => ?_)
                  refine z_iinc C (v := (nI (j + 1))) dX5_isSet_72 3 rfl (nI_add j 1) (by decide) [(0, .ref (md 0)), (1, .int (nI S)), (2, .int 1), (3, .int (nI (j + 1)))] [1, 2, 3, 0] rfl ?_
                  refine z_goto C (tgt := 46) dX5_isSet_75 (by decide) ?_
                  refine z_ws (wM md cI cZ ((gsk frm too amt (-1) (inS (fcnQ (ordL pri mk) wai frm) S) (gsk frm too amt 1 (inS (fcnQ (ordL pri mk) wai frm) S) acc net i).1 (gsk frm too amt 1 (inS (fcnQ (ordL pri mk) wai frm) S) acc net i).2 (j + 1)).1) flo pap clo ((gsk frm too amt (-1) (inS (fcnQ (ordL pri mk) wai frm) S) (gsk frm too amt 1 (inS (fcnQ (ordL pri mk) wai frm) S) acc net i).1 (gsk frm too amt 1 (inS (fcnQ (ordL pri mk) wai frm) S) acc net i).2 (j + 1)).2) bnd frm too amt pri wai (frsF (fcnQ (ordL pri mk) wai frm) S fst 5) ldr bor lnt rat plg opn (nI mk) small (nI lm) price cut proc thr) (by first | rw [gsk_some (by assumption)] | rw [gsk_none (by assumption)]) ?_
                  exact ih (j + 1) (by omega) (by first | assumption | omega)
          refine z_ws (wM md cI cZ ((gsk frm too amt (-1) (inS (fcnQ (ordL pri mk) wai frm) S) (gsk frm too amt 1 (inS (fcnQ (ordL pri mk) wai frm) S) acc net i).1 (gsk frm too amt 1 (inS (fcnQ (ordL pri mk) wai frm) S) acc net i).2 0).1) flo pap clo ((gsk frm too amt (-1) (inS (fcnQ (ordL pri mk) wai frm) S) (gsk frm too amt 1 (inS (fcnQ (ordL pri mk) wai frm) S) acc net i).1 (gsk frm too amt 1 (inS (fcnQ (ordL pri mk) wai frm) S) acc net i).2 0).2) bnd frm too amt pri wai (frsF (fcnQ (ordL pri mk) wai frm) S fst 5) ldr bor lnt rat plg opn (nI mk) small (nI lm) price cut proc thr) (by rfl) ?_
          refine z_lveq [(0, .ref (md 0)), (1, .int (nI S)), (2, .int 1), (3, .int (nI 0))] (by rfl) ?_
          exact L46_k_7 (5 - 0 + 1) 0 (Nat.lt_succ_self _) (by first | assumption | omega)
        · skip
          refine z_callVi C (T := Unit) (As := []) (rest := []) (ws' := fun _ => (wM md cI cZ ((gsk frm too amt 1 (inS (fcnQ (ordL pri mk) wai frm) S) acc net i).1) flo pap clo ((gsk frm too amt 1 (inS (fcnQ (ordL pri mk) wai frm) S) acc net i).2) bnd frm too amt pri wai (frsF (fcnQ (ordL pri mk) wai frm) S fst 5) ldr bor lnt rat plg opn (nI mk) small (nI lm) price cut proc thr)) (m_isSound l sa D cI cZ cL md ((gsk frm too amt 1 (inS (fcnQ (ordL pri mk) wai frm) S) acc net i).1) flo pap clo ((gsk frm too amt 1 (inS (fcnQ (ordL pri mk) wai frm) S) acc net i).2) bnd frm too amt pri wai (frsF (fcnQ (ordL pri mk) wai frm) S fst 5) ldr bor lnt rat plg opn small price cut proc thr mk lm  ) (cwV 0 C.2.2.2.2.1 gX5_isSet_X5_isSound rfl rfl rfl (by decide +kernel) ⟨Nat.le_of_ble_eq_true rfl, Nat.le_of_ble_eq_true rfl⟩) 0 rfl rfl rfl (fun _ => zSub.full) zIn.full rfl (Nat.le_of_ble_eq_true rfl) ⟨Nat.le_of_ble_eq_true rfl, Nat.le_of_ble_eq_true rfl⟩ dX5_isSet_40 (fun r_13 _ h_14 => ?_)
          obtain rfl : r_13 = 0 := h_14.trans (if_neg hp_4)
          refine z_istore_n C dX5_isSet_43 rfl (by decide) [(0, .ref (md 0)), (1, .int (nI S)), (2, .int 0)] [1, 2, 0] rfl ?_
          refine z_iconst C (v := 0) dX5_isSet_44 (by decide) ?_
          refine z_istore_n C dX5_isSet_45 rfl (by decide) [(0, .ref (md 0)), (1, .int (nI S)), (2, .int 0), (3, .int 0)] [1, 2, 3, 0] rfl ?_
          have L46_k_15 : ∀ (n : Nat) (j : Nat), 5 - j < n → (j ≤ 5) → zW p l e ({ frames := 2, cells := 0, slots := 0, locals := 47 } : Room) s m args below meth c (MQ below (zQi (T := Unit) D vwCl (zty cI cZ cL) A (fun r9 _ => r9 = if okS frm too amt flo bnd (fcnQ (ordL pri mk) wai frm) 5 acc net S = true then 1 else 0) (fun _ => (wM md cI cZ acc flo pap clo net bnd frm too amt pri wai (frsF (fcnQ (ordL pri mk) wai frm) S fst 5) ldr bor lnt rat plg opn (nI mk) small (nI lm) price cut proc thr))) args s 0 0 A) D vwCl A 4 0 0 (wM md cI cZ ((gsk frm too amt (-1) (inS (fcnQ (ordL pri mk) wai frm) S) (gsk frm too amt 1 (inS (fcnQ (ordL pri mk) wai frm) S) acc net i).1 (gsk frm too amt 1 (inS (fcnQ (ordL pri mk) wai frm) S) acc net i).2 j).1) flo pap clo ((gsk frm too amt (-1) (inS (fcnQ (ordL pri mk) wai frm) S) (gsk frm too amt 1 (inS (fcnQ (ordL pri mk) wai frm) S) acc net i).1 (gsk frm too amt 1 (inS (fcnQ (ordL pri mk) wai frm) S) acc net i).2 j).2) bnd frm too amt pri wai (frsF (fcnQ (ordL pri mk) wai frm) S fst 5) ldr bor lnt rat plg opn (nI mk) small (nI lm) price cut proc thr) [(0, .ref (md 0)), (1, .int (nI S)), (2, .int 0), (3, .int (nI j))] 46 [] := by
            intro n
            induction n with
            | zero => intros; omega
            | succ n ih =>
              intro j hm hj
              refine z_iload_n C dX5_isSet_46 rfl 3 rfl ?_
              refine z_iconst C (v := 5) dX5_isSet_47 (by decide) ?_
              refine z_icmp_ge C (tgt := 78) dX5_isSet_48 (by decide) (fun c48_16 => ?_) (fun c48_16 => ?_)
              · skip
                have n_17 : 5 ≤ j := (nI_leI (a := 5) (b := j) (by omega) (by omega)).mp c48_16
                refine z_iload_n C dX5_isSet_78 rfl 2 rfl ?_
                exact z_zret C () (by obtain rfl : i = 5 := (by omega); rw [okS_all hall]; simp only [c9_2, n_3, hp_4, c48_16, n_17, if_true]; try rfl) (by obtain rfl : i = 5 := (by omega); obtain rfl : j = 5 := (by omega); rw [gsk_b1, gsk_b2]) (by decide) (by decide) (by decide) dX5_isSet_79
              · skip
                have n_18 : ¬ 5 ≤ j := fun q => c48_16 ((nI_leI (a := 5) (b := j) (by omega) (by omega)).mpr q)
                refine z_aload_n C dX5_isSet_51 rfl 0 rfl ?_
                refine z_get C 0 rfl i_X5_isSet_X5 rfl 13 (by decide) m_X5_isSet_f48 rfl rfl dX5_isSet_52 ?_
                refine z_iload_n C dX5_isSet_55 rfl 3 rfl ?_
                rcases hq_19 : inS (fcnQ (ordL pri mk) wai frm) S j with _ | p_20
                · skip
                  refine z_iald C 12 0 rfl rfl j (nI_clamp (by omega)) (vp_in_nI (by omega) (by omega)) (-1) ((frsF_at (by omega)).trans (by rw [hq_19]; rfl)) dX5_isSet_56 ?_
                  refine z_iconst C (v := (-1)) dX5_isSet_57 (by decide) ?_
                  refine z_icmp_eq C (tgt := 72) dX5_isSet_58 (by decide) (fun _ => ?_) (fun h => absurd h (by decide))
                  refine z_iinc C (v := (nI (j + 1))) dX5_isSet_72 3 rfl (nI_add j 1) (by decide) [(0, .ref (md 0)), (1, .int (nI S)), (2, .int 0), (3, .int (nI (j + 1)))] [1, 2, 3, 0] rfl ?_
                  refine z_goto C (tgt := 46) dX5_isSet_75 (by decide) ?_
                  refine z_ws (wM md cI cZ ((gsk frm too amt (-1) (inS (fcnQ (ordL pri mk) wai frm) S) (gsk frm too amt 1 (inS (fcnQ (ordL pri mk) wai frm) S) acc net i).1 (gsk frm too amt 1 (inS (fcnQ (ordL pri mk) wai frm) S) acc net i).2 (j + 1)).1) flo pap clo ((gsk frm too amt (-1) (inS (fcnQ (ordL pri mk) wai frm) S) (gsk frm too amt 1 (inS (fcnQ (ordL pri mk) wai frm) S) acc net i).1 (gsk frm too amt 1 (inS (fcnQ (ordL pri mk) wai frm) S) acc net i).2 (j + 1)).2) bnd frm too amt pri wai (frsF (fcnQ (ordL pri mk) wai frm) S fst 5) ldr bor lnt rat plg opn (nI mk) small (nI lm) price cut proc thr) (by first | rw [gsk_some (by assumption)] | rw [gsk_none (by assumption)]) ?_
                  exact ih (j + 1) (by omega) (by first | assumption | omega)
                · skip
                  have := inS_lt hq_19
                  refine z_iald C 12 0 rfl rfl j (nI_clamp (by omega)) (vp_in_nI (by omega) (by omega)) (nI p_20) ((frsF_at (by omega)).trans (by rw [hq_19]; rfl)) dX5_isSet_56 ?_
                  refine z_iconst C (v := (-1)) dX5_isSet_57 (by decide) ?_
                  refine z_icmp_eq C (tgt := 72) dX5_isSet_58 (by decide) (fun h => absurd h (nI_m1 (by omega))) (fun _ => ?_)
                  refine z_aload_n C dX5_isSet_61 rfl 0 rfl ?_
                  refine z_aload_n C dX5_isSet_62 rfl 0 rfl ?_
                  refine z_get C 0 rfl i_X5_isSet_X5 rfl 13 (by decide) m_X5_isSet_f48 rfl rfl dX5_isSet_63 ?_
                  refine z_iload_n C dX5_isSet_66 rfl 3 rfl ?_
                  refine z_iald C 12 0 rfl rfl j (nI_clamp (by omega)) (vp_in_nI (by omega) (by omega)) (nI p_20) ((frsF_at (by omega)).trans (by rw [hq_19]; rfl)) dX5_isSet_67 ?_
                  refine z_iconst C (v := (-1)) dX5_isSet_68 (by decide) ?_
                  refine z_callVv C (T := Unit) (As := [.int (nI p_20), .int (-1)]) (rest := []) (ws' := fun _ => (wM md cI cZ (mvA (ix (frm p_20)) (ix (too p_20)) ((-1) * amt p_20) ((gsk frm too amt (-1) (inS (fcnQ (ordL pri mk) wai frm) S) (gsk frm too amt 1 (inS (fcnQ (ordL pri mk) wai frm) S) acc net i).1 (gsk frm too amt 1 (inS (fcnQ (ordL pri mk) wai frm) S) acc net i).2 j).1)) flo pap clo (mvN (ix (frm p_20)) (ix (too p_20)) ((-1) * amt p_20) ((gsk frm too amt (-1) (inS (fcnQ (ordL pri mk) wai frm) S) (gsk frm too amt 1 (inS (fcnQ (ordL pri mk) wai frm) S) acc net i).1 (gsk frm too amt 1 (inS (fcnQ (ordL pri mk) wai frm) S) acc net i).2 j).2)) bnd frm too amt pri wai (frsF (fcnQ (ordL pri mk) wai frm) S fst 5) ldr bor lnt rat plg opn (nI mk) small (nI lm) price cut proc thr)) (m_moves l sa D cI cZ cL md ((gsk frm too amt (-1) (inS (fcnQ (ordL pri mk) wai frm) S) (gsk frm too amt 1 (inS (fcnQ (ordL pri mk) wai frm) S) acc net i).1 (gsk frm too amt 1 (inS (fcnQ (ordL pri mk) wai frm) S) acc net i).2 j).1) flo pap clo ((gsk frm too amt (-1) (inS (fcnQ (ordL pri mk) wai frm) S) (gsk frm too amt 1 (inS (fcnQ (ordL pri mk) wai frm) S) acc net i).1 (gsk frm too amt 1 (inS (fcnQ (ordL pri mk) wai frm) S) acc net i).2 j).2) bnd frm too amt pri wai (frsF (fcnQ (ordL pri mk) wai frm) S fst 5) ldr bor lnt rat plg opn small price cut proc thr mk lm p_20 (-1) (by first | assumption | omega) (by first | assumption | omega) (by first | assumption | omega) (by first | assumption | omega)) (cwV 2 C.2.2.2.2.1 gX5_isSet_X5_moves rfl rfl rfl (by decide +kernel) ⟨Nat.le_of_ble_eq_true rfl, Nat.le_of_ble_eq_true rfl⟩) 0 rfl rfl rfl (fun _ => zSub.full) zIn.full rfl (Nat.le_of_ble_eq_true rfl) ⟨Nat.le_of_ble_eq_true rfl, Nat.le_of_ble_eq_true rfl⟩ dX5_isSet_69 (fun _ _ => ?_)
                  refine z_iinc C (v := (nI (j + 1))) dX5_isSet_72 3 rfl (nI_add j 1) (by decide) [(0, .ref (md 0)), (1, .int (nI S)), (2, .int 0), (3, .int (nI (j + 1)))] [1, 2, 3, 0] rfl ?_
                  refine z_goto C (tgt := 46) dX5_isSet_75 (by decide) ?_
                  refine z_ws (wM md cI cZ ((gsk frm too amt (-1) (inS (fcnQ (ordL pri mk) wai frm) S) (gsk frm too amt 1 (inS (fcnQ (ordL pri mk) wai frm) S) acc net i).1 (gsk frm too amt 1 (inS (fcnQ (ordL pri mk) wai frm) S) acc net i).2 (j + 1)).1) flo pap clo ((gsk frm too amt (-1) (inS (fcnQ (ordL pri mk) wai frm) S) (gsk frm too amt 1 (inS (fcnQ (ordL pri mk) wai frm) S) acc net i).1 (gsk frm too amt 1 (inS (fcnQ (ordL pri mk) wai frm) S) acc net i).2 (j + 1)).2) bnd frm too amt pri wai (frsF (fcnQ (ordL pri mk) wai frm) S fst 5) ldr bor lnt rat plg opn (nI mk) small (nI lm) price cut proc thr) (by first | rw [gsk_some (by assumption)] | rw [gsk_none (by assumption)]) ?_
                  exact ih (j + 1) (by omega) (by first | assumption | omega)
          refine z_ws (wM md cI cZ ((gsk frm too amt (-1) (inS (fcnQ (ordL pri mk) wai frm) S) (gsk frm too amt 1 (inS (fcnQ (ordL pri mk) wai frm) S) acc net i).1 (gsk frm too amt 1 (inS (fcnQ (ordL pri mk) wai frm) S) acc net i).2 0).1) flo pap clo ((gsk frm too amt (-1) (inS (fcnQ (ordL pri mk) wai frm) S) (gsk frm too amt 1 (inS (fcnQ (ordL pri mk) wai frm) S) acc net i).1 (gsk frm too amt 1 (inS (fcnQ (ordL pri mk) wai frm) S) acc net i).2 0).2) bnd frm too amt pri wai (frsF (fcnQ (ordL pri mk) wai frm) S fst 5) ldr bor lnt rat plg opn (nI mk) small (nI lm) price cut proc thr) (by rfl) ?_
          refine z_lveq [(0, .ref (md 0)), (1, .int (nI S)), (2, .int 0), (3, .int (nI 0))] (by rfl) ?_
          exact L46_k_15 (5 - 0 + 1) 0 (Nat.lt_succ_self _) (by first | assumption | omega)
      · skip
        have n_21 : ¬ 5 ≤ i := fun q => c9_2 ((nI_leI (a := 5) (b := i) (by omega) (by omega)).mpr q)
        refine z_aload_n C dX5_isSet_12 rfl 0 rfl ?_
        refine z_get C 0 rfl i_X5_isSet_X5 rfl 13 (by decide) m_X5_isSet_f48 rfl rfl dX5_isSet_13 ?_
        refine z_iload_n C dX5_isSet_16 rfl 2 rfl ?_
        rcases hq_22 : inS (fcnQ (ordL pri mk) wai frm) S i with _ | p_23
        · skip
          refine z_iald C 12 0 rfl rfl i (nI_clamp (by omega)) (vp_in_nI (by omega) (by omega)) (-1) ((frsF_at (by omega)).trans (by rw [hq_22]; rfl)) dX5_isSet_17 ?_
          refine z_iconst C (v := (-1)) dX5_isSet_18 (by decide) ?_
          refine z_icmp_eq C (tgt := 33) dX5_isSet_19 (by decide) (fun _ => ?_) (fun h => absurd h (by decide))
          refine z_iinc C (v := (nI (i + 1))) dX5_isSet_33 2 rfl (nI_add i 1) (by decide) [(0, .ref (md 0)), (1, .int (nI S)), (2, .int (nI (i + 1)))] [1, 2, 0] rfl ?_
          refine z_goto C (tgt := 7) dX5_isSet_36 (by decide) ?_
          refine z_ws (wM md cI cZ ((gsk frm too amt 1 (inS (fcnQ (ordL pri mk) wai frm) S) acc net (i + 1)).1) flo pap clo ((gsk frm too amt 1 (inS (fcnQ (ordL pri mk) wai frm) S) acc net (i + 1)).2) bnd frm too amt pri wai (frsF (fcnQ (ordL pri mk) wai frm) S fst 5) ldr bor lnt rat plg opn (nI mk) small (nI lm) price cut proc thr) (by first | rw [gsk_some (by assumption)] | rw [gsk_none (by assumption)]) ?_
          exact ih (i + 1) (by omega) (by first | assumption | omega)
        · skip
          have := inS_lt hq_22
          refine z_iald C 12 0 rfl rfl i (nI_clamp (by omega)) (vp_in_nI (by omega) (by omega)) (nI p_23) ((frsF_at (by omega)).trans (by rw [hq_22]; rfl)) dX5_isSet_17 ?_
          refine z_iconst C (v := (-1)) dX5_isSet_18 (by decide) ?_
          refine z_icmp_eq C (tgt := 33) dX5_isSet_19 (by decide) (fun h => absurd h (nI_m1 (by omega))) (fun _ => ?_)
          refine z_aload_n C dX5_isSet_22 rfl 0 rfl ?_
          refine z_aload_n C dX5_isSet_23 rfl 0 rfl ?_
          refine z_get C 0 rfl i_X5_isSet_X5 rfl 13 (by decide) m_X5_isSet_f48 rfl rfl dX5_isSet_24 ?_
          refine z_iload_n C dX5_isSet_27 rfl 2 rfl ?_
          refine z_iald C 12 0 rfl rfl i (nI_clamp (by omega)) (vp_in_nI (by omega) (by omega)) (nI p_23) ((frsF_at (by omega)).trans (by rw [hq_22]; rfl)) dX5_isSet_28 ?_
          refine z_iconst C (v := 1) dX5_isSet_29 (by decide) ?_
          refine z_callVv C (T := Unit) (As := [.int (nI p_23), .int 1]) (rest := []) (ws' := fun _ => (wM md cI cZ (mvA (ix (frm p_23)) (ix (too p_23)) (1 * amt p_23) ((gsk frm too amt 1 (inS (fcnQ (ordL pri mk) wai frm) S) acc net i).1)) flo pap clo (mvN (ix (frm p_23)) (ix (too p_23)) (1 * amt p_23) ((gsk frm too amt 1 (inS (fcnQ (ordL pri mk) wai frm) S) acc net i).2)) bnd frm too amt pri wai (frsF (fcnQ (ordL pri mk) wai frm) S fst 5) ldr bor lnt rat plg opn (nI mk) small (nI lm) price cut proc thr)) (m_moves l sa D cI cZ cL md ((gsk frm too amt 1 (inS (fcnQ (ordL pri mk) wai frm) S) acc net i).1) flo pap clo ((gsk frm too amt 1 (inS (fcnQ (ordL pri mk) wai frm) S) acc net i).2) bnd frm too amt pri wai (frsF (fcnQ (ordL pri mk) wai frm) S fst 5) ldr bor lnt rat plg opn small price cut proc thr mk lm p_23 1 (by first | assumption | omega) (by first | assumption | omega) (by first | assumption | omega) (by first | assumption | omega)) (cwV 2 C.2.2.2.2.1 gX5_isSet_X5_moves rfl rfl rfl (by decide +kernel) ⟨Nat.le_of_ble_eq_true rfl, Nat.le_of_ble_eq_true rfl⟩) 0 rfl rfl rfl (fun _ => zSub.full) zIn.full rfl (Nat.le_of_ble_eq_true rfl) ⟨Nat.le_of_ble_eq_true rfl, Nat.le_of_ble_eq_true rfl⟩ dX5_isSet_30 (fun _ _ => ?_)
          refine z_iinc C (v := (nI (i + 1))) dX5_isSet_33 2 rfl (nI_add i 1) (by decide) [(0, .ref (md 0)), (1, .int (nI S)), (2, .int (nI (i + 1)))] [1, 2, 0] rfl ?_
          refine z_goto C (tgt := 7) dX5_isSet_36 (by decide) ?_
          refine z_ws (wM md cI cZ ((gsk frm too amt 1 (inS (fcnQ (ordL pri mk) wai frm) S) acc net (i + 1)).1) flo pap clo ((gsk frm too amt 1 (inS (fcnQ (ordL pri mk) wai frm) S) acc net (i + 1)).2) bnd frm too amt pri wai (frsF (fcnQ (ordL pri mk) wai frm) S fst 5) ldr bor lnt rat plg opn (nI mk) small (nI lm) price cut proc thr) (by first | rw [gsk_some (by assumption)] | rw [gsk_none (by assumption)]) ?_
          exact ih (i + 1) (by omega) (by first | assumption | omega)
  refine z_ws (wM md cI cZ ((gsk frm too amt 1 (inS (fcnQ (ordL pri mk) wai frm) S) acc net 0).1) flo pap clo ((gsk frm too amt 1 (inS (fcnQ (ordL pri mk) wai frm) S) acc net 0).2) bnd frm too amt pri wai (frsF (fcnQ (ordL pri mk) wai frm) S fst 5) ldr bor lnt rat plg opn (nI mk) small (nI lm) price cut proc thr) (by rfl) ?_
  refine z_lveq [(0, .ref (md 0)), (1, .int (nI S)), (2, .int (nI 0))] (by rfl) ?_
  exact L7_k_1 (5 - 0 + 1) 0 (Nat.lt_succ_self _) (by first | assumption | omega)
