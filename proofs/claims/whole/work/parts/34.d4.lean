theorem m_X5_loans_f76 : Cond.fieldLink RX5 76 "QueuefloatModel" "thrown" "I" ∈ wsX5_loans := by decide +kernel
theorem i_X5_loans_X5 : ∀ w ∈ wsX50, w ∈ wsX5_loans := by decide +kernel
theorem m_X5_loans_f144 : Cond.fieldLink RX5 144 "QueuefloatModel" "loans" "I" ∈ wsX5_loans := by decide +kernel
theorem m_X5_loans_f66 : Cond.fieldLink RX5 66 "QueuefloatModel" "isOpen" "[Z" ∈ wsX5_loans := by decide +kernel
theorem m_X5_closes_f19 : Cond.fieldLink RX5 19 "QueuefloatModel" "isClosed" "[Z" ∈ wsX5_closes := by decide +kernel
theorem i_X5_closes_X5 : ∀ w ∈ wsX50, w ∈ wsX5_closes := by decide +kernel
theorem m_X5_closes_f79 : Cond.fieldLink RX5 79 "QueuefloatModel" "payments" "I" ∈ wsX5_closes := by decide +kernel
theorem m_X5_closes_f41 : Cond.fieldLink RX5 41 "QueuefloatModel" "isWaiting" "[Z" ∈ wsX5_closes := by decide +kernel
theorem m_X5_closes_f29 : Cond.fieldLink RX5 29 "QueuefloatModel" "from" "[I" ∈ wsX5_closes := by decide +kernel
theorem m_X5_closes_f32 : Cond.fieldLink RX5 32 "QueuefloatModel" "to" "[I" ∈ wsX5_closes := by decide +kernel
theorem m_X5_ends_f54 : Cond.fieldLink RX5 54 "QueuefloatModel" "borrower" "[I" ∈ wsX5_ends := by decide +kernel
theorem i_X5_ends_X5 : ∀ w ∈ wsX50, w ∈ wsX5_ends := by decide +kernel
theorem m_X5_ends_f57 : Cond.fieldLink RX5 57 "QueuefloatModel" "lent" "[I" ∈ wsX5_ends := by decide +kernel
theorem m_X5_ends_f60 : Cond.fieldLink RX5 60 "QueuefloatModel" "rate" "[I" ∈ wsX5_ends := by decide +kernel
theorem m_X5_ends_f66 : Cond.fieldLink RX5 66 "QueuefloatModel" "isOpen" "[Z" ∈ wsX5_ends := by decide +kernel
theorem m_X5_ends_f19 : Cond.fieldLink RX5 19 "QueuefloatModel" "isClosed" "[Z" ∈ wsX5_ends := by decide +kernel
theorem m_X5_ends_f63 : Cond.fieldLink RX5 63 "QueuefloatModel" "pledged" "[I" ∈ wsX5_ends := by decide +kernel
theorem m_X5_ends_f69 : Cond.fieldLink RX5 69 "QueuefloatModel" "price" "I" ∈ wsX5_ends := by decide +kernel
theorem m_X5_ends_f7 : Cond.fieldLink RX5 7 "QueuefloatModel" "account" "[I" ∈ wsX5_ends := by decide +kernel
theorem m_X5_ends_f51 : Cond.fieldLink RX5 51 "QueuefloatModel" "lender" "[I" ∈ wsX5_ends := by decide +kernel
theorem m_X5_ends_f147 : Cond.fieldLink RX5 147 "QueuefloatModel" "sold" "I" ∈ wsX5_ends := by decide +kernel
theorem m_X5_ends_f13 : Cond.fieldLink RX5 13 "QueuefloatModel" "floor" "[I" ∈ wsX5_ends := by decide +kernel
theorem m_X5_ends_f16 : Cond.fieldLink RX5 16 "QueuefloatModel" "papers" "[I" ∈ wsX5_ends := by decide +kernel
theorem m_X5_morning_f76 : Cond.fieldLink RX5 76 "QueuefloatModel" "thrown" "I" ∈ wsX5_morning := by decide +kernel
theorem i_X5_morning_X5 : ∀ w ∈ wsX50, w ∈ wsX5_morning := by decide +kernel
theorem m_X5_morning_f144 : Cond.fieldLink RX5 144 "QueuefloatModel" "loans" "I" ∈ wsX5_morning := by decide +kernel
theorem m_X5_morning_f66 : Cond.fieldLink RX5 66 "QueuefloatModel" "isOpen" "[Z" ∈ wsX5_morning := by decide +kernel
theorem m_X5_morning_f23 : Cond.fieldLink RX5 23 "QueuefloatModel" "paid" "[I" ∈ wsX5_morning := by decide +kernel
set_option maxHeartbeats 4000000 in
set_option maxRecDepth 100000 in
theorem m_loans_ok (l : Launch) (sa : Nat → Nat) (D : va_G) (cI cZ cL : ClassId) (md : Nat → Nat) (acc flo pap clo net bnd frm too amt pri wai fst ldr bor lnt rat plg opn : Nat → Int32) (small price cut proc thr : Int32) (mk lm : Nat) (le : Nat) (hle : le ≤ lm) (hlm : lm ≤ 40) (hopn : ∀ j, j < lm → opn j = if j < le then 0 else 1) : zMi (T := Unit) sa D vwCl (zty cI cZ cL) l yX5_loans wsX5_loans ({ frames := 0, cells := 0, slots := 0, locals := 0 } : Room) [.ref (md 0)] (wM md cI cZ acc flo pap clo net bnd frm too amt pri wai fst ldr bor lnt rat plg opn (nI mk) small (nI lm) price cut proc thr) (fun r9 _ => r9 = (nI (lm - le))) (fun _ => (wM md cI cZ acc flo pap clo net bnd frm too amt pri wai fst ldr bor lnt rat plg opn (nI mk) small (nI lm) price cut proc 0)) 0 0 := by
  refine zMi.of (ret := (some .int)) (cc := cX5_loans) (nL := 3) (own := RX5) (by decide +kernel) rfl [(0, .ref (md 0))] rfl (Nat.le_of_ble_eq_true rfl) rfl ?_
  intro A p e s m args below meth c C hmn
  refine z_aload_n C dX5_loans_0 rfl 0 rfl ?_
  refine z_iconst C (v := 0) dX5_loans_1 (by decide) ?_
  refine z_put C 0 rfl i_X5_loans_X5 rfl 24 (by decide) m_X5_loans_f76 rfl tyX5 tyX5_ok nmX5 rfl (ty := .int) (by decide +kernel) rfl rfl (Nat.le_of_ble_eq_true rfl) dX5_loans_2 (wM md cI cZ acc flo pap clo net bnd frm too amt pri wai fst ldr bor lnt rat plg opn (nI mk) small (nI lm) price cut proc 0) rfl ?_
  refine z_iconst C (v := 0) dX5_loans_5 (by decide) ?_
  refine z_istore_n C dX5_loans_6 rfl (by decide) [(0, .ref (md 0)), (1, .int 0)] [1, 0] rfl ?_
  refine z_iconst C (v := 0) dX5_loans_7 (by decide) ?_
  refine z_istore_n C dX5_loans_8 rfl (by decide) [(0, .ref (md 0)), (1, .int 0), (2, .int 0)] [1, 2, 0] rfl ?_
  have L9_k_1 : ∀ (n : Nat) (i : Nat), lm - i < n → (i ≤ lm) → zW p l e ({ frames := 0, cells := 0, slots := 0, locals := 0 } : Room) s m args below meth c (MQ below (zQi (T := Unit) D vwCl (zty cI cZ cL) A (fun r9 _ => r9 = (nI (lm - le))) (fun _ => (wM md cI cZ acc flo pap clo net bnd frm too amt pri wai fst ldr bor lnt rat plg opn (nI mk) small (nI lm) price cut proc 0))) args s 0 0 A) D vwCl A 3 0 0 (wM md cI cZ acc flo pap clo net bnd frm too amt pri wai fst ldr bor lnt rat plg opn (nI mk) small (nI lm) price cut proc 0) [(0, .ref (md 0)), (1, .int (nI (i - le))), (2, .int (nI i))] 9 [] := by
    intro n
    induction n with
    | zero => intros; omega
    | succ n ih_2 =>
      intro i hm_3 hi
      refine z_iload_n C dX5_loans_9 rfl 2 rfl ?_
      refine z_aload_n C dX5_loans_10 rfl 0 rfl ?_
      refine z_get C 0 rfl i_X5_loans_X5 rfl 14 (by decide) m_X5_loans_f144 rfl rfl dX5_loans_11 ?_
      refine z_icmp_ge C (tgt := 40) dX5_loans_14 (by decide) (fun c14_4 => ?_) (fun c14_4 => ?_)
      · skip
        have n_5 : lm ≤ i := (nI_leI (a := lm) (b := i) (by omega) (by omega)).mp c14_4
        refine z_iload_n C dX5_loans_40 rfl 1 rfl ?_
        exact z_iret C () (by rw [show i = lm by omega]) rfl (by decide) (by decide) dX5_loans_41
      · skip
        have n_6 : ¬ lm ≤ i := fun q => c14_4 ((nI_leI (a := lm) (b := i) (by omega) (by omega)).mpr q)
        refine z_iload_n C dX5_loans_17 rfl 1 rfl ?_
        refine z_aload_n C dX5_loans_18 rfl 0 rfl ?_
        refine z_get C 0 rfl i_X5_loans_X5 rfl 20 (by decide) m_X5_loans_f66 rfl rfl dX5_loans_19 ?_
        refine z_iload_n C dX5_loans_22 rfl 2 rfl ?_
        refine z_case (i < le) (fun hp_7 => ?_) (fun hp_7 => ?_)
        · skip
          refine z_zald C 18 1 rfl rfl i (nI_clamp (by omega)) (vp_in_nI (by omega) (by omega)) 0 (by rw [hopn i (by omega), if_pos hp_7]) dX5_loans_23 ?_
          refine z_if_eq C (tgt := 31) dX5_loans_24 (by decide) (fun _ => ?_) (fun h => absurd h (by decide))
          refine z_iconst C (v := 0) dX5_loans_31 (by decide) ?_
          refine z_iadd C (v := (nI (i - le))) dX5_loans_32 (z_add0 _) ?_
          refine z_istore_n C dX5_loans_33 rfl (by decide) [(0, .ref (md 0)), (1, .int (nI (i - le))), (2, .int (nI i))] [1, 0, 2] rfl ?_
          refine z_iinc C (v := (nI (i + 1))) dX5_loans_34 2 rfl (nI_add i 1) (by decide) [(0, .ref (md 0)), (1, .int (nI (i - le))), (2, .int (nI (i + 1)))] [1, 2, 0] rfl ?_
          refine z_goto C (tgt := 9) dX5_loans_37 (by decide) ?_
          refine z_lveq [(0, .ref (md 0)), (1, .int (nI ((i + 1) - le))), (2, .int (nI (i + 1)))] (by first | rw [show i + 1 - le = i - le by omega] | rw [show i + 1 - le = i - le + 1 by omega]) ?_
          exact ih_2 (i + 1) (by omega) (by first | assumption | omega)
        · skip
          refine z_zald C 18 1 rfl rfl i (nI_clamp (by omega)) (vp_in_nI (by omega) (by omega)) 1 (by rw [hopn i (by omega), if_neg hp_7]) dX5_loans_23 ?_
          refine z_if_eq C (tgt := 31) dX5_loans_24 (by decide) (fun h => absurd h (by decide)) (fun _ => ?_)
          refine z_iconst C (v := 1) dX5_loans_27 (by decide) ?_
          refine z_goto C (tgt := 32) dX5_loans_28 (by decide) ?_
          refine z_iadd C (v := (nI ((i - le) + 1))) dX5_loans_32 (nI_add (i - le) 1) ?_
          refine z_istore_n C dX5_loans_33 rfl (by decide) [(0, .ref (md 0)), (1, .int (nI ((i - le) + 1))), (2, .int (nI i))] [1, 0, 2] rfl ?_
          refine z_iinc C (v := (nI (i + 1))) dX5_loans_34 2 rfl (nI_add i 1) (by decide) [(0, .ref (md 0)), (1, .int (nI ((i - le) + 1))), (2, .int (nI (i + 1)))] [1, 2, 0] rfl ?_
          refine z_goto C (tgt := 9) dX5_loans_37 (by decide) ?_
          refine z_lveq [(0, .ref (md 0)), (1, .int (nI ((i + 1) - le))), (2, .int (nI (i + 1)))] (by first | rw [show i + 1 - le = i - le by omega] | rw [show i + 1 - le = i - le + 1 by omega]) ?_
          exact ih_2 (i + 1) (by omega) (by first | assumption | omega)
  refine z_lveq [(0, .ref (md 0)), (1, .int (nI (0 - le))), (2, .int (nI 0))] (by rw [Nat.zero_sub]; rfl) ?_
  exact L9_k_1 (lm - 0 + 1) 0 (Nat.lt_succ_self _) (by first | assumption | omega)
set_option maxHeartbeats 4000000 in
set_option maxRecDepth 100000 in
theorem m_closes (l : Launch) (sa : Nat → Nat) (D : va_G) (cI cZ cL : ClassId) (md : Nat → Nat) (acc flo pap clo net bnd frm too amt pri wai fst ldr bor lnt rat plg opn : Nat → Int32) (small price cut proc thr : Int32) (mk lm : Nat) (b : Nat) (hb : b < 5) (hmk : mk ≤ 60) (hfrm : wf5 mk frm) (htoo : wf5 mk too) (hwB : wfB wai) : zMv (T := Unit) sa D vwCl (zty cI cZ cL) l yX5_closes wsX5_closes ({ frames := 0, cells := 0, slots := 0, locals := 0 } : Room) [.ref (md 0), .int (nI b)] (wM md cI cZ acc flo pap clo net bnd frm too amt pri wai fst ldr bor lnt rat plg opn (nI mk) small (nI lm) price cut proc thr) (fun _ => True) (fun _ => (wM md cI cZ acc flo pap (upd clo b 1) net bnd frm too amt pri (dropW frm too b mk wai) fst ldr bor lnt rat plg opn (nI mk) small (nI lm) price cut proc thr)) 0 0 := by
  refine zMv.of (ret := none) (cc := cX5_closes) (nL := 3) (own := RX5) (by decide +kernel) rfl [(0, .ref (md 0)), (1, .int (nI b))] rfl (Nat.le_of_ble_eq_true rfl) rfl ?_
  intro A p e s m args below meth c C hmn
  refine z_aload_n C dX5_closes_0 rfl 0 rfl ?_
  refine z_get C 0 rfl i_X5_closes_X5 rfl 3 (by decide) m_X5_closes_f19 rfl rfl dX5_closes_1 ?_
  refine z_iload_n C dX5_closes_4 rfl 1 rfl ?_
  refine z_iconst C (v := 1) dX5_closes_5 (by decide) ?_
  refine z_zast C 4 1 rfl rfl b (nI_clamp (by omega)) (vp_in_nI (by omega) (by omega)) 1 (by decide) dX5_closes_6 (wM md cI cZ acc flo pap (upd clo b 1) net bnd frm too amt pri wai fst ldr bor lnt rat plg opn (nI mk) small (nI lm) price cut proc thr) rfl ?_
  refine z_iconst C (v := 0) dX5_closes_7 (by decide) ?_
  refine z_istore_n C dX5_closes_8 rfl (by decide) [(0, .ref (md 0)), (1, .int (nI b)), (2, .int 0)] [1, 2, 0] rfl ?_
  have L9_k_1 : ∀ (n : Nat) (i : Nat), mk - i < n → (i ≤ mk) → zW p l e ({ frames := 0, cells := 0, slots := 0, locals := 0 } : Room) s m args below meth c (MQ below (zQv (T := Unit) D vwCl (zty cI cZ cL) A (fun _ => True) (fun _ => (wM md cI cZ acc flo pap (upd clo b 1) net bnd frm too amt pri (dropW frm too b mk wai) fst ldr bor lnt rat plg opn (nI mk) small (nI lm) price cut proc thr))) args s 0 0 A) D vwCl A 3 0 0 (wM md cI cZ acc flo pap (upd clo b 1) net bnd frm too amt pri (dropW frm too b i wai) fst ldr bor lnt rat plg opn (nI mk) small (nI lm) price cut proc thr) [(0, .ref (md 0)), (1, .int (nI b)), (2, .int (nI i))] 9 [] := by
    intro n
    induction n with
    | zero => intros; omega
    | succ n ih_2 =>
      intro i hm_3 hi
      refine z_iload_n C dX5_closes_9 rfl 2 rfl ?_
      refine z_aload_n C dX5_closes_10 rfl 0 rfl ?_
      refine z_get C 0 rfl i_X5_closes_X5 rfl 6 (by decide) m_X5_closes_f79 rfl rfl dX5_closes_11 ?_
      refine z_icmp_ge C (tgt := 63) dX5_closes_14 (by decide) (fun c14_4 => ?_) (fun c14_4 => ?_)
      · skip
        have n_5 : mk ≤ i := (nI_leI (a := mk) (b := i) (by omega) (by omega)).mp c14_4
        exact z_vret C () (by exact trivial) (by rw [show i = mk by omega]) (by decide) (by decide) dX5_closes_63
      · skip
        have n_6 : ¬ mk ≤ i := fun q => c14_4 ((nI_leI (a := mk) (b := i) (by omega) (by omega)).mpr q)
        refine z_aload_n C dX5_closes_17 rfl 0 rfl ?_
        refine z_get C 0 rfl i_X5_closes_X5 rfl 11 (by decide) m_X5_closes_f41 rfl rfl dX5_closes_18 ?_
        refine z_iload_n C dX5_closes_21 rfl 2 rfl ?_
        refine z_aload_n C dX5_closes_22 rfl 0 rfl ?_
        refine z_get C 0 rfl i_X5_closes_X5 rfl 11 (by decide) m_X5_closes_f41 rfl rfl dX5_closes_23 ?_
        refine z_iload_n C dX5_closes_26 rfl 2 rfl ?_
        refine z_zald C 11 1 rfl rfl i (nI_clamp (by omega)) (vp_in_nI (by omega) (by omega)) ((dropW frm too b i wai) i) rfl dX5_closes_27 ?_
        refine z_if_eq C (tgt := 55) dX5_closes_28 (by decide) (fun c28_7 => ?_) (fun c28_7 => ?_)
        · skip
          refine z_iconst C (v := 0) dX5_closes_55 (by decide) ?_
          refine z_zast C 11 1 rfl rfl i (nI_clamp (by omega)) (vp_in_nI (by omega) (by omega)) 0 (by decide) dX5_closes_56 (wM md cI cZ acc flo pap (upd clo b 1) net bnd frm too amt pri (upd (dropW frm too b i wai) i 0) fst ldr bor lnt rat plg opn (nI mk) small (nI lm) price cut proc thr) rfl ?_
          refine z_iinc C (v := (nI (i + 1))) dX5_closes_57 2 rfl (nI_add i 1) (by decide) [(0, .ref (md 0)), (1, .int (nI b)), (2, .int (nI (i + 1)))] [1, 2, 0] rfl ?_
          refine z_goto C (tgt := 9) dX5_closes_60 (by decide) ?_
          refine z_ws (wM md cI cZ acc flo pap (upd clo b 1) net bnd frm too amt pri (dropW frm too b (i + 1) wai) fst ldr bor lnt rat plg opn (nI mk) small (nI lm) price cut proc thr) (by rw [dropW_k (x := 0) (by have e : wai i = 0 := dropW_at.symm.trans c28_7; rw [e]; split <;> rfl)]) ?_
          exact ih_2 (i + 1) (by omega) (by first | assumption | omega)
        · skip
          refine z_aload_n C dX5_closes_31 rfl 0 rfl ?_
          refine z_get C 0 rfl i_X5_closes_X5 rfl 7 (by decide) m_X5_closes_f29 rfl rfl dX5_closes_32 ?_
          refine z_iload_n C dX5_closes_35 rfl 2 rfl ?_
          have := (hfrm i (by omega)).2
          refine z_iald C 7 0 rfl rfl i (nI_clamp (by omega)) (vp_in_nI (by omega) (by omega)) (nI (ix (frm i))) (hfrm i (by omega)).1 dX5_closes_36 ?_
          refine z_iload_n C dX5_closes_37 rfl 1 rfl ?_
          refine z_icmp_eq C (tgt := 55) dX5_closes_38 (by decide) (fun c38_8 => ?_) (fun c38_8 => ?_)
          · skip
            have n_9 : (ix (frm i)) = b := (nI_eq (a := ix (frm i)) (b := b) (by omega) (by omega)).mp c38_8
            refine z_iconst C (v := 0) dX5_closes_55 (by decide) ?_
            refine z_zast C 11 1 rfl rfl i (nI_clamp (by omega)) (vp_in_nI (by omega) (by omega)) 0 (by decide) dX5_closes_56 (wM md cI cZ acc flo pap (upd clo b 1) net bnd frm too amt pri (upd (dropW frm too b i wai) i 0) fst ldr bor lnt rat plg opn (nI mk) small (nI lm) price cut proc thr) rfl ?_
            refine z_iinc C (v := (nI (i + 1))) dX5_closes_57 2 rfl (nI_add i 1) (by decide) [(0, .ref (md 0)), (1, .int (nI b)), (2, .int (nI (i + 1)))] [1, 2, 0] rfl ?_
            refine z_goto C (tgt := 9) dX5_closes_60 (by decide) ?_
            refine z_ws (wM md cI cZ acc flo pap (upd clo b 1) net bnd frm too amt pri (dropW frm too b (i + 1) wai) fst ldr bor lnt rat plg opn (nI mk) small (nI lm) price cut proc thr) (by rw [dropW_k (x := 0) (by rw [if_pos (by first | exact Or.inl n_9 | exact Or.inr n_9)])]) ?_
            exact ih_2 (i + 1) (by omega) (by first | assumption | omega)
          · skip
            have n_10 : ¬ (ix (frm i)) = b := fun q => c38_8 ((nI_eq (a := ix (frm i)) (b := b) (by omega) (by omega)).mpr q)
            refine z_aload_n C dX5_closes_41 rfl 0 rfl ?_
            refine z_get C 0 rfl i_X5_closes_X5 rfl 8 (by decide) m_X5_closes_f32 rfl rfl dX5_closes_42 ?_
            refine z_iload_n C dX5_closes_45 rfl 2 rfl ?_
            have := (htoo i (by omega)).2
            refine z_iald C 8 0 rfl rfl i (nI_clamp (by omega)) (vp_in_nI (by omega) (by omega)) (nI (ix (too i))) (htoo i (by omega)).1 dX5_closes_46 ?_
            refine z_iload_n C dX5_closes_47 rfl 1 rfl ?_
            refine z_icmp_eq C (tgt := 55) dX5_closes_48 (by decide) (fun c48_11 => ?_) (fun c48_11 => ?_)
            · skip
              have n_12 : (ix (too i)) = b := (nI_eq (a := ix (too i)) (b := b) (by omega) (by omega)).mp c48_11
              refine z_iconst C (v := 0) dX5_closes_55 (by decide) ?_
              refine z_zast C 11 1 rfl rfl i (nI_clamp (by omega)) (vp_in_nI (by omega) (by omega)) 0 (by decide) dX5_closes_56 (wM md cI cZ acc flo pap (upd clo b 1) net bnd frm too amt pri (upd (dropW frm too b i wai) i 0) fst ldr bor lnt rat plg opn (nI mk) small (nI lm) price cut proc thr) rfl ?_
              refine z_iinc C (v := (nI (i + 1))) dX5_closes_57 2 rfl (nI_add i 1) (by decide) [(0, .ref (md 0)), (1, .int (nI b)), (2, .int (nI (i + 1)))] [1, 2, 0] rfl ?_
              refine z_goto C (tgt := 9) dX5_closes_60 (by decide) ?_
              refine z_ws (wM md cI cZ acc flo pap (upd clo b 1) net bnd frm too amt pri (dropW frm too b (i + 1) wai) fst ldr bor lnt rat plg opn (nI mk) small (nI lm) price cut proc thr) (by rw [dropW_k (x := 0) (by rw [if_pos (by first | exact Or.inl n_12 | exact Or.inr n_12)])]) ?_
              exact ih_2 (i + 1) (by omega) (by first | assumption | omega)
            · skip
              have n_13 : ¬ (ix (too i)) = b := fun q => c48_11 ((nI_eq (a := ix (too i)) (b := b) (by omega) (by omega)).mpr q)
              refine z_iconst C (v := 1) dX5_closes_51 (by decide) ?_
              refine z_goto C (tgt := 56) dX5_closes_52 (by decide) ?_
              refine z_zast C 11 1 rfl rfl i (nI_clamp (by omega)) (vp_in_nI (by omega) (by omega)) 1 (by decide) dX5_closes_56 (wM md cI cZ acc flo pap (upd clo b 1) net bnd frm too amt pri (upd (dropW frm too b i wai) i 1) fst ldr bor lnt rat plg opn (nI mk) small (nI lm) price cut proc thr) rfl ?_
              refine z_iinc C (v := (nI (i + 1))) dX5_closes_57 2 rfl (nI_add i 1) (by decide) [(0, .ref (md 0)), (1, .int (nI b)), (2, .int (nI (i + 1)))] [1, 2, 0] rfl ?_
              refine z_goto C (tgt := 9) dX5_closes_60 (by decide) ?_
              refine z_ws (wM md cI cZ acc flo pap (upd clo b 1) net bnd frm too amt pri (dropW frm too b (i + 1) wai) fst ldr bor lnt rat plg opn (nI mk) small (nI lm) price cut proc thr) (by rw [dropW_k (x := 1) (by rw [if_neg (not_or.mpr ⟨n_10, n_13⟩)]; exact ((hwB i).resolve_left (fun q => c28_7 (dropW_at.trans q))).symm)]) ?_
              exact ih_2 (i + 1) (by omega) (by first | assumption | omega)
  refine z_ws (wM md cI cZ acc flo pap (upd clo b 1) net bnd frm too amt pri (dropW frm too b 0 wai) fst ldr bor lnt rat plg opn (nI mk) small (nI lm) price cut proc thr) (by rw [dropW_0]) ?_
  refine z_lveq [(0, .ref (md 0)), (1, .int (nI b)), (2, .int (nI 0))] (by rfl) ?_
  exact L9_k_1 (mk - 0 + 1) 0 (Nat.lt_succ_self _) (by first | assumption | omega)
set_option maxHeartbeats 4000000 in
set_option maxRecDepth 100000 in
theorem m_ends (l : Launch) (sa : Nat → Nat) (D : va_G) (cI cZ cL : ClassId) (md : Nat → Nat) (acc flo pap clo net bnd frm too amt pri wai fst ldr bor lnt rat plg opn : Nat → Int32) (small price cut proc thr : Int32) (mk lm : Nat) (l9 : Nat) (due : Nat → Int32) (hl9 : l9 < lm) (hlm : lm ≤ 40) (hldr : wf5 lm ldr) (hbor : wf5 lm bor) (hmk : mk ≤ 60) (hfrm : wf5 mk frm) (htoo : wf5 mk too) (hwB : wfB wai) (hdue : due l9 = lnt l9 + lnt l9 * rat l9 / 1000) : zMi (T := Unit) sa D vwCl (zty cI cZ cL) l yX5_ends wsX5_ends ({ frames := 1, cells := 0, slots := 0, locals := 22 } : Room) [.ref (md 0), .int (nI l9)] (wM md cI cZ acc flo pap clo net bnd frm too amt pri wai fst ldr bor lnt rat plg opn (nI mk) small (nI lm) price cut proc thr) (fun r9 _ => r9 = (nI ((mnS flo frm too ldr bor due plg price mk (acc, pap, clo, wai, proc, 0) l9).2.2.2.2.2))) (fun _ => (wM md cI cZ ((mnS flo frm too ldr bor due plg price mk (acc, pap, clo, wai, proc, 0) l9).1) flo ((mnS flo frm too ldr bor due plg price mk (acc, pap, clo, wai, proc, 0) l9).2.1) ((mnS flo frm too ldr bor due plg price mk (acc, pap, clo, wai, proc, 0) l9).2.2.1) net bnd frm too amt pri ((mnS flo frm too ldr bor due plg price mk (acc, pap, clo, wai, proc, 0) l9).2.2.2.1) fst ldr bor lnt rat plg (upd opn l9 0) (nI mk) small (nI lm) price cut ((mnS flo frm too ldr bor due plg price mk (acc, pap, clo, wai, proc, 0) l9).2.2.2.2.1) thr)) 0 0 := by
  refine zMi.of (ret := (some .boolean)) (cc := cX5_ends) (nL := 7) (own := RX5) (by decide +kernel) rfl [(0, .ref (md 0)), (1, .int (nI l9))] rfl (Nat.le_of_ble_eq_true rfl) rfl ?_
  intro A p e s m args below meth c C hmn
  refine z_aload_n C dX5_ends_0 rfl 0 rfl ?_
  refine z_get C 0 rfl i_X5_ends_X5 rfl 16 (by decide) m_X5_ends_f54 rfl rfl dX5_ends_1 ?_
  refine z_iload_n C dX5_ends_4 rfl 1 rfl ?_
  have := (hbor l9 (by omega)).2
  refine z_iald C 14 0 rfl rfl l9 (nI_clamp (by omega)) (vp_in_nI (by omega) (by omega)) (nI (ix (bor l9))) (hbor l9 (by omega)).1 dX5_ends_5 ?_
  refine z_istore_n C dX5_ends_6 rfl (by decide) [(0, .ref (md 0)), (1, .int (nI l9)), (2, .int (nI (ix (bor l9))))] [1, 2, 0] rfl ?_
  refine z_aload_n C dX5_ends_7 rfl 0 rfl ?_
  refine z_get C 0 rfl i_X5_ends_X5 rfl 17 (by decide) m_X5_ends_f57 rfl rfl dX5_ends_8 ?_
  refine z_iload_n C dX5_ends_11 rfl 1 rfl ?_
  refine z_iald C 15 0 rfl rfl l9 (nI_clamp (by omega)) (vp_in_nI (by omega) (by omega)) (lnt l9) rfl dX5_ends_12 ?_
  refine z_aload_n C dX5_ends_13 rfl 0 rfl ?_
  refine z_get C 0 rfl i_X5_ends_X5 rfl 17 (by decide) m_X5_ends_f57 rfl rfl dX5_ends_14 ?_
  refine z_iload_n C dX5_ends_17 rfl 1 rfl ?_
  refine z_iald C 15 0 rfl rfl l9 (nI_clamp (by omega)) (vp_in_nI (by omega) (by omega)) (lnt l9) rfl dX5_ends_18 ?_
  refine z_aload_n C dX5_ends_19 rfl 0 rfl ?_
  refine z_get C 0 rfl i_X5_ends_X5 rfl 18 (by decide) m_X5_ends_f60 rfl rfl dX5_ends_20 ?_
  refine z_iload_n C dX5_ends_23 rfl 1 rfl ?_
  refine z_iald C 16 0 rfl rfl l9 (nI_clamp (by omega)) (vp_in_nI (by omega) (by omega)) (rat l9) rfl dX5_ends_24 ?_
  refine z_imul C (v := ((lnt l9) * (rat l9))) dX5_ends_25 rfl ?_
  refine z_sipush C (v := 1000) dX5_ends_26 (by decide) ?_
  refine z_idiv C (v := (((lnt l9) * (rat l9)) / 1000)) dX5_ends_29 (by decide) rfl ?_
  refine z_iadd C (v := (due l9)) dX5_ends_30 hdue.symm ?_
  refine z_istore_n C dX5_ends_31 rfl (by decide) [(0, .ref (md 0)), (1, .int (nI l9)), (2, .int (nI (ix (bor l9)))), (3, .int (due l9))] [1, 2, 3, 0] rfl ?_
  refine z_aload_n C dX5_ends_32 rfl 0 rfl ?_
  refine z_get C 0 rfl i_X5_ends_X5 rfl 20 (by decide) m_X5_ends_f66 rfl rfl dX5_ends_33 ?_
  refine z_iload_n C dX5_ends_36 rfl 1 rfl ?_
  refine z_iconst C (v := 0) dX5_ends_37 (by decide) ?_
  refine z_zast C 18 1 rfl rfl l9 (nI_clamp (by omega)) (vp_in_nI (by omega) (by omega)) 0 (by decide) dX5_ends_38 (wM md cI cZ acc flo pap clo net bnd frm too amt pri wai fst ldr bor lnt rat plg (upd opn l9 0) (nI mk) small (nI lm) price cut proc thr) rfl ?_
  refine z_aload_n C dX5_ends_39 rfl 0 rfl ?_
  refine z_get C 0 rfl i_X5_ends_X5 rfl 3 (by decide) m_X5_ends_f19 rfl rfl dX5_ends_40 ?_
  refine z_iload_n C dX5_ends_43 rfl 2 rfl ?_
  refine z_zald C 4 1 rfl rfl (ix (bor l9)) (nI_clamp (by omega)) (vp_in_nI (by omega) (by omega)) (clo (ix (bor l9))) rfl dX5_ends_44 ?_
  refine z_if_ne C (tgt := 107) dX5_ends_45 (by decide) (fun c45_1 => ?_) (fun c45_1 => ?_)
  · skip
    refine z_aload_n C dX5_ends_107 rfl 0 rfl ?_
    refine z_get C 0 rfl i_X5_ends_X5 rfl 19 (by decide) m_X5_ends_f63 rfl rfl dX5_ends_108 ?_
    refine z_iload_n C dX5_ends_111 rfl 1 rfl ?_
    refine z_iald C 17 0 rfl rfl l9 (nI_clamp (by omega)) (vp_in_nI (by omega) (by omega)) (plg l9) rfl dX5_ends_112 ?_
    refine z_aload_n C dX5_ends_113 rfl 0 rfl ?_
    refine z_get C 0 rfl i_X5_ends_X5 rfl 21 (by decide) m_X5_ends_f69 rfl rfl dX5_ends_114 ?_
    refine z_imul C (v := ((plg l9) * price)) dX5_ends_117 rfl ?_
    refine z_istore C dX5_ends_118 (by decide) [(0, .ref (md 0)), (1, .int (nI l9)), (2, .int (nI (ix (bor l9)))), (3, .int (due l9)), (4, .int ((plg l9) * price))] [1, 2, 3, 4, 0] rfl ?_
    refine z_iload C dX5_ends_120 4 rfl ?_
    refine z_iload_n C dX5_ends_122 rfl 3 rfl ?_
    refine z_icmp_ge C (tgt := 131) dX5_ends_123 (by decide) (fun c123_2 => ?_) (fun c123_2 => ?_)
    · skip
      refine z_iload_n C dX5_ends_131 rfl 3 rfl ?_
      refine z_istore C dX5_ends_132 (by decide) [(0, .ref (md 0)), (1, .int (nI l9)), (2, .int (nI (ix (bor l9)))), (3, .int (due l9)), (4, .int ((plg l9) * price)), (5, .int (due l9))] [1, 2, 3, 4, 5, 0] rfl ?_
      refine z_aload_n C dX5_ends_134 rfl 0 rfl ?_
      refine z_get C 0 rfl i_X5_ends_X5 rfl 0 (by decide) m_X5_ends_f7 rfl rfl dX5_ends_135 ?_
      refine z_aload_n C dX5_ends_138 rfl 0 rfl ?_
      refine z_get C 0 rfl i_X5_ends_X5 rfl 15 (by decide) m_X5_ends_f51 rfl rfl dX5_ends_139 ?_
      refine z_iload_n C dX5_ends_142 rfl 1 rfl ?_
      have := (hldr l9 (by omega)).2
      refine z_iald C 13 0 rfl rfl l9 (nI_clamp (by omega)) (vp_in_nI (by omega) (by omega)) (nI (ix (ldr l9))) (hldr l9 (by omega)).1 dX5_ends_143 ?_
      refine z_dup2 C dX5_ends_144 rfl rfl ?_
      refine z_iald C 1 0 rfl rfl (ix (ldr l9)) (nI_clamp (by omega)) (vp_in_nI (by omega) (by omega)) (acc (ix (ldr l9))) rfl dX5_ends_145 ?_
      refine z_iload C dX5_ends_146 5 rfl ?_
      refine z_iadd C (v := ((acc (ix (ldr l9))) + (due l9))) dX5_ends_148 rfl ?_
      refine z_iast C 1 0 rfl rfl (ix (ldr l9)) (nI_clamp (by omega)) (vp_in_nI (by omega) (by omega)) ((acc (ix (ldr l9))) + (due l9)) rfl dX5_ends_149 (wM md cI cZ (upd acc (ix (ldr l9)) ((acc (ix (ldr l9))) + (due l9))) flo pap clo net bnd frm too amt pri wai fst ldr bor lnt rat plg (upd opn l9 0) (nI mk) small (nI lm) price cut proc thr) rfl ?_
      refine z_aload_n C dX5_ends_150 rfl 0 rfl ?_
      refine z_get C 0 rfl i_X5_ends_X5 rfl 0 (by decide) m_X5_ends_f7 rfl rfl dX5_ends_151 ?_
      refine z_iload_n C dX5_ends_154 rfl 2 rfl ?_
      refine z_dup2 C dX5_ends_155 rfl rfl ?_
      refine z_iald C 1 0 rfl rfl (ix (bor l9)) (nI_clamp (by omega)) (vp_in_nI (by omega) (by omega)) ((upd acc (ix (ldr l9)) ((acc (ix (ldr l9))) + (due l9))) (ix (bor l9))) rfl dX5_ends_156 ?_
      refine z_iload C dX5_ends_157 4 rfl ?_
      refine z_iload C dX5_ends_159 5 rfl ?_
      refine z_isub C (v := (((plg l9) * price) - (due l9))) dX5_ends_161 rfl ?_
      refine z_iadd C (v := (((upd acc (ix (ldr l9)) ((acc (ix (ldr l9))) + (due l9))) (ix (bor l9))) + (((plg l9) * price) - (due l9)))) dX5_ends_162 rfl ?_
      refine z_iast C 1 0 rfl rfl (ix (bor l9)) (nI_clamp (by omega)) (vp_in_nI (by omega) (by omega)) (((upd acc (ix (ldr l9)) ((acc (ix (ldr l9))) + (due l9))) (ix (bor l9))) + (((plg l9) * price) - (due l9))) rfl dX5_ends_163 (wM md cI cZ (upd (upd acc (ix (ldr l9)) ((acc (ix (ldr l9))) + (due l9))) (ix (bor l9)) (((upd acc (ix (ldr l9)) ((acc (ix (ldr l9))) + (due l9))) (ix (bor l9))) + (((plg l9) * price) - (due l9)))) flo pap clo net bnd frm too amt pri wai fst ldr bor lnt rat plg (upd opn l9 0) (nI mk) small (nI lm) price cut proc thr) rfl ?_
      refine z_aload_n C dX5_ends_164 rfl 0 rfl ?_
      refine z_dup C dX5_ends_165 rfl ?_
      refine z_get C 0 rfl i_X5_ends_X5 rfl 23 (by decide) m_X5_ends_f147 rfl rfl dX5_ends_166 ?_
      refine z_iload C dX5_ends_169 4 rfl ?_
      refine z_iadd C (v := (proc + ((plg l9) * price))) dX5_ends_171 rfl ?_
      refine z_put C 0 rfl i_X5_ends_X5 rfl 23 (by decide) m_X5_ends_f147 rfl tyX5 tyX5_ok nmX5 rfl (ty := .int) (by decide +kernel) rfl rfl (Nat.le_of_ble_eq_true rfl) dX5_ends_172 (wM md cI cZ (upd (upd acc (ix (ldr l9)) ((acc (ix (ldr l9))) + (due l9))) (ix (bor l9)) (((upd acc (ix (ldr l9)) ((acc (ix (ldr l9))) + (due l9))) (ix (bor l9))) + (((plg l9) * price) - (due l9)))) flo pap clo net bnd frm too amt pri wai fst ldr bor lnt rat plg (upd opn l9 0) (nI mk) small (nI lm) price cut (proc + ((plg l9) * price)) thr) rfl ?_
      refine z_aload_n C dX5_ends_175 rfl 0 rfl ?_
      refine z_get C 0 rfl i_X5_ends_X5 rfl 3 (by decide) m_X5_ends_f19 rfl rfl dX5_ends_176 ?_
      refine z_iload_n C dX5_ends_179 rfl 2 rfl ?_
      refine z_zald C 4 1 rfl rfl (ix (bor l9)) (nI_clamp (by omega)) (vp_in_nI (by omega) (by omega)) (clo (ix (bor l9))) rfl dX5_ends_180 ?_
      refine z_if_ne C (tgt := 188) dX5_ends_181 (by decide) (fun c181_3 => ?_) (fun c181_3 => ?_)
      · skip
        refine z_iconst C (v := 0) dX5_ends_188 (by decide) ?_
        refine z_istore C dX5_ends_189 (by decide) [(0, .ref (md 0)), (1, .int (nI l9)), (2, .int (nI (ix (bor l9)))), (3, .int (due l9)), (4, .int ((plg l9) * price)), (5, .int (due l9)), (6, .int 0)] [1, 2, 3, 4, 5, 6, 0] rfl ?_
        refine z_iload C dX5_ends_191 6 rfl ?_
        refine z_if_eq C (tgt := 201) dX5_ends_193 (by decide) (fun _ => ?_) (fun h => absurd h (by decide))
        refine z_iload C dX5_ends_201 6 rfl ?_
        exact z_zret C () (by first | contradiction | (have h9 : ¬ (clo (ix (bor l9)) = 0 ∧ flo (ix (bor l9)) ≤ acc (ix (bor l9)) - due l9) := (fun q => c45_1 q.1); rw [mnS_o (flo := flo) (frm := frm) (too := too) (ldr := ldr) (bor := bor) (due := due) (plg := plg) (price := price) (mk := mk) (r := (acc, pap, clo, wai, proc, 0)) (l := l9) h9 c181_3]; rfl)) (by first | contradiction | (have h9 : ¬ (clo (ix (bor l9)) = 0 ∧ flo (ix (bor l9)) ≤ acc (ix (bor l9)) - due l9) := (fun q => c45_1 q.1); rw [mnS_o (flo := flo) (frm := frm) (too := too) (ldr := ldr) (bor := bor) (due := due) (plg := plg) (price := price) (mk := mk) (r := (acc, pap, clo, wai, proc, 0)) (l := l9) h9 c181_3]; (first | simp only [selA, min_a c123_2] | simp only [selA, min_b c123_2]))) (by decide) (by decide) (by decide) dX5_ends_203
      · skip
        refine z_iconst C (v := 1) dX5_ends_184 (by decide) ?_
        refine z_goto C (tgt := 189) dX5_ends_185 (by decide) ?_
        refine z_istore C dX5_ends_189 (by decide) [(0, .ref (md 0)), (1, .int (nI l9)), (2, .int (nI (ix (bor l9)))), (3, .int (due l9)), (4, .int ((plg l9) * price)), (5, .int (due l9)), (6, .int 1)] [1, 2, 3, 4, 5, 6, 0] rfl ?_
        refine z_iload C dX5_ends_191 6 rfl ?_
        refine z_if_eq C (tgt := 201) dX5_ends_193 (by decide) (fun h => absurd h (by decide)) (fun _ => ?_)
        refine z_aload_n C dX5_ends_196 rfl 0 rfl ?_
        refine z_iload_n C dX5_ends_197 rfl 2 rfl ?_
        refine z_callVv C (T := Unit) (As := [.int (nI (ix (bor l9)))]) (rest := []) (ws' := fun _ => (wM md cI cZ (upd (upd acc (ix (ldr l9)) ((acc (ix (ldr l9))) + (due l9))) (ix (bor l9)) (((upd acc (ix (ldr l9)) ((acc (ix (ldr l9))) + (due l9))) (ix (bor l9))) + (((plg l9) * price) - (due l9)))) flo pap (upd clo (ix (bor l9)) 1) net bnd frm too amt pri (dropW frm too (ix (bor l9)) mk wai) fst ldr bor lnt rat plg (upd opn l9 0) (nI mk) small (nI lm) price cut (proc + ((plg l9) * price)) thr)) (m_closes l sa D cI cZ cL md (upd (upd acc (ix (ldr l9)) ((acc (ix (ldr l9))) + (due l9))) (ix (bor l9)) (((upd acc (ix (ldr l9)) ((acc (ix (ldr l9))) + (due l9))) (ix (bor l9))) + (((plg l9) * price) - (due l9)))) flo pap clo net bnd frm too amt pri wai fst ldr bor lnt rat plg (upd opn l9 0) small price cut (proc + ((plg l9) * price)) thr mk lm (ix (bor l9)) (by first | assumption | omega) (by first | assumption | omega) (by first | assumption | omega) (by first | assumption | omega) (by first | assumption | omega)) (cwV 1 C.2.2.2.2.1 gX5_ends_X5_closes rfl rfl rfl (by decide +kernel) ⟨Nat.le_of_ble_eq_true rfl, Nat.le_of_ble_eq_true rfl⟩) 0 rfl rfl rfl (fun _ => zSub.full) zIn.full rfl (Nat.le_of_ble_eq_true rfl) ⟨Nat.le_of_ble_eq_true rfl, Nat.le_of_ble_eq_true rfl⟩ dX5_ends_198 (fun _ _ => ?_)
        refine z_iload C dX5_ends_201 6 rfl ?_
        exact z_zret C () (by first | contradiction | (have h9 : ¬ (clo (ix (bor l9)) = 0 ∧ flo (ix (bor l9)) ≤ acc (ix (bor l9)) - due l9) := (fun q => c45_1 q.1); rw [mnS_o (flo := flo) (frm := frm) (too := too) (ldr := ldr) (bor := bor) (due := due) (plg := plg) (price := price) (mk := mk) (r := (acc, pap, clo, wai, proc, 0)) (l := l9) h9 c181_3]; rfl)) (by first | contradiction | (have h9 : ¬ (clo (ix (bor l9)) = 0 ∧ flo (ix (bor l9)) ≤ acc (ix (bor l9)) - due l9) := (fun q => c45_1 q.1); rw [mnS_o (flo := flo) (frm := frm) (too := too) (ldr := ldr) (bor := bor) (due := due) (plg := plg) (price := price) (mk := mk) (r := (acc, pap, clo, wai, proc, 0)) (l := l9) h9 c181_3]; (first | simp only [selA, min_a c123_2] | simp only [selA, min_b c123_2]))) (by decide) (by decide) (by decide) dX5_ends_203
    · skip
      refine z_iload C dX5_ends_126 4 rfl ?_
      refine z_goto C (tgt := 132) dX5_ends_128 (by decide) ?_
      refine z_istore C dX5_ends_132 (by decide) [(0, .ref (md 0)), (1, .int (nI l9)), (2, .int (nI (ix (bor l9)))), (3, .int (due l9)), (4, .int ((plg l9) * price)), (5, .int ((plg l9) * price))] [1, 2, 3, 4, 5, 0] rfl ?_
      refine z_aload_n C dX5_ends_134 rfl 0 rfl ?_
      refine z_get C 0 rfl i_X5_ends_X5 rfl 0 (by decide) m_X5_ends_f7 rfl rfl dX5_ends_135 ?_
      refine z_aload_n C dX5_ends_138 rfl 0 rfl ?_
      refine z_get C 0 rfl i_X5_ends_X5 rfl 15 (by decide) m_X5_ends_f51 rfl rfl dX5_ends_139 ?_
      refine z_iload_n C dX5_ends_142 rfl 1 rfl ?_
      have := (hldr l9 (by omega)).2
      refine z_iald C 13 0 rfl rfl l9 (nI_clamp (by omega)) (vp_in_nI (by omega) (by omega)) (nI (ix (ldr l9))) (hldr l9 (by omega)).1 dX5_ends_143 ?_
      refine z_dup2 C dX5_ends_144 rfl rfl ?_
      refine z_iald C 1 0 rfl rfl (ix (ldr l9)) (nI_clamp (by omega)) (vp_in_nI (by omega) (by omega)) (acc (ix (ldr l9))) rfl dX5_ends_145 ?_
      refine z_iload C dX5_ends_146 5 rfl ?_
      refine z_iadd C (v := ((acc (ix (ldr l9))) + ((plg l9) * price))) dX5_ends_148 rfl ?_
      refine z_iast C 1 0 rfl rfl (ix (ldr l9)) (nI_clamp (by omega)) (vp_in_nI (by omega) (by omega)) ((acc (ix (ldr l9))) + ((plg l9) * price)) rfl dX5_ends_149 (wM md cI cZ (upd acc (ix (ldr l9)) ((acc (ix (ldr l9))) + ((plg l9) * price))) flo pap clo net bnd frm too amt pri wai fst ldr bor lnt rat plg (upd opn l9 0) (nI mk) small (nI lm) price cut proc thr) rfl ?_
      refine z_aload_n C dX5_ends_150 rfl 0 rfl ?_
      refine z_get C 0 rfl i_X5_ends_X5 rfl 0 (by decide) m_X5_ends_f7 rfl rfl dX5_ends_151 ?_
      refine z_iload_n C dX5_ends_154 rfl 2 rfl ?_
      refine z_dup2 C dX5_ends_155 rfl rfl ?_
      refine z_iald C 1 0 rfl rfl (ix (bor l9)) (nI_clamp (by omega)) (vp_in_nI (by omega) (by omega)) ((upd acc (ix (ldr l9)) ((acc (ix (ldr l9))) + ((plg l9) * price))) (ix (bor l9))) rfl dX5_ends_156 ?_
      refine z_iload C dX5_ends_157 4 rfl ?_
      refine z_iload C dX5_ends_159 5 rfl ?_
      refine z_isub C (v := (((plg l9) * price) - ((plg l9) * price))) dX5_ends_161 rfl ?_
      refine z_iadd C (v := (((upd acc (ix (ldr l9)) ((acc (ix (ldr l9))) + ((plg l9) * price))) (ix (bor l9))) + (((plg l9) * price) - ((plg l9) * price)))) dX5_ends_162 rfl ?_
      refine z_iast C 1 0 rfl rfl (ix (bor l9)) (nI_clamp (by omega)) (vp_in_nI (by omega) (by omega)) (((upd acc (ix (ldr l9)) ((acc (ix (ldr l9))) + ((plg l9) * price))) (ix (bor l9))) + (((plg l9) * price) - ((plg l9) * price))) rfl dX5_ends_163 (wM md cI cZ (upd (upd acc (ix (ldr l9)) ((acc (ix (ldr l9))) + ((plg l9) * price))) (ix (bor l9)) (((upd acc (ix (ldr l9)) ((acc (ix (ldr l9))) + ((plg l9) * price))) (ix (bor l9))) + (((plg l9) * price) - ((plg l9) * price)))) flo pap clo net bnd frm too amt pri wai fst ldr bor lnt rat plg (upd opn l9 0) (nI mk) small (nI lm) price cut proc thr) rfl ?_
      refine z_aload_n C dX5_ends_164 rfl 0 rfl ?_
      refine z_dup C dX5_ends_165 rfl ?_
      refine z_get C 0 rfl i_X5_ends_X5 rfl 23 (by decide) m_X5_ends_f147 rfl rfl dX5_ends_166 ?_
      refine z_iload C dX5_ends_169 4 rfl ?_
      refine z_iadd C (v := (proc + ((plg l9) * price))) dX5_ends_171 rfl ?_
      refine z_put C 0 rfl i_X5_ends_X5 rfl 23 (by decide) m_X5_ends_f147 rfl tyX5 tyX5_ok nmX5 rfl (ty := .int) (by decide +kernel) rfl rfl (Nat.le_of_ble_eq_true rfl) dX5_ends_172 (wM md cI cZ (upd (upd acc (ix (ldr l9)) ((acc (ix (ldr l9))) + ((plg l9) * price))) (ix (bor l9)) (((upd acc (ix (ldr l9)) ((acc (ix (ldr l9))) + ((plg l9) * price))) (ix (bor l9))) + (((plg l9) * price) - ((plg l9) * price)))) flo pap clo net bnd frm too amt pri wai fst ldr bor lnt rat plg (upd opn l9 0) (nI mk) small (nI lm) price cut (proc + ((plg l9) * price)) thr) rfl ?_
      refine z_aload_n C dX5_ends_175 rfl 0 rfl ?_
      refine z_get C 0 rfl i_X5_ends_X5 rfl 3 (by decide) m_X5_ends_f19 rfl rfl dX5_ends_176 ?_
      refine z_iload_n C dX5_ends_179 rfl 2 rfl ?_
      refine z_zald C 4 1 rfl rfl (ix (bor l9)) (nI_clamp (by omega)) (vp_in_nI (by omega) (by omega)) (clo (ix (bor l9))) rfl dX5_ends_180 ?_
      refine z_if_ne C (tgt := 188) dX5_ends_181 (by decide) (fun c181_4 => ?_) (fun c181_4 => ?_)
      · skip
        refine z_iconst C (v := 0) dX5_ends_188 (by decide) ?_
        refine z_istore C dX5_ends_189 (by decide) [(0, .ref (md 0)), (1, .int (nI l9)), (2, .int (nI (ix (bor l9)))), (3, .int (due l9)), (4, .int ((plg l9) * price)), (5, .int ((plg l9) * price)), (6, .int 0)] [1, 2, 3, 4, 5, 6, 0] rfl ?_
        refine z_iload C dX5_ends_191 6 rfl ?_
        refine z_if_eq C (tgt := 201) dX5_ends_193 (by decide) (fun _ => ?_) (fun h => absurd h (by decide))
        refine z_iload C dX5_ends_201 6 rfl ?_
        exact z_zret C () (by first | contradiction | (have h9 : ¬ (clo (ix (bor l9)) = 0 ∧ flo (ix (bor l9)) ≤ acc (ix (bor l9)) - due l9) := (fun q => c45_1 q.1); rw [mnS_o (flo := flo) (frm := frm) (too := too) (ldr := ldr) (bor := bor) (due := due) (plg := plg) (price := price) (mk := mk) (r := (acc, pap, clo, wai, proc, 0)) (l := l9) h9 c181_4]; rfl)) (by first | contradiction | (have h9 : ¬ (clo (ix (bor l9)) = 0 ∧ flo (ix (bor l9)) ≤ acc (ix (bor l9)) - due l9) := (fun q => c45_1 q.1); rw [mnS_o (flo := flo) (frm := frm) (too := too) (ldr := ldr) (bor := bor) (due := due) (plg := plg) (price := price) (mk := mk) (r := (acc, pap, clo, wai, proc, 0)) (l := l9) h9 c181_4]; (first | simp only [selA, min_a c123_2] | simp only [selA, min_b c123_2]))) (by decide) (by decide) (by decide) dX5_ends_203
      · skip
        refine z_iconst C (v := 1) dX5_ends_184 (by decide) ?_
        refine z_goto C (tgt := 189) dX5_ends_185 (by decide) ?_
        refine z_istore C dX5_ends_189 (by decide) [(0, .ref (md 0)), (1, .int (nI l9)), (2, .int (nI (ix (bor l9)))), (3, .int (due l9)), (4, .int ((plg l9) * price)), (5, .int ((plg l9) * price)), (6, .int 1)] [1, 2, 3, 4, 5, 6, 0] rfl ?_
        refine z_iload C dX5_ends_191 6 rfl ?_
        refine z_if_eq C (tgt := 201) dX5_ends_193 (by decide) (fun h => absurd h (by decide)) (fun _ => ?_)
        refine z_aload_n C dX5_ends_196 rfl 0 rfl ?_
        refine z_iload_n C dX5_ends_197 rfl 2 rfl ?_
        refine z_callVv C (T := Unit) (As := [.int (nI (ix (bor l9)))]) (rest := []) (ws' := fun _ => (wM md cI cZ (upd (upd acc (ix (ldr l9)) ((acc (ix (ldr l9))) + ((plg l9) * price))) (ix (bor l9)) (((upd acc (ix (ldr l9)) ((acc (ix (ldr l9))) + ((plg l9) * price))) (ix (bor l9))) + (((plg l9) * price) - ((plg l9) * price)))) flo pap (upd clo (ix (bor l9)) 1) net bnd frm too amt pri (dropW frm too (ix (bor l9)) mk wai) fst ldr bor lnt rat plg (upd opn l9 0) (nI mk) small (nI lm) price cut (proc + ((plg l9) * price)) thr)) (m_closes l sa D cI cZ cL md (upd (upd acc (ix (ldr l9)) ((acc (ix (ldr l9))) + ((plg l9) * price))) (ix (bor l9)) (((upd acc (ix (ldr l9)) ((acc (ix (ldr l9))) + ((plg l9) * price))) (ix (bor l9))) + (((plg l9) * price) - ((plg l9) * price)))) flo pap clo net bnd frm too amt pri wai fst ldr bor lnt rat plg (upd opn l9 0) small price cut (proc + ((plg l9) * price)) thr mk lm (ix (bor l9)) (by first | assumption | omega) (by first | assumption | omega) (by first | assumption | omega) (by first | assumption | omega) (by first | assumption | omega)) (cwV 1 C.2.2.2.2.1 gX5_ends_X5_closes rfl rfl rfl (by decide +kernel) ⟨Nat.le_of_ble_eq_true rfl, Nat.le_of_ble_eq_true rfl⟩) 0 rfl rfl rfl (fun _ => zSub.full) zIn.full rfl (Nat.le_of_ble_eq_true rfl) ⟨Nat.le_of_ble_eq_true rfl, Nat.le_of_ble_eq_true rfl⟩ dX5_ends_198 (fun _ _ => ?_)
        refine z_iload C dX5_ends_201 6 rfl ?_
        exact z_zret C () (by first | contradiction | (have h9 : ¬ (clo (ix (bor l9)) = 0 ∧ flo (ix (bor l9)) ≤ acc (ix (bor l9)) - due l9) := (fun q => c45_1 q.1); rw [mnS_o (flo := flo) (frm := frm) (too := too) (ldr := ldr) (bor := bor) (due := due) (plg := plg) (price := price) (mk := mk) (r := (acc, pap, clo, wai, proc, 0)) (l := l9) h9 c181_4]; rfl)) (by first | contradiction | (have h9 : ¬ (clo (ix (bor l9)) = 0 ∧ flo (ix (bor l9)) ≤ acc (ix (bor l9)) - due l9) := (fun q => c45_1 q.1); rw [mnS_o (flo := flo) (frm := frm) (too := too) (ldr := ldr) (bor := bor) (due := due) (plg := plg) (price := price) (mk := mk) (r := (acc, pap, clo, wai, proc, 0)) (l := l9) h9 c181_4]; (first | simp only [selA, min_a c123_2] | simp only [selA, min_b c123_2]))) (by decide) (by decide) (by decide) dX5_ends_203
  · skip
    refine z_aload_n C dX5_ends_48 rfl 0 rfl ?_
    refine z_get C 0 rfl i_X5_ends_X5 rfl 0 (by decide) m_X5_ends_f7 rfl rfl dX5_ends_49 ?_
    refine z_iload_n C dX5_ends_52 rfl 2 rfl ?_
    refine z_iald C 1 0 rfl rfl (ix (bor l9)) (nI_clamp (by omega)) (vp_in_nI (by omega) (by omega)) (acc (ix (bor l9))) rfl dX5_ends_53 ?_
    refine z_iload_n C dX5_ends_54 rfl 3 rfl ?_
    refine z_isub C (v := ((acc (ix (bor l9))) - (due l9))) dX5_ends_55 rfl ?_
    refine z_aload_n C dX5_ends_56 rfl 0 rfl ?_
    refine z_get C 0 rfl i_X5_ends_X5 rfl 1 (by decide) m_X5_ends_f13 rfl rfl dX5_ends_57 ?_
    refine z_iload_n C dX5_ends_60 rfl 2 rfl ?_
    refine z_iald C 2 0 rfl rfl (ix (bor l9)) (nI_clamp (by omega)) (vp_in_nI (by omega) (by omega)) (flo (ix (bor l9))) rfl dX5_ends_61 ?_
    refine z_icmp_lt C (tgt := 107) dX5_ends_62 (by decide) (fun c62_5 => ?_) (fun c62_5 => ?_)
    · skip
      refine z_aload_n C dX5_ends_107 rfl 0 rfl ?_
      refine z_get C 0 rfl i_X5_ends_X5 rfl 19 (by decide) m_X5_ends_f63 rfl rfl dX5_ends_108 ?_
      refine z_iload_n C dX5_ends_111 rfl 1 rfl ?_
      refine z_iald C 17 0 rfl rfl l9 (nI_clamp (by omega)) (vp_in_nI (by omega) (by omega)) (plg l9) rfl dX5_ends_112 ?_
      refine z_aload_n C dX5_ends_113 rfl 0 rfl ?_
      refine z_get C 0 rfl i_X5_ends_X5 rfl 21 (by decide) m_X5_ends_f69 rfl rfl dX5_ends_114 ?_
      refine z_imul C (v := ((plg l9) * price)) dX5_ends_117 rfl ?_
      refine z_istore C dX5_ends_118 (by decide) [(0, .ref (md 0)), (1, .int (nI l9)), (2, .int (nI (ix (bor l9)))), (3, .int (due l9)), (4, .int ((plg l9) * price))] [1, 2, 3, 4, 0] rfl ?_
      refine z_iload C dX5_ends_120 4 rfl ?_
      refine z_iload_n C dX5_ends_122 rfl 3 rfl ?_
      refine z_icmp_ge C (tgt := 131) dX5_ends_123 (by decide) (fun c123_6 => ?_) (fun c123_6 => ?_)
      · skip
        refine z_iload_n C dX5_ends_131 rfl 3 rfl ?_
        refine z_istore C dX5_ends_132 (by decide) [(0, .ref (md 0)), (1, .int (nI l9)), (2, .int (nI (ix (bor l9)))), (3, .int (due l9)), (4, .int ((plg l9) * price)), (5, .int (due l9))] [1, 2, 3, 4, 5, 0] rfl ?_
        refine z_aload_n C dX5_ends_134 rfl 0 rfl ?_
        refine z_get C 0 rfl i_X5_ends_X5 rfl 0 (by decide) m_X5_ends_f7 rfl rfl dX5_ends_135 ?_
        refine z_aload_n C dX5_ends_138 rfl 0 rfl ?_
        refine z_get C 0 rfl i_X5_ends_X5 rfl 15 (by decide) m_X5_ends_f51 rfl rfl dX5_ends_139 ?_
        refine z_iload_n C dX5_ends_142 rfl 1 rfl ?_
        have := (hldr l9 (by omega)).2
        refine z_iald C 13 0 rfl rfl l9 (nI_clamp (by omega)) (vp_in_nI (by omega) (by omega)) (nI (ix (ldr l9))) (hldr l9 (by omega)).1 dX5_ends_143 ?_
        refine z_dup2 C dX5_ends_144 rfl rfl ?_
        refine z_iald C 1 0 rfl rfl (ix (ldr l9)) (nI_clamp (by omega)) (vp_in_nI (by omega) (by omega)) (acc (ix (ldr l9))) rfl dX5_ends_145 ?_
        refine z_iload C dX5_ends_146 5 rfl ?_
        refine z_iadd C (v := ((acc (ix (ldr l9))) + (due l9))) dX5_ends_148 rfl ?_
        refine z_iast C 1 0 rfl rfl (ix (ldr l9)) (nI_clamp (by omega)) (vp_in_nI (by omega) (by omega)) ((acc (ix (ldr l9))) + (due l9)) rfl dX5_ends_149 (wM md cI cZ (upd acc (ix (ldr l9)) ((acc (ix (ldr l9))) + (due l9))) flo pap clo net bnd frm too amt pri wai fst ldr bor lnt rat plg (upd opn l9 0) (nI mk) small (nI lm) price cut proc thr) rfl ?_
        refine z_aload_n C dX5_ends_150 rfl 0 rfl ?_
        refine z_get C 0 rfl i_X5_ends_X5 rfl 0 (by decide) m_X5_ends_f7 rfl rfl dX5_ends_151 ?_
        refine z_iload_n C dX5_ends_154 rfl 2 rfl ?_
        refine z_dup2 C dX5_ends_155 rfl rfl ?_
        refine z_iald C 1 0 rfl rfl (ix (bor l9)) (nI_clamp (by omega)) (vp_in_nI (by omega) (by omega)) ((upd acc (ix (ldr l9)) ((acc (ix (ldr l9))) + (due l9))) (ix (bor l9))) rfl dX5_ends_156 ?_
        refine z_iload C dX5_ends_157 4 rfl ?_
        refine z_iload C dX5_ends_159 5 rfl ?_
        refine z_isub C (v := (((plg l9) * price) - (due l9))) dX5_ends_161 rfl ?_
        refine z_iadd C (v := (((upd acc (ix (ldr l9)) ((acc (ix (ldr l9))) + (due l9))) (ix (bor l9))) + (((plg l9) * price) - (due l9)))) dX5_ends_162 rfl ?_
        refine z_iast C 1 0 rfl rfl (ix (bor l9)) (nI_clamp (by omega)) (vp_in_nI (by omega) (by omega)) (((upd acc (ix (ldr l9)) ((acc (ix (ldr l9))) + (due l9))) (ix (bor l9))) + (((plg l9) * price) - (due l9))) rfl dX5_ends_163 (wM md cI cZ (upd (upd acc (ix (ldr l9)) ((acc (ix (ldr l9))) + (due l9))) (ix (bor l9)) (((upd acc (ix (ldr l9)) ((acc (ix (ldr l9))) + (due l9))) (ix (bor l9))) + (((plg l9) * price) - (due l9)))) flo pap clo net bnd frm too amt pri wai fst ldr bor lnt rat plg (upd opn l9 0) (nI mk) small (nI lm) price cut proc thr) rfl ?_
        refine z_aload_n C dX5_ends_164 rfl 0 rfl ?_
        refine z_dup C dX5_ends_165 rfl ?_
        refine z_get C 0 rfl i_X5_ends_X5 rfl 23 (by decide) m_X5_ends_f147 rfl rfl dX5_ends_166 ?_
        refine z_iload C dX5_ends_169 4 rfl ?_
        refine z_iadd C (v := (proc + ((plg l9) * price))) dX5_ends_171 rfl ?_
        refine z_put C 0 rfl i_X5_ends_X5 rfl 23 (by decide) m_X5_ends_f147 rfl tyX5 tyX5_ok nmX5 rfl (ty := .int) (by decide +kernel) rfl rfl (Nat.le_of_ble_eq_true rfl) dX5_ends_172 (wM md cI cZ (upd (upd acc (ix (ldr l9)) ((acc (ix (ldr l9))) + (due l9))) (ix (bor l9)) (((upd acc (ix (ldr l9)) ((acc (ix (ldr l9))) + (due l9))) (ix (bor l9))) + (((plg l9) * price) - (due l9)))) flo pap clo net bnd frm too amt pri wai fst ldr bor lnt rat plg (upd opn l9 0) (nI mk) small (nI lm) price cut (proc + ((plg l9) * price)) thr) rfl ?_
        refine z_aload_n C dX5_ends_175 rfl 0 rfl ?_
        refine z_get C 0 rfl i_X5_ends_X5 rfl 3 (by decide) m_X5_ends_f19 rfl rfl dX5_ends_176 ?_
        refine z_iload_n C dX5_ends_179 rfl 2 rfl ?_
        refine z_zald C 4 1 rfl rfl (ix (bor l9)) (nI_clamp (by omega)) (vp_in_nI (by omega) (by omega)) (clo (ix (bor l9))) rfl dX5_ends_180 ?_
        refine z_if_ne C (tgt := 188) dX5_ends_181 (by decide) (fun c181_7 => ?_) (fun c181_7 => ?_)
        · skip
          refine z_iconst C (v := 0) dX5_ends_188 (by decide) ?_
          refine z_istore C dX5_ends_189 (by decide) [(0, .ref (md 0)), (1, .int (nI l9)), (2, .int (nI (ix (bor l9)))), (3, .int (due l9)), (4, .int ((plg l9) * price)), (5, .int (due l9)), (6, .int 0)] [1, 2, 3, 4, 5, 6, 0] rfl ?_
          refine z_iload C dX5_ends_191 6 rfl ?_
          refine z_if_eq C (tgt := 201) dX5_ends_193 (by decide) (fun _ => ?_) (fun h => absurd h (by decide))
          refine z_iload C dX5_ends_201 6 rfl ?_
          exact z_zret C () (by first | contradiction | (have h9 : ¬ (clo (ix (bor l9)) = 0 ∧ flo (ix (bor l9)) ≤ acc (ix (bor l9)) - due l9) := (fun q => absurd q.2 (Int32.not_le.mpr c62_5)); rw [mnS_c (flo := flo) (frm := frm) (too := too) (ldr := ldr) (bor := bor) (due := due) (plg := plg) (price := price) (mk := mk) (r := (acc, pap, clo, wai, proc, 0)) (l := l9) h9 c181_7]; rfl)) (by first | contradiction | (have h9 : ¬ (clo (ix (bor l9)) = 0 ∧ flo (ix (bor l9)) ≤ acc (ix (bor l9)) - due l9) := (fun q => absurd q.2 (Int32.not_le.mpr c62_5)); rw [mnS_c (flo := flo) (frm := frm) (too := too) (ldr := ldr) (bor := bor) (due := due) (plg := plg) (price := price) (mk := mk) (r := (acc, pap, clo, wai, proc, 0)) (l := l9) h9 c181_7]; (first | simp only [selA, min_a c123_6] | simp only [selA, min_b c123_6]))) (by decide) (by decide) (by decide) dX5_ends_203
        · skip
          refine z_iconst C (v := 1) dX5_ends_184 (by decide) ?_
          refine z_goto C (tgt := 189) dX5_ends_185 (by decide) ?_
          refine z_istore C dX5_ends_189 (by decide) [(0, .ref (md 0)), (1, .int (nI l9)), (2, .int (nI (ix (bor l9)))), (3, .int (due l9)), (4, .int ((plg l9) * price)), (5, .int (due l9)), (6, .int 1)] [1, 2, 3, 4, 5, 6, 0] rfl ?_
          refine z_iload C dX5_ends_191 6 rfl ?_
          refine z_if_eq C (tgt := 201) dX5_ends_193 (by decide) (fun h => absurd h (by decide)) (fun _ => ?_)
          refine z_aload_n C dX5_ends_196 rfl 0 rfl ?_
          refine z_iload_n C dX5_ends_197 rfl 2 rfl ?_
          refine z_callVv C (T := Unit) (As := [.int (nI (ix (bor l9)))]) (rest := []) (ws' := fun _ => (wM md cI cZ (upd (upd acc (ix (ldr l9)) ((acc (ix (ldr l9))) + (due l9))) (ix (bor l9)) (((upd acc (ix (ldr l9)) ((acc (ix (ldr l9))) + (due l9))) (ix (bor l9))) + (((plg l9) * price) - (due l9)))) flo pap (upd clo (ix (bor l9)) 1) net bnd frm too amt pri (dropW frm too (ix (bor l9)) mk wai) fst ldr bor lnt rat plg (upd opn l9 0) (nI mk) small (nI lm) price cut (proc + ((plg l9) * price)) thr)) (m_closes l sa D cI cZ cL md (upd (upd acc (ix (ldr l9)) ((acc (ix (ldr l9))) + (due l9))) (ix (bor l9)) (((upd acc (ix (ldr l9)) ((acc (ix (ldr l9))) + (due l9))) (ix (bor l9))) + (((plg l9) * price) - (due l9)))) flo pap clo net bnd frm too amt pri wai fst ldr bor lnt rat plg (upd opn l9 0) small price cut (proc + ((plg l9) * price)) thr mk lm (ix (bor l9)) (by first | assumption | omega) (by first | assumption | omega) (by first | assumption | omega) (by first | assumption | omega) (by first | assumption | omega)) (cwV 1 C.2.2.2.2.1 gX5_ends_X5_closes rfl rfl rfl (by decide +kernel) ⟨Nat.le_of_ble_eq_true rfl, Nat.le_of_ble_eq_true rfl⟩) 0 rfl rfl rfl (fun _ => zSub.full) zIn.full rfl (Nat.le_of_ble_eq_true rfl) ⟨Nat.le_of_ble_eq_true rfl, Nat.le_of_ble_eq_true rfl⟩ dX5_ends_198 (fun _ _ => ?_)
          refine z_iload C dX5_ends_201 6 rfl ?_
          exact z_zret C () (by first | contradiction | (have h9 : ¬ (clo (ix (bor l9)) = 0 ∧ flo (ix (bor l9)) ≤ acc (ix (bor l9)) - due l9) := (fun q => absurd q.2 (Int32.not_le.mpr c62_5)); rw [mnS_c (flo := flo) (frm := frm) (too := too) (ldr := ldr) (bor := bor) (due := due) (plg := plg) (price := price) (mk := mk) (r := (acc, pap, clo, wai, proc, 0)) (l := l9) h9 c181_7]; rfl)) (by first | contradiction | (have h9 : ¬ (clo (ix (bor l9)) = 0 ∧ flo (ix (bor l9)) ≤ acc (ix (bor l9)) - due l9) := (fun q => absurd q.2 (Int32.not_le.mpr c62_5)); rw [mnS_c (flo := flo) (frm := frm) (too := too) (ldr := ldr) (bor := bor) (due := due) (plg := plg) (price := price) (mk := mk) (r := (acc, pap, clo, wai, proc, 0)) (l := l9) h9 c181_7]; (first | simp only [selA, min_a c123_6] | simp only [selA, min_b c123_6]))) (by decide) (by decide) (by decide) dX5_ends_203
      · skip
        refine z_iload C dX5_ends_126 4 rfl ?_
        refine z_goto C (tgt := 132) dX5_ends_128 (by decide) ?_
        refine z_istore C dX5_ends_132 (by decide) [(0, .ref (md 0)), (1, .int (nI l9)), (2, .int (nI (ix (bor l9)))), (3, .int (due l9)), (4, .int ((plg l9) * price)), (5, .int ((plg l9) * price))] [1, 2, 3, 4, 5, 0] rfl ?_
        refine z_aload_n C dX5_ends_134 rfl 0 rfl ?_
        refine z_get C 0 rfl i_X5_ends_X5 rfl 0 (by decide) m_X5_ends_f7 rfl rfl dX5_ends_135 ?_
        refine z_aload_n C dX5_ends_138 rfl 0 rfl ?_
        refine z_get C 0 rfl i_X5_ends_X5 rfl 15 (by decide) m_X5_ends_f51 rfl rfl dX5_ends_139 ?_
        refine z_iload_n C dX5_ends_142 rfl 1 rfl ?_
        have := (hldr l9 (by omega)).2
        refine z_iald C 13 0 rfl rfl l9 (nI_clamp (by omega)) (vp_in_nI (by omega) (by omega)) (nI (ix (ldr l9))) (hldr l9 (by omega)).1 dX5_ends_143 ?_
        refine z_dup2 C dX5_ends_144 rfl rfl ?_
        refine z_iald C 1 0 rfl rfl (ix (ldr l9)) (nI_clamp (by omega)) (vp_in_nI (by omega) (by omega)) (acc (ix (ldr l9))) rfl dX5_ends_145 ?_
        refine z_iload C dX5_ends_146 5 rfl ?_
        refine z_iadd C (v := ((acc (ix (ldr l9))) + ((plg l9) * price))) dX5_ends_148 rfl ?_
        refine z_iast C 1 0 rfl rfl (ix (ldr l9)) (nI_clamp (by omega)) (vp_in_nI (by omega) (by omega)) ((acc (ix (ldr l9))) + ((plg l9) * price)) rfl dX5_ends_149 (wM md cI cZ (upd acc (ix (ldr l9)) ((acc (ix (ldr l9))) + ((plg l9) * price))) flo pap clo net bnd frm too amt pri wai fst ldr bor lnt rat plg (upd opn l9 0) (nI mk) small (nI lm) price cut proc thr) rfl ?_
        refine z_aload_n C dX5_ends_150 rfl 0 rfl ?_
        refine z_get C 0 rfl i_X5_ends_X5 rfl 0 (by decide) m_X5_ends_f7 rfl rfl dX5_ends_151 ?_
        refine z_iload_n C dX5_ends_154 rfl 2 rfl ?_
        refine z_dup2 C dX5_ends_155 rfl rfl ?_
        refine z_iald C 1 0 rfl rfl (ix (bor l9)) (nI_clamp (by omega)) (vp_in_nI (by omega) (by omega)) ((upd acc (ix (ldr l9)) ((acc (ix (ldr l9))) + ((plg l9) * price))) (ix (bor l9))) rfl dX5_ends_156 ?_
        refine z_iload C dX5_ends_157 4 rfl ?_
        refine z_iload C dX5_ends_159 5 rfl ?_
        refine z_isub C (v := (((plg l9) * price) - ((plg l9) * price))) dX5_ends_161 rfl ?_
        refine z_iadd C (v := (((upd acc (ix (ldr l9)) ((acc (ix (ldr l9))) + ((plg l9) * price))) (ix (bor l9))) + (((plg l9) * price) - ((plg l9) * price)))) dX5_ends_162 rfl ?_
        refine z_iast C 1 0 rfl rfl (ix (bor l9)) (nI_clamp (by omega)) (vp_in_nI (by omega) (by omega)) (((upd acc (ix (ldr l9)) ((acc (ix (ldr l9))) + ((plg l9) * price))) (ix (bor l9))) + (((plg l9) * price) - ((plg l9) * price))) rfl dX5_ends_163 (wM md cI cZ (upd (upd acc (ix (ldr l9)) ((acc (ix (ldr l9))) + ((plg l9) * price))) (ix (bor l9)) (((upd acc (ix (ldr l9)) ((acc (ix (ldr l9))) + ((plg l9) * price))) (ix (bor l9))) + (((plg l9) * price) - ((plg l9) * price)))) flo pap clo net bnd frm too amt pri wai fst ldr bor lnt rat plg (upd opn l9 0) (nI mk) small (nI lm) price cut proc thr) rfl ?_
        refine z_aload_n C dX5_ends_164 rfl 0 rfl ?_
        refine z_dup C dX5_ends_165 rfl ?_
        refine z_get C 0 rfl i_X5_ends_X5 rfl 23 (by decide) m_X5_ends_f147 rfl rfl dX5_ends_166 ?_
        refine z_iload C dX5_ends_169 4 rfl ?_
        refine z_iadd C (v := (proc + ((plg l9) * price))) dX5_ends_171 rfl ?_
        refine z_put C 0 rfl i_X5_ends_X5 rfl 23 (by decide) m_X5_ends_f147 rfl tyX5 tyX5_ok nmX5 rfl (ty := .int) (by decide +kernel) rfl rfl (Nat.le_of_ble_eq_true rfl) dX5_ends_172 (wM md cI cZ (upd (upd acc (ix (ldr l9)) ((acc (ix (ldr l9))) + ((plg l9) * price))) (ix (bor l9)) (((upd acc (ix (ldr l9)) ((acc (ix (ldr l9))) + ((plg l9) * price))) (ix (bor l9))) + (((plg l9) * price) - ((plg l9) * price)))) flo pap clo net bnd frm too amt pri wai fst ldr bor lnt rat plg (upd opn l9 0) (nI mk) small (nI lm) price cut (proc + ((plg l9) * price)) thr) rfl ?_
        refine z_aload_n C dX5_ends_175 rfl 0 rfl ?_
        refine z_get C 0 rfl i_X5_ends_X5 rfl 3 (by decide) m_X5_ends_f19 rfl rfl dX5_ends_176 ?_
        refine z_iload_n C dX5_ends_179 rfl 2 rfl ?_
        refine z_zald C 4 1 rfl rfl (ix (bor l9)) (nI_clamp (by omega)) (vp_in_nI (by omega) (by omega)) (clo (ix (bor l9))) rfl dX5_ends_180 ?_
        refine z_if_ne C (tgt := 188) dX5_ends_181 (by decide) (fun c181_8 => ?_) (fun c181_8 => ?_)
        · skip
          refine z_iconst C (v := 0) dX5_ends_188 (by decide) ?_
          refine z_istore C dX5_ends_189 (by decide) [(0, .ref (md 0)), (1, .int (nI l9)), (2, .int (nI (ix (bor l9)))), (3, .int (due l9)), (4, .int ((plg l9) * price)), (5, .int ((plg l9) * price)), (6, .int 0)] [1, 2, 3, 4, 5, 6, 0] rfl ?_
          refine z_iload C dX5_ends_191 6 rfl ?_
          refine z_if_eq C (tgt := 201) dX5_ends_193 (by decide) (fun _ => ?_) (fun h => absurd h (by decide))
          refine z_iload C dX5_ends_201 6 rfl ?_
          exact z_zret C () (by first | contradiction | (have h9 : ¬ (clo (ix (bor l9)) = 0 ∧ flo (ix (bor l9)) ≤ acc (ix (bor l9)) - due l9) := (fun q => absurd q.2 (Int32.not_le.mpr c62_5)); rw [mnS_c (flo := flo) (frm := frm) (too := too) (ldr := ldr) (bor := bor) (due := due) (plg := plg) (price := price) (mk := mk) (r := (acc, pap, clo, wai, proc, 0)) (l := l9) h9 c181_8]; rfl)) (by first | contradiction | (have h9 : ¬ (clo (ix (bor l9)) = 0 ∧ flo (ix (bor l9)) ≤ acc (ix (bor l9)) - due l9) := (fun q => absurd q.2 (Int32.not_le.mpr c62_5)); rw [mnS_c (flo := flo) (frm := frm) (too := too) (ldr := ldr) (bor := bor) (due := due) (plg := plg) (price := price) (mk := mk) (r := (acc, pap, clo, wai, proc, 0)) (l := l9) h9 c181_8]; (first | simp only [selA, min_a c123_6] | simp only [selA, min_b c123_6]))) (by decide) (by decide) (by decide) dX5_ends_203
        · skip
          refine z_iconst C (v := 1) dX5_ends_184 (by decide) ?_
          refine z_goto C (tgt := 189) dX5_ends_185 (by decide) ?_
          refine z_istore C dX5_ends_189 (by decide) [(0, .ref (md 0)), (1, .int (nI l9)), (2, .int (nI (ix (bor l9)))), (3, .int (due l9)), (4, .int ((plg l9) * price)), (5, .int ((plg l9) * price)), (6, .int 1)] [1, 2, 3, 4, 5, 6, 0] rfl ?_
          refine z_iload C dX5_ends_191 6 rfl ?_
          refine z_if_eq C (tgt := 201) dX5_ends_193 (by decide) (fun h => absurd h (by decide)) (fun _ => ?_)
          refine z_aload_n C dX5_ends_196 rfl 0 rfl ?_
          refine z_iload_n C dX5_ends_197 rfl 2 rfl ?_
          refine z_callVv C (T := Unit) (As := [.int (nI (ix (bor l9)))]) (rest := []) (ws' := fun _ => (wM md cI cZ (upd (upd acc (ix (ldr l9)) ((acc (ix (ldr l9))) + ((plg l9) * price))) (ix (bor l9)) (((upd acc (ix (ldr l9)) ((acc (ix (ldr l9))) + ((plg l9) * price))) (ix (bor l9))) + (((plg l9) * price) - ((plg l9) * price)))) flo pap (upd clo (ix (bor l9)) 1) net bnd frm too amt pri (dropW frm too (ix (bor l9)) mk wai) fst ldr bor lnt rat plg (upd opn l9 0) (nI mk) small (nI lm) price cut (proc + ((plg l9) * price)) thr)) (m_closes l sa D cI cZ cL md (upd (upd acc (ix (ldr l9)) ((acc (ix (ldr l9))) + ((plg l9) * price))) (ix (bor l9)) (((upd acc (ix (ldr l9)) ((acc (ix (ldr l9))) + ((plg l9) * price))) (ix (bor l9))) + (((plg l9) * price) - ((plg l9) * price)))) flo pap clo net bnd frm too amt pri wai fst ldr bor lnt rat plg (upd opn l9 0) small price cut (proc + ((plg l9) * price)) thr mk lm (ix (bor l9)) (by first | assumption | omega) (by first | assumption | omega) (by first | assumption | omega) (by first | assumption | omega) (by first | assumption | omega)) (cwV 1 C.2.2.2.2.1 gX5_ends_X5_closes rfl rfl rfl (by decide +kernel) ⟨Nat.le_of_ble_eq_true rfl, Nat.le_of_ble_eq_true rfl⟩) 0 rfl rfl rfl (fun _ => zSub.full) zIn.full rfl (Nat.le_of_ble_eq_true rfl) ⟨Nat.le_of_ble_eq_true rfl, Nat.le_of_ble_eq_true rfl⟩ dX5_ends_198 (fun _ _ => ?_)
          refine z_iload C dX5_ends_201 6 rfl ?_
          exact z_zret C () (by first | contradiction | (have h9 : ¬ (clo (ix (bor l9)) = 0 ∧ flo (ix (bor l9)) ≤ acc (ix (bor l9)) - due l9) := (fun q => absurd q.2 (Int32.not_le.mpr c62_5)); rw [mnS_c (flo := flo) (frm := frm) (too := too) (ldr := ldr) (bor := bor) (due := due) (plg := plg) (price := price) (mk := mk) (r := (acc, pap, clo, wai, proc, 0)) (l := l9) h9 c181_8]; rfl)) (by first | contradiction | (have h9 : ¬ (clo (ix (bor l9)) = 0 ∧ flo (ix (bor l9)) ≤ acc (ix (bor l9)) - due l9) := (fun q => absurd q.2 (Int32.not_le.mpr c62_5)); rw [mnS_c (flo := flo) (frm := frm) (too := too) (ldr := ldr) (bor := bor) (due := due) (plg := plg) (price := price) (mk := mk) (r := (acc, pap, clo, wai, proc, 0)) (l := l9) h9 c181_8]; (first | simp only [selA, min_a c123_6] | simp only [selA, min_b c123_6]))) (by decide) (by decide) (by decide) dX5_ends_203
    · skip
      refine z_aload_n C dX5_ends_65 rfl 0 rfl ?_
      refine z_get C 0 rfl i_X5_ends_X5 rfl 0 (by decide) m_X5_ends_f7 rfl rfl dX5_ends_66 ?_
      refine z_iload_n C dX5_ends_69 rfl 2 rfl ?_
      refine z_dup2 C dX5_ends_70 rfl rfl ?_
      refine z_iald C 1 0 rfl rfl (ix (bor l9)) (nI_clamp (by omega)) (vp_in_nI (by omega) (by omega)) (acc (ix (bor l9))) rfl dX5_ends_71 ?_
      refine z_iload_n C dX5_ends_72 rfl 3 rfl ?_
      refine z_isub C (v := ((acc (ix (bor l9))) - (due l9))) dX5_ends_73 rfl ?_
      refine z_iast C 1 0 rfl rfl (ix (bor l9)) (nI_clamp (by omega)) (vp_in_nI (by omega) (by omega)) ((acc (ix (bor l9))) - (due l9)) rfl dX5_ends_74 (wM md cI cZ (upd acc (ix (bor l9)) ((acc (ix (bor l9))) - (due l9))) flo pap clo net bnd frm too amt pri wai fst ldr bor lnt rat plg (upd opn l9 0) (nI mk) small (nI lm) price cut proc thr) rfl ?_
      refine z_aload_n C dX5_ends_75 rfl 0 rfl ?_
      refine z_get C 0 rfl i_X5_ends_X5 rfl 0 (by decide) m_X5_ends_f7 rfl rfl dX5_ends_76 ?_
      refine z_aload_n C dX5_ends_79 rfl 0 rfl ?_
      refine z_get C 0 rfl i_X5_ends_X5 rfl 15 (by decide) m_X5_ends_f51 rfl rfl dX5_ends_80 ?_
      refine z_iload_n C dX5_ends_83 rfl 1 rfl ?_
      have := (hldr l9 (by omega)).2
      refine z_iald C 13 0 rfl rfl l9 (nI_clamp (by omega)) (vp_in_nI (by omega) (by omega)) (nI (ix (ldr l9))) (hldr l9 (by omega)).1 dX5_ends_84 ?_
      refine z_dup2 C dX5_ends_85 rfl rfl ?_
      refine z_iald C 1 0 rfl rfl (ix (ldr l9)) (nI_clamp (by omega)) (vp_in_nI (by omega) (by omega)) ((upd acc (ix (bor l9)) ((acc (ix (bor l9))) - (due l9))) (ix (ldr l9))) rfl dX5_ends_86 ?_
      refine z_iload_n C dX5_ends_87 rfl 3 rfl ?_
      refine z_iadd C (v := (((upd acc (ix (bor l9)) ((acc (ix (bor l9))) - (due l9))) (ix (ldr l9))) + (due l9))) dX5_ends_88 rfl ?_
      refine z_iast C 1 0 rfl rfl (ix (ldr l9)) (nI_clamp (by omega)) (vp_in_nI (by omega) (by omega)) (((upd acc (ix (bor l9)) ((acc (ix (bor l9))) - (due l9))) (ix (ldr l9))) + (due l9)) rfl dX5_ends_89 (wM md cI cZ (upd (upd acc (ix (bor l9)) ((acc (ix (bor l9))) - (due l9))) (ix (ldr l9)) (((upd acc (ix (bor l9)) ((acc (ix (bor l9))) - (due l9))) (ix (ldr l9))) + (due l9))) flo pap clo net bnd frm too amt pri wai fst ldr bor lnt rat plg (upd opn l9 0) (nI mk) small (nI lm) price cut proc thr) rfl ?_
      refine z_aload_n C dX5_ends_90 rfl 0 rfl ?_
      refine z_get C 0 rfl i_X5_ends_X5 rfl 2 (by decide) m_X5_ends_f16 rfl rfl dX5_ends_91 ?_
      refine z_iload_n C dX5_ends_94 rfl 2 rfl ?_
      refine z_dup2 C dX5_ends_95 rfl rfl ?_
      refine z_iald C 3 0 rfl rfl (ix (bor l9)) (nI_clamp (by omega)) (vp_in_nI (by omega) (by omega)) (pap (ix (bor l9))) rfl dX5_ends_96 ?_
      refine z_aload_n C dX5_ends_97 rfl 0 rfl ?_
      refine z_get C 0 rfl i_X5_ends_X5 rfl 19 (by decide) m_X5_ends_f63 rfl rfl dX5_ends_98 ?_
      refine z_iload_n C dX5_ends_101 rfl 1 rfl ?_
      refine z_iald C 17 0 rfl rfl l9 (nI_clamp (by omega)) (vp_in_nI (by omega) (by omega)) (plg l9) rfl dX5_ends_102 ?_
      refine z_iadd C (v := ((pap (ix (bor l9))) + (plg l9))) dX5_ends_103 rfl ?_
      refine z_iast C 3 0 rfl rfl (ix (bor l9)) (nI_clamp (by omega)) (vp_in_nI (by omega) (by omega)) ((pap (ix (bor l9))) + (plg l9)) rfl dX5_ends_104 (wM md cI cZ (upd (upd acc (ix (bor l9)) ((acc (ix (bor l9))) - (due l9))) (ix (ldr l9)) (((upd acc (ix (bor l9)) ((acc (ix (bor l9))) - (due l9))) (ix (ldr l9))) + (due l9))) flo (upd pap (ix (bor l9)) ((pap (ix (bor l9))) + (plg l9))) clo net bnd frm too amt pri wai fst ldr bor lnt rat plg (upd opn l9 0) (nI mk) small (nI lm) price cut proc thr) rfl ?_
      refine z_iconst C (v := 0) dX5_ends_105 (by decide) ?_
      exact z_zret C () (by rw [mnS_r (flo := flo) (frm := frm) (too := too) (ldr := ldr) (bor := bor) (due := due) (plg := plg) (price := price) (mk := mk) (r := (acc, pap, clo, wai, proc, 0)) (l := l9) ⟨c45_1, Int32.not_lt.mp c62_5⟩]; rfl) (by rw [mnS_r (flo := flo) (frm := frm) (too := too) (ldr := ldr) (bor := bor) (due := due) (plg := plg) (price := price) (mk := mk) (r := (acc, pap, clo, wai, proc, 0)) (l := l9) ⟨c45_1, Int32.not_lt.mp c62_5⟩]; rfl) (by decide) (by decide) (by decide) dX5_ends_106
theorem opn_s1 {o : Nat → Int32} {l : Nat} (h : ∀ j, j < l → o j = 0) (h2 : o l = 0) : ∀ j, j < l + 1 → o j = 0 := by
  intro j hj
  by_cases e : j = l
  · rw [e]; exact h2
  · exact h j (by omega)
theorem opn_s2 {o : Nat → Int32} {l : Nat} (h : ∀ j, j < l → o j = 0) : ∀ j, j < l + 1 → upd o l 0 j = 0 := by
  intro j hj
  unfold upd
  by_cases e : j = l
  · rw [if_pos e]
  · rw [if_neg e]; exact h j (by omega)
theorem opn_s3 {o g : Nat → Int32} {l m : Nat} (h : ∀ j, l ≤ j → j < m → o j = g j) : ∀ j, l + 1 ≤ j → j < m → upd o l 0 j = g j := by
  intro j hj hm
  unfold upd
  rw [if_neg (by omega)]; exact h j (by omega) hm
set_option maxHeartbeats 4000000 in
set_option maxRecDepth 100000 in
theorem m_morning_ok (l : Launch) (sa : Nat → Nat) (D : va_G) (cI cZ cL : ClassId) (md : Nat → Nat) (acc flo pap clo net bnd frm too amt pri wai fst ldr bor lnt rat plg opn : Nat → Int32) (small price cut proc thr : Int32) (mk lm : Nat) (le : Nat) (due : Nat → Int32) (hmk : mk ≤ 60) (hfrm : wf5 mk frm) (htoo : wf5 mk too) (hlm : lm ≤ 40) (hldr : wf5 lm ldr) (hbor : wf5 lm bor) (hwB : wfB wai) (hle : le ≤ lm) (hopn : ∀ j, j < lm → opn j = if j < le then 0 else 1) (hdue : ∀ j, j < lm → due j = lnt j + lnt j * rat j / 1000) : zMi (T := Nat → Int32) sa D vwCl (zty cI cZ cL) l yX5_morning wsX5_morning ({ frames := 2, cells := 0, slots := 0, locals := 48 } : Room) [.ref (md 0)] (wM md cI cZ acc flo pap clo net bnd frm too amt pri wai fst ldr bor lnt rat plg opn (nI mk) small (nI lm) price cut proc thr) (fun r9 u => r9 = (nI ((mnF flo frm too ldr bor due plg price mk (acc, pap, clo, wai, proc, 0) le (lm - le)).2.2.2.2.2)) ∧ (∀ j, j < lm → u j = 0)) (fun u => (wM md cI cZ ((mnF flo frm too ldr bor due plg price mk (acc, pap, clo, wai, proc, 0) le (lm - le)).1) flo ((mnF flo frm too ldr bor due plg price mk (acc, pap, clo, wai, proc, 0) le (lm - le)).2.1) ((mnF flo frm too ldr bor due plg price mk (acc, pap, clo, wai, proc, 0) le (lm - le)).2.2.1) (clrN net 25) bnd frm too amt pri ((mnF flo frm too ldr bor due plg price mk (acc, pap, clo, wai, proc, 0) le (lm - le)).2.2.2.1) fst ldr bor lnt rat plg u (nI mk) small (nI lm) price cut ((mnF flo frm too ldr bor due plg price mk (acc, pap, clo, wai, proc, 0) le (lm - le)).2.2.2.2.1) 0)) 0 0 := by
  refine zMi.of (ret := (some .int)) (cc := cX5_morning) (nL := 3) (own := RX5) (by decide +kernel) rfl [(0, .ref (md 0))] rfl (Nat.le_of_ble_eq_true rfl) rfl ?_
  intro A p e s m args below meth c C hmn
  refine z_aload_n C dX5_morning_0 rfl 0 rfl ?_
  refine z_iconst C (v := 0) dX5_morning_1 (by decide) ?_
  refine z_put C 0 rfl i_X5_morning_X5 rfl 24 (by decide) m_X5_morning_f76 rfl tyX5 tyX5_ok nmX5 rfl (ty := .int) (by decide +kernel) rfl rfl (Nat.le_of_ble_eq_true rfl) dX5_morning_2 (wM md cI cZ acc flo pap clo net bnd frm too amt pri wai fst ldr bor lnt rat plg opn (nI mk) small (nI lm) price cut proc 0) rfl ?_
  refine z_iconst C (v := 0) dX5_morning_5 (by decide) ?_
  refine z_istore_n C dX5_morning_6 rfl (by decide) [(0, .ref (md 0)), (1, .int 0)] [1, 0] rfl ?_
  have L7_k_1 : ∀ (n : Nat) (i : Nat), 25 - i < n → (i ≤ 25) → zW p l e ({ frames := 2, cells := 0, slots := 0, locals := 48 } : Room) s m args below meth c (MQ below (zQi (T := Nat → Int32) D vwCl (zty cI cZ cL) A (fun r9 u => r9 = (nI ((mnF flo frm too ldr bor due plg price mk (acc, pap, clo, wai, proc, 0) le (lm - le)).2.2.2.2.2)) ∧ (∀ j, j < lm → u j = 0)) (fun u => (wM md cI cZ ((mnF flo frm too ldr bor due plg price mk (acc, pap, clo, wai, proc, 0) le (lm - le)).1) flo ((mnF flo frm too ldr bor due plg price mk (acc, pap, clo, wai, proc, 0) le (lm - le)).2.1) ((mnF flo frm too ldr bor due plg price mk (acc, pap, clo, wai, proc, 0) le (lm - le)).2.2.1) (clrN net 25) bnd frm too amt pri ((mnF flo frm too ldr bor due plg price mk (acc, pap, clo, wai, proc, 0) le (lm - le)).2.2.2.1) fst ldr bor lnt rat plg u (nI mk) small (nI lm) price cut ((mnF flo frm too ldr bor due plg price mk (acc, pap, clo, wai, proc, 0) le (lm - le)).2.2.2.2.1) 0))) args s 0 0 A) D vwCl A 3 0 0 (wM md cI cZ acc flo pap clo (clrN net i) bnd frm too amt pri wai fst ldr bor lnt rat plg opn (nI mk) small (nI lm) price cut proc 0) [(0, .ref (md 0)), (1, .int (nI i))] 7 [] := by
    intro n
    induction n with
    | zero => intros; omega
    | succ n ih_2 =>
      intro i hm_3 hi
      refine z_iload_n C dX5_morning_7 rfl 1 rfl ?_
      refine z_bipush C (v := 25) dX5_morning_8 (by decide) ?_
      refine z_icmp_ge C (tgt := 26) dX5_morning_10 (by decide) (fun c10_4 => ?_) (fun c10_4 => ?_)
      · skip
        have n_5 : 25 ≤ i := (nI_leI (a := 25) (b := i) (by omega) (by omega)).mp c10_4
        refine z_iconst C (v := 0) dX5_morning_26 (by decide) ?_
        refine z_istore_n C dX5_morning_27 rfl (by decide) [(0, .ref (md 0)), (1, .int 0)] [1, 0] rfl ?_
        refine z_iconst C (v := 0) dX5_morning_28 (by decide) ?_
        refine z_istore_n C dX5_morning_29 rfl (by decide) [(0, .ref (md 0)), (1, .int 0), (2, .int 0)] [1, 2, 0] rfl ?_
        have L30_k_6 : ∀ (n : Nat) (l9 : Nat) (o9 : Nat → Int32), lm - l9 < n → (l9 ≤ lm) → (∀ j, j < l9 → o9 j = 0) → (∀ j, l9 ≤ j → j < lm → o9 j = if j < le then 0 else 1) → zW p l e ({ frames := 2, cells := 0, slots := 0, locals := 48 } : Room) s m args below meth c (MQ below (zQi (T := Nat → Int32) D vwCl (zty cI cZ cL) A (fun r9 u => r9 = (nI ((mnF flo frm too ldr bor due plg price mk (acc, pap, clo, wai, proc, 0) le (lm - le)).2.2.2.2.2)) ∧ (∀ j, j < lm → u j = 0)) (fun u => (wM md cI cZ ((mnF flo frm too ldr bor due plg price mk (acc, pap, clo, wai, proc, 0) le (lm - le)).1) flo ((mnF flo frm too ldr bor due plg price mk (acc, pap, clo, wai, proc, 0) le (lm - le)).2.1) ((mnF flo frm too ldr bor due plg price mk (acc, pap, clo, wai, proc, 0) le (lm - le)).2.2.1) (clrN net 25) bnd frm too amt pri ((mnF flo frm too ldr bor due plg price mk (acc, pap, clo, wai, proc, 0) le (lm - le)).2.2.2.1) fst ldr bor lnt rat plg u (nI mk) small (nI lm) price cut ((mnF flo frm too ldr bor due plg price mk (acc, pap, clo, wai, proc, 0) le (lm - le)).2.2.2.2.1) 0))) args s 0 0 A) D vwCl A 3 0 0 (wM md cI cZ ((mnF flo frm too ldr bor due plg price mk (acc, pap, clo, wai, proc, 0) le (l9 - le)).1) flo ((mnF flo frm too ldr bor due plg price mk (acc, pap, clo, wai, proc, 0) le (l9 - le)).2.1) ((mnF flo frm too ldr bor due plg price mk (acc, pap, clo, wai, proc, 0) le (l9 - le)).2.2.1) (clrN net i) bnd frm too amt pri ((mnF flo frm too ldr bor due plg price mk (acc, pap, clo, wai, proc, 0) le (l9 - le)).2.2.2.1) fst ldr bor lnt rat plg o9 (nI mk) small (nI lm) price cut ((mnF flo frm too ldr bor due plg price mk (acc, pap, clo, wai, proc, 0) le (l9 - le)).2.2.2.2.1) 0) [(0, .ref (md 0)), (1, .int (nI ((mnF flo frm too ldr bor due plg price mk (acc, pap, clo, wai, proc, 0) le (l9 - le)).2.2.2.2.2))), (2, .int (nI l9))] 30 [] := by
          intro n
          induction n with
          | zero => intros; omega
          | succ n ih_7 =>
            intro l9 o9 hm_8 hl ho1 ho2
            refine z_iload_n C dX5_morning_30 rfl 2 rfl ?_
            refine z_aload_n C dX5_morning_31 rfl 0 rfl ?_
            refine z_get C 0 rfl i_X5_morning_X5 rfl 14 (by decide) m_X5_morning_f144 rfl rfl dX5_morning_32 ?_
            refine z_icmp_ge C (tgt := 69) dX5_morning_35 (by decide) (fun c35_9 => ?_) (fun c35_9 => ?_)
            · skip
              have n_10 : lm ≤ l9 := (nI_leI (a := lm) (b := l9) (by omega) (by omega)).mp c35_9
              refine z_iload_n C dX5_morning_69 rfl 1 rfl ?_
              exact z_iret C o9 (by obtain rfl : l9 = lm := (by omega); exact ⟨rfl, ho1⟩) (by obtain rfl : l9 = lm := (by omega); obtain rfl : i = 25 := (by omega); rfl) (by decide) (by decide) dX5_morning_70
            · skip
              have n_11 : ¬ lm ≤ l9 := fun q => c35_9 ((nI_leI (a := lm) (b := l9) (by omega) (by omega)).mpr q)
              refine z_iload_n C dX5_morning_38 rfl 1 rfl ?_
              refine z_aload_n C dX5_morning_39 rfl 0 rfl ?_
              refine z_get C 0 rfl i_X5_morning_X5 rfl 20 (by decide) m_X5_morning_f66 rfl rfl dX5_morning_40 ?_
              refine z_iload_n C dX5_morning_43 rfl 2 rfl ?_
              refine z_case (l9 < le) (fun hp_12 => ?_) (fun hp_12 => ?_)
              · skip
                refine z_zald C 18 1 rfl rfl l9 (nI_clamp (by omega)) (vp_in_nI (by omega) (by omega)) 0 (by rw [ho2 l9 (by omega) (by omega), if_pos hp_12]) dX5_morning_44 ?_
                refine z_if_eq C (tgt := 60) dX5_morning_45 (by decide) (fun _ => ?_) (fun h => absurd h (by decide))
                refine z_iconst C (v := 0) dX5_morning_60 (by decide) ?_
                refine z_iadd C (v := (nI ((mnF flo frm too ldr bor due plg price mk (acc, pap, clo, wai, proc, 0) le (l9 - le)).2.2.2.2.2))) dX5_morning_61 (z_add0 _) ?_
                refine z_istore_n C dX5_morning_62 rfl (by decide) [(0, .ref (md 0)), (1, .int (nI ((mnF flo frm too ldr bor due plg price mk (acc, pap, clo, wai, proc, 0) le (l9 - le)).2.2.2.2.2))), (2, .int (nI l9))] [1, 0, 2] rfl ?_
                refine z_iinc C (v := (nI (l9 + 1))) dX5_morning_63 2 rfl (nI_add l9 1) (by decide) [(0, .ref (md 0)), (1, .int (nI ((mnF flo frm too ldr bor due plg price mk (acc, pap, clo, wai, proc, 0) le (l9 - le)).2.2.2.2.2))), (2, .int (nI (l9 + 1)))] [1, 2, 0] rfl ?_
                refine z_goto C (tgt := 30) dX5_morning_66 (by decide) ?_
                refine z_ws (wM md cI cZ ((mnF flo frm too ldr bor due plg price mk (acc, pap, clo, wai, proc, 0) le ((l9 + 1) - le)).1) flo ((mnF flo frm too ldr bor due plg price mk (acc, pap, clo, wai, proc, 0) le ((l9 + 1) - le)).2.1) ((mnF flo frm too ldr bor due plg price mk (acc, pap, clo, wai, proc, 0) le ((l9 + 1) - le)).2.2.1) (clrN net i) bnd frm too amt pri ((mnF flo frm too ldr bor due plg price mk (acc, pap, clo, wai, proc, 0) le ((l9 + 1) - le)).2.2.2.1) fst ldr bor lnt rat plg o9 (nI mk) small (nI lm) price cut ((mnF flo frm too ldr bor due plg price mk (acc, pap, clo, wai, proc, 0) le ((l9 + 1) - le)).2.2.2.2.1) 0) (by rw [show l9 + 1 - le = l9 - le by omega]) ?_
                refine z_lveq [(0, .ref (md 0)), (1, .int (nI ((mnF flo frm too ldr bor due plg price mk (acc, pap, clo, wai, proc, 0) le ((l9 + 1) - le)).2.2.2.2.2))), (2, .int (nI (l9 + 1)))] (by rw [show l9 + 1 - le = l9 - le by omega]) ?_
                exact ih_7 (l9 + 1) o9 (by omega) (by first | assumption | omega) (by exact opn_s1 ho1 (by first | rw [ho2 l9 (by omega) (by omega), if_pos (by assumption)])) (by exact fun j h1 h2 => ho2 j (by omega) h2)
              · skip
                refine z_zald C 18 1 rfl rfl l9 (nI_clamp (by omega)) (vp_in_nI (by omega) (by omega)) 1 (by rw [ho2 l9 (by omega) (by omega), if_neg hp_12]) dX5_morning_44 ?_
                refine z_if_eq C (tgt := 60) dX5_morning_45 (by decide) (fun h => absurd h (by decide)) (fun _ => ?_)
                refine z_aload_n C dX5_morning_48 rfl 0 rfl ?_
                refine z_iload_n C dX5_morning_49 rfl 2 rfl ?_
                refine z_callVi C (T := Unit) (As := [.int (nI l9)]) (rest := [.int (nI ((mnF flo frm too ldr bor due plg price mk (acc, pap, clo, wai, proc, 0) le (l9 - le)).2.2.2.2.2))]) (ws' := fun _ => (wM md cI cZ ((mnS flo frm too ldr bor due plg price mk (((mnF flo frm too ldr bor due plg price mk (acc, pap, clo, wai, proc, 0) le (l9 - le)).1), ((mnF flo frm too ldr bor due plg price mk (acc, pap, clo, wai, proc, 0) le (l9 - le)).2.1), ((mnF flo frm too ldr bor due plg price mk (acc, pap, clo, wai, proc, 0) le (l9 - le)).2.2.1), ((mnF flo frm too ldr bor due plg price mk (acc, pap, clo, wai, proc, 0) le (l9 - le)).2.2.2.1), ((mnF flo frm too ldr bor due plg price mk (acc, pap, clo, wai, proc, 0) le (l9 - le)).2.2.2.2.1), 0) l9).1) flo ((mnS flo frm too ldr bor due plg price mk (((mnF flo frm too ldr bor due plg price mk (acc, pap, clo, wai, proc, 0) le (l9 - le)).1), ((mnF flo frm too ldr bor due plg price mk (acc, pap, clo, wai, proc, 0) le (l9 - le)).2.1), ((mnF flo frm too ldr bor due plg price mk (acc, pap, clo, wai, proc, 0) le (l9 - le)).2.2.1), ((mnF flo frm too ldr bor due plg price mk (acc, pap, clo, wai, proc, 0) le (l9 - le)).2.2.2.1), ((mnF flo frm too ldr bor due plg price mk (acc, pap, clo, wai, proc, 0) le (l9 - le)).2.2.2.2.1), 0) l9).2.1) ((mnS flo frm too ldr bor due plg price mk (((mnF flo frm too ldr bor due plg price mk (acc, pap, clo, wai, proc, 0) le (l9 - le)).1), ((mnF flo frm too ldr bor due plg price mk (acc, pap, clo, wai, proc, 0) le (l9 - le)).2.1), ((mnF flo frm too ldr bor due plg price mk (acc, pap, clo, wai, proc, 0) le (l9 - le)).2.2.1), ((mnF flo frm too ldr bor due plg price mk (acc, pap, clo, wai, proc, 0) le (l9 - le)).2.2.2.1), ((mnF flo frm too ldr bor due plg price mk (acc, pap, clo, wai, proc, 0) le (l9 - le)).2.2.2.2.1), 0) l9).2.2.1) (clrN net i) bnd frm too amt pri ((mnS flo frm too ldr bor due plg price mk (((mnF flo frm too ldr bor due plg price mk (acc, pap, clo, wai, proc, 0) le (l9 - le)).1), ((mnF flo frm too ldr bor due plg price mk (acc, pap, clo, wai, proc, 0) le (l9 - le)).2.1), ((mnF flo frm too ldr bor due plg price mk (acc, pap, clo, wai, proc, 0) le (l9 - le)).2.2.1), ((mnF flo frm too ldr bor due plg price mk (acc, pap, clo, wai, proc, 0) le (l9 - le)).2.2.2.1), ((mnF flo frm too ldr bor due plg price mk (acc, pap, clo, wai, proc, 0) le (l9 - le)).2.2.2.2.1), 0) l9).2.2.2.1) fst ldr bor lnt rat plg (upd o9 l9 0) (nI mk) small (nI lm) price cut ((mnS flo frm too ldr bor due plg price mk (((mnF flo frm too ldr bor due plg price mk (acc, pap, clo, wai, proc, 0) le (l9 - le)).1), ((mnF flo frm too ldr bor due plg price mk (acc, pap, clo, wai, proc, 0) le (l9 - le)).2.1), ((mnF flo frm too ldr bor due plg price mk (acc, pap, clo, wai, proc, 0) le (l9 - le)).2.2.1), ((mnF flo frm too ldr bor due plg price mk (acc, pap, clo, wai, proc, 0) le (l9 - le)).2.2.2.1), ((mnF flo frm too ldr bor due plg price mk (acc, pap, clo, wai, proc, 0) le (l9 - le)).2.2.2.2.1), 0) l9).2.2.2.2.1) 0)) (m_ends l sa D cI cZ cL md ((mnF flo frm too ldr bor due plg price mk (acc, pap, clo, wai, proc, 0) le (l9 - le)).1) flo ((mnF flo frm too ldr bor due plg price mk (acc, pap, clo, wai, proc, 0) le (l9 - le)).2.1) ((mnF flo frm too ldr bor due plg price mk (acc, pap, clo, wai, proc, 0) le (l9 - le)).2.2.1) (clrN net i) bnd frm too amt pri ((mnF flo frm too ldr bor due plg price mk (acc, pap, clo, wai, proc, 0) le (l9 - le)).2.2.2.1) fst ldr bor lnt rat plg o9 small price cut ((mnF flo frm too ldr bor due plg price mk (acc, pap, clo, wai, proc, 0) le (l9 - le)).2.2.2.2.1) 0 mk lm l9 due (by first | assumption | omega) (by first | assumption | omega) (by first | assumption | omega) (by first | assumption | omega) (by first | assumption | omega) (by first | assumption | omega) (by first | assumption | omega) (by exact mnF_wfB hwB _) (by exact hdue l9 (by omega))) (cwV 1 C.2.2.2.2.1 gX5_morning_X5_ends rfl rfl rfl (by decide +kernel) ⟨Nat.le_of_ble_eq_true rfl, Nat.le_of_ble_eq_true rfl⟩) 0 rfl rfl rfl (fun _ => zSub.full) zIn.full rfl (Nat.le_of_ble_eq_true rfl) ⟨Nat.le_of_ble_eq_true rfl, Nat.le_of_ble_eq_true rfl⟩ dX5_morning_50 (fun r_13 _ h_14 => ?_)
                obtain rfl : r_13 = (nI ((mnS flo frm too ldr bor due plg price mk (((mnF flo frm too ldr bor due plg price mk (acc, pap, clo, wai, proc, 0) le (l9 - le)).1), ((mnF flo frm too ldr bor due plg price mk (acc, pap, clo, wai, proc, 0) le (l9 - le)).2.1), ((mnF flo frm too ldr bor due plg price mk (acc, pap, clo, wai, proc, 0) le (l9 - le)).2.2.1), ((mnF flo frm too ldr bor due plg price mk (acc, pap, clo, wai, proc, 0) le (l9 - le)).2.2.2.1), ((mnF flo frm too ldr bor due plg price mk (acc, pap, clo, wai, proc, 0) le (l9 - le)).2.2.2.2.1), 0) l9).2.2.2.2.2)) := h_14
                have hml := mnS_le flo frm too ldr bor due plg price mk ((mnF flo frm too ldr bor due plg price mk (acc, pap, clo, wai, proc, 0) le (l9 - le)).1, (mnF flo frm too ldr bor due plg price mk (acc, pap, clo, wai, proc, 0) le (l9 - le)).2.1, (mnF flo frm too ldr bor due plg price mk (acc, pap, clo, wai, proc, 0) le (l9 - le)).2.2.1, (mnF flo frm too ldr bor due plg price mk (acc, pap, clo, wai, proc, 0) le (l9 - le)).2.2.2.1, (mnF flo frm too ldr bor due plg price mk (acc, pap, clo, wai, proc, 0) le (l9 - le)).2.2.2.2.1, 0) l9
                have hml2 : (mnS flo frm too ldr bor due plg price mk ((mnF flo frm too ldr bor due plg price mk (acc, pap, clo, wai, proc, 0) le (l9 - le)).1, (mnF flo frm too ldr bor due plg price mk (acc, pap, clo, wai, proc, 0) le (l9 - le)).2.1, (mnF flo frm too ldr bor due plg price mk (acc, pap, clo, wai, proc, 0) le (l9 - le)).2.2.1, (mnF flo frm too ldr bor due plg price mk (acc, pap, clo, wai, proc, 0) le (l9 - le)).2.2.2.1, (mnF flo frm too ldr bor due plg price mk (acc, pap, clo, wai, proc, 0) le (l9 - le)).2.2.2.2.1, 0) l9).2.2.2.2.2 ≤ 1 := hml
                refine z_if_eq C (tgt := 60) dX5_morning_53 (by decide) (fun c53_15 => ?_) (fun c53_15 => ?_)
                · skip
                  have n_16 : ((mnS flo frm too ldr bor due plg price mk (((mnF flo frm too ldr bor due plg price mk (acc, pap, clo, wai, proc, 0) le (l9 - le)).1), ((mnF flo frm too ldr bor due plg price mk (acc, pap, clo, wai, proc, 0) le (l9 - le)).2.1), ((mnF flo frm too ldr bor due plg price mk (acc, pap, clo, wai, proc, 0) le (l9 - le)).2.2.1), ((mnF flo frm too ldr bor due plg price mk (acc, pap, clo, wai, proc, 0) le (l9 - le)).2.2.2.1), ((mnF flo frm too ldr bor due plg price mk (acc, pap, clo, wai, proc, 0) le (l9 - le)).2.2.2.2.1), 0) l9).2.2.2.2.2) = 0 := (nI_eq (a := (mnS flo frm too ldr bor due plg price mk (((mnF flo frm too ldr bor due plg price mk (acc, pap, clo, wai, proc, 0) le (l9 - le)).1), ((mnF flo frm too ldr bor due plg price mk (acc, pap, clo, wai, proc, 0) le (l9 - le)).2.1), ((mnF flo frm too ldr bor due plg price mk (acc, pap, clo, wai, proc, 0) le (l9 - le)).2.2.1), ((mnF flo frm too ldr bor due plg price mk (acc, pap, clo, wai, proc, 0) le (l9 - le)).2.2.2.1), ((mnF flo frm too ldr bor due plg price mk (acc, pap, clo, wai, proc, 0) le (l9 - le)).2.2.2.2.1), 0) l9).2.2.2.2.2) (b := 0) (by omega) (by omega)).mp c53_15
                  refine z_iconst C (v := 0) dX5_morning_60 (by decide) ?_
                  refine z_iadd C (v := (nI ((mnF flo frm too ldr bor due plg price mk (acc, pap, clo, wai, proc, 0) le (l9 - le)).2.2.2.2.2))) dX5_morning_61 (z_add0 _) ?_
                  refine z_istore_n C dX5_morning_62 rfl (by decide) [(0, .ref (md 0)), (1, .int (nI ((mnF flo frm too ldr bor due plg price mk (acc, pap, clo, wai, proc, 0) le (l9 - le)).2.2.2.2.2))), (2, .int (nI l9))] [1, 0, 2] rfl ?_
                  refine z_iinc C (v := (nI (l9 + 1))) dX5_morning_63 2 rfl (nI_add l9 1) (by decide) [(0, .ref (md 0)), (1, .int (nI ((mnF flo frm too ldr bor due plg price mk (acc, pap, clo, wai, proc, 0) le (l9 - le)).2.2.2.2.2))), (2, .int (nI (l9 + 1)))] [1, 2, 0] rfl ?_
                  refine z_goto C (tgt := 30) dX5_morning_66 (by decide) ?_
                  refine z_ws (wM md cI cZ ((mnF flo frm too ldr bor due plg price mk (acc, pap, clo, wai, proc, 0) le ((l9 + 1) - le)).1) flo ((mnF flo frm too ldr bor due plg price mk (acc, pap, clo, wai, proc, 0) le ((l9 + 1) - le)).2.1) ((mnF flo frm too ldr bor due plg price mk (acc, pap, clo, wai, proc, 0) le ((l9 + 1) - le)).2.2.1) (clrN net i) bnd frm too amt pri ((mnF flo frm too ldr bor due plg price mk (acc, pap, clo, wai, proc, 0) le ((l9 + 1) - le)).2.2.2.1) fst ldr bor lnt rat plg (upd o9 l9 0) (nI mk) small (nI lm) price cut ((mnF flo frm too ldr bor due plg price mk (acc, pap, clo, wai, proc, 0) le ((l9 + 1) - le)).2.2.2.2.1) 0) (by rw [show l9 + 1 - le = l9 - le + 1 by omega]; simp only [mnF]; rewrite [show le + (l9 - le) = l9 by omega, mnS_e (mnF flo frm too ldr bor due plg price mk (acc, pap, clo, wai, proc, 0) le (l9 - le)) l9]; first | rfl | (rw [n_16]; rfl) | (rw [show (mnS flo frm too ldr bor due plg price mk ((mnF flo frm too ldr bor due plg price mk (acc, pap, clo, wai, proc, 0) le (l9 - le)).1, (mnF flo frm too ldr bor due plg price mk (acc, pap, clo, wai, proc, 0) le (l9 - le)).2.1, (mnF flo frm too ldr bor due plg price mk (acc, pap, clo, wai, proc, 0) le (l9 - le)).2.2.1, (mnF flo frm too ldr bor due plg price mk (acc, pap, clo, wai, proc, 0) le (l9 - le)).2.2.2.1, (mnF flo frm too ldr bor due plg price mk (acc, pap, clo, wai, proc, 0) le (l9 - le)).2.2.2.2.1, 0) l9).2.2.2.2.2 = 1 by omega])) ?_
                  refine z_lveq [(0, .ref (md 0)), (1, .int (nI ((mnF flo frm too ldr bor due plg price mk (acc, pap, clo, wai, proc, 0) le ((l9 + 1) - le)).2.2.2.2.2))), (2, .int (nI (l9 + 1)))] (by rw [show l9 + 1 - le = l9 - le + 1 by omega]; simp only [mnF]; rewrite [show le + (l9 - le) = l9 by omega, mnS_e (mnF flo frm too ldr bor due plg price mk (acc, pap, clo, wai, proc, 0) le (l9 - le)) l9]; first | rfl | (rw [n_16]; rfl) | (rw [show (mnS flo frm too ldr bor due plg price mk ((mnF flo frm too ldr bor due plg price mk (acc, pap, clo, wai, proc, 0) le (l9 - le)).1, (mnF flo frm too ldr bor due plg price mk (acc, pap, clo, wai, proc, 0) le (l9 - le)).2.1, (mnF flo frm too ldr bor due plg price mk (acc, pap, clo, wai, proc, 0) le (l9 - le)).2.2.1, (mnF flo frm too ldr bor due plg price mk (acc, pap, clo, wai, proc, 0) le (l9 - le)).2.2.2.1, (mnF flo frm too ldr bor due plg price mk (acc, pap, clo, wai, proc, 0) le (l9 - le)).2.2.2.2.1, 0) l9).2.2.2.2.2 = 1 by omega])) ?_
                  exact ih_7 (l9 + 1) (upd o9 l9 0) (by omega) (by first | assumption | omega) (by exact opn_s2 ho1) (by exact opn_s3 ho2)
                · skip
                  have n_17 : ¬ ((mnS flo frm too ldr bor due plg price mk (((mnF flo frm too ldr bor due plg price mk (acc, pap, clo, wai, proc, 0) le (l9 - le)).1), ((mnF flo frm too ldr bor due plg price mk (acc, pap, clo, wai, proc, 0) le (l9 - le)).2.1), ((mnF flo frm too ldr bor due plg price mk (acc, pap, clo, wai, proc, 0) le (l9 - le)).2.2.1), ((mnF flo frm too ldr bor due plg price mk (acc, pap, clo, wai, proc, 0) le (l9 - le)).2.2.2.1), ((mnF flo frm too ldr bor due plg price mk (acc, pap, clo, wai, proc, 0) le (l9 - le)).2.2.2.2.1), 0) l9).2.2.2.2.2) = 0 := fun q => c53_15 ((nI_eq (a := (mnS flo frm too ldr bor due plg price mk (((mnF flo frm too ldr bor due plg price mk (acc, pap, clo, wai, proc, 0) le (l9 - le)).1), ((mnF flo frm too ldr bor due plg price mk (acc, pap, clo, wai, proc, 0) le (l9 - le)).2.1), ((mnF flo frm too ldr bor due plg price mk (acc, pap, clo, wai, proc, 0) le (l9 - le)).2.2.1), ((mnF flo frm too ldr bor due plg price mk (acc, pap, clo, wai, proc, 0) le (l9 - le)).2.2.2.1), ((mnF flo frm too ldr bor due plg price mk (acc, pap, clo, wai, proc, 0) le (l9 - le)).2.2.2.2.1), 0) l9).2.2.2.2.2) (b := 0) (by omega) (by omega)).mpr q)
                  refine z_iconst C (v := 1) dX5_morning_56 (by decide) ?_
                  refine z_goto C (tgt := 61) dX5_morning_57 (by decide) ?_
                  refine z_iadd C (v := (nI (((mnF flo frm too ldr bor due plg price mk (acc, pap, clo, wai, proc, 0) le (l9 - le)).2.2.2.2.2) + 1))) dX5_morning_61 (nI_add ((mnF flo frm too ldr bor due plg price mk (acc, pap, clo, wai, proc, 0) le (l9 - le)).2.2.2.2.2) 1) ?_
                  refine z_istore_n C dX5_morning_62 rfl (by decide) [(0, .ref (md 0)), (1, .int (nI (((mnF flo frm too ldr bor due plg price mk (acc, pap, clo, wai, proc, 0) le (l9 - le)).2.2.2.2.2) + 1))), (2, .int (nI l9))] [1, 0, 2] rfl ?_
                  refine z_iinc C (v := (nI (l9 + 1))) dX5_morning_63 2 rfl (nI_add l9 1) (by decide) [(0, .ref (md 0)), (1, .int (nI (((mnF flo frm too ldr bor due plg price mk (acc, pap, clo, wai, proc, 0) le (l9 - le)).2.2.2.2.2) + 1))), (2, .int (nI (l9 + 1)))] [1, 2, 0] rfl ?_
                  refine z_goto C (tgt := 30) dX5_morning_66 (by decide) ?_
                  refine z_ws (wM md cI cZ ((mnF flo frm too ldr bor due plg price mk (acc, pap, clo, wai, proc, 0) le ((l9 + 1) - le)).1) flo ((mnF flo frm too ldr bor due plg price mk (acc, pap, clo, wai, proc, 0) le ((l9 + 1) - le)).2.1) ((mnF flo frm too ldr bor due plg price mk (acc, pap, clo, wai, proc, 0) le ((l9 + 1) - le)).2.2.1) (clrN net i) bnd frm too amt pri ((mnF flo frm too ldr bor due plg price mk (acc, pap, clo, wai, proc, 0) le ((l9 + 1) - le)).2.2.2.1) fst ldr bor lnt rat plg (upd o9 l9 0) (nI mk) small (nI lm) price cut ((mnF flo frm too ldr bor due plg price mk (acc, pap, clo, wai, proc, 0) le ((l9 + 1) - le)).2.2.2.2.1) 0) (by rw [show l9 + 1 - le = l9 - le + 1 by omega]; simp only [mnF]; rewrite [show le + (l9 - le) = l9 by omega, mnS_e (mnF flo frm too ldr bor due plg price mk (acc, pap, clo, wai, proc, 0) le (l9 - le)) l9]; first | rfl | (rw [n_17]; rfl) | (rw [show (mnS flo frm too ldr bor due plg price mk ((mnF flo frm too ldr bor due plg price mk (acc, pap, clo, wai, proc, 0) le (l9 - le)).1, (mnF flo frm too ldr bor due plg price mk (acc, pap, clo, wai, proc, 0) le (l9 - le)).2.1, (mnF flo frm too ldr bor due plg price mk (acc, pap, clo, wai, proc, 0) le (l9 - le)).2.2.1, (mnF flo frm too ldr bor due plg price mk (acc, pap, clo, wai, proc, 0) le (l9 - le)).2.2.2.1, (mnF flo frm too ldr bor due plg price mk (acc, pap, clo, wai, proc, 0) le (l9 - le)).2.2.2.2.1, 0) l9).2.2.2.2.2 = 1 by omega])) ?_
                  refine z_lveq [(0, .ref (md 0)), (1, .int (nI ((mnF flo frm too ldr bor due plg price mk (acc, pap, clo, wai, proc, 0) le ((l9 + 1) - le)).2.2.2.2.2))), (2, .int (nI (l9 + 1)))] (by rw [show l9 + 1 - le = l9 - le + 1 by omega]; simp only [mnF]; rewrite [show le + (l9 - le) = l9 by omega, mnS_e (mnF flo frm too ldr bor due plg price mk (acc, pap, clo, wai, proc, 0) le (l9 - le)) l9]; first | rfl | (rw [n_17]; rfl) | (rw [show (mnS flo frm too ldr bor due plg price mk ((mnF flo frm too ldr bor due plg price mk (acc, pap, clo, wai, proc, 0) le (l9 - le)).1, (mnF flo frm too ldr bor due plg price mk (acc, pap, clo, wai, proc, 0) le (l9 - le)).2.1, (mnF flo frm too ldr bor due plg price mk (acc, pap, clo, wai, proc, 0) le (l9 - le)).2.2.1, (mnF flo frm too ldr bor due plg price mk (acc, pap, clo, wai, proc, 0) le (l9 - le)).2.2.2.1, (mnF flo frm too ldr bor due plg price mk (acc, pap, clo, wai, proc, 0) le (l9 - le)).2.2.2.2.1, 0) l9).2.2.2.2.2 = 1 by omega])) ?_
                  exact ih_7 (l9 + 1) (upd o9 l9 0) (by omega) (by first | assumption | omega) (by exact opn_s2 ho1) (by exact opn_s3 ho2)
        refine z_ws (wM md cI cZ ((mnF flo frm too ldr bor due plg price mk (acc, pap, clo, wai, proc, 0) le (0 - le)).1) flo ((mnF flo frm too ldr bor due plg price mk (acc, pap, clo, wai, proc, 0) le (0 - le)).2.1) ((mnF flo frm too ldr bor due plg price mk (acc, pap, clo, wai, proc, 0) le (0 - le)).2.2.1) (clrN net i) bnd frm too amt pri ((mnF flo frm too ldr bor due plg price mk (acc, pap, clo, wai, proc, 0) le (0 - le)).2.2.2.1) fst ldr bor lnt rat plg opn (nI mk) small (nI lm) price cut ((mnF flo frm too ldr bor due plg price mk (acc, pap, clo, wai, proc, 0) le (0 - le)).2.2.2.2.1) 0) (by rw [show i = 25 by omega, Nat.zero_sub]; rfl) ?_
        refine z_lveq [(0, .ref (md 0)), (1, .int (nI ((mnF flo frm too ldr bor due plg price mk (acc, pap, clo, wai, proc, 0) le (0 - le)).2.2.2.2.2))), (2, .int (nI 0))] (by rw [Nat.zero_sub]; rfl) ?_
        exact L30_k_6 (lm - 0 + 1) 0 opn (Nat.lt_succ_self _) (by first | assumption | omega) (by intro j hj; omega) (by exact fun j _ h2 => hopn j h2)
      · skip
        have n_18 : ¬ 25 ≤ i := fun q => c10_4 ((nI_leI (a := 25) (b := i) (by omega) (by omega)).mpr q)
        refine z_aload_n C dX5_morning_13 rfl 0 rfl ?_
        refine z_get C 0 rfl i_X5_morning_X5 rfl 4 (by decide) m_X5_morning_f23 rfl rfl dX5_morning_14 ?_
        refine z_iload_n C dX5_morning_17 rfl 1 rfl ?_
        refine z_iconst C (v := 0) dX5_morning_18 (by decide) ?_
        refine z_iast C 5 0 rfl rfl i (nI_clamp (by omega)) (vp_in_nI (by omega) (by omega)) 0 rfl dX5_morning_19 (wM md cI cZ acc flo pap clo (upd (clrN net i) i 0) bnd frm too amt pri wai fst ldr bor lnt rat plg opn (nI mk) small (nI lm) price cut proc 0) rfl ?_
        refine z_iinc C (v := (nI (i + 1))) dX5_morning_20 1 rfl (nI_add i 1) (by decide) [(0, .ref (md 0)), (1, .int (nI (i + 1)))] [1, 0] rfl ?_
        refine z_goto C (tgt := 7) dX5_morning_23 (by decide) ?_
        refine z_ws (wM md cI cZ acc flo pap clo (clrN net (i + 1)) bnd frm too amt pri wai fst ldr bor lnt rat plg opn (nI mk) small (nI lm) price cut proc 0) (by rw [clrN_s]) ?_
        exact ih_2 (i + 1) (by omega) (by first | assumption | omega)
  refine z_ws (wM md cI cZ acc flo pap clo (clrN net 0) bnd frm too amt pri wai fst ldr bor lnt rat plg opn (nI mk) small (nI lm) price cut proc 0) (by rw [clrN_0]) ?_
  refine z_lveq [(0, .ref (md 0)), (1, .int (nI 0))] (by rfl) ?_
  exact L7_k_1 (25 - 0 + 1) 0 (Nat.lt_succ_self _) (by first | assumption | omega)
