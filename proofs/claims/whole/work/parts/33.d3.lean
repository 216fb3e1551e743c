theorem m_X5_goTogether_f48 : Cond.fieldLink RX5 48 "QueuefloatModel" "first" "[I" ∈ wsX5_goTogether := by decide +kernel
theorem i_X5_goTogether_X5 : ∀ w ∈ wsX50, w ∈ wsX5_goTogether := by decide +kernel
theorem m_X5_run_f76 : Cond.fieldLink RX5 76 "QueuefloatModel" "thrown" "I" ∈ wsX5_run := by decide +kernel
theorem i_X5_run_X5 : ∀ w ∈ wsX50, w ∈ wsX5_run := by decide +kernel
theorem m_X5_moveSet_f79 : Cond.fieldLink RX5 79 "QueuefloatModel" "payments" "I" ∈ wsX5_moveSet := by decide +kernel
theorem i_X5_moveSet_X5 : ∀ w ∈ wsX50, w ∈ wsX5_moveSet := by decide +kernel
theorem m_X5_moveSet_f41 : Cond.fieldLink RX5 41 "QueuefloatModel" "isWaiting" "[Z" ∈ wsX5_moveSet := by decide +kernel
set_option maxHeartbeats 4000000 in
set_option maxRecDepth 100000 in
theorem m_goTogether (l : Launch) (sa : Nat → Nat) (D : va_G) (cI cZ cL : ClassId) (md : Nat → Nat) (acc flo pap clo net bnd frm too amt pri wai fst ldr bor lnt rat plg opn : Nat → Int32) (small price cut proc thr : Int32) (mk lm : Nat)  (hmk : mk ≤ 60) (hfrm : wf5 mk frm) (htoo : wf5 mk too) : zMi (T := Nat → Int32) sa D vwCl (zty cI cZ cL) l yX5_goTogether wsX5_goTogether ({ frames := 3, cells := 0, slots := 0, locals := 70 } : Room) [.ref (md 0)] (wM md cI cZ acc flo pap clo net bnd frm too amt pri wai fst ldr bor lnt rat plg opn (nI mk) small (nI lm) price cut proc thr) (fun r9 u => r9 = (nI ((togF (ordL pri mk) flo bnd frm too amt acc net wai).2.2.2))) (fun u => (wM md cI cZ ((togF (ordL pri mk) flo bnd frm too amt acc net wai).1) flo pap clo ((togF (ordL pri mk) flo bnd frm too amt acc net wai).2.1) bnd frm too amt pri ((togF (ordL pri mk) flo bnd frm too amt acc net wai).2.2.1) u ldr bor lnt rat plg opn (nI mk) small (nI lm) price cut proc thr)) 0 0 := by
  refine zMi.of (ret := (some .int)) (cc := cX5_goTogether) (nL := 8) (own := RX5) (by decide +kernel) rfl [(0, .ref (md 0))] rfl (Nat.le_of_ble_eq_true rfl) rfl ?_
  intro A p e s m args below meth c C hmn
  refine z_iconst C (v := 0) dX5_goTogether_0 (by decide) ?_
  refine z_istore_n C dX5_goTogether_1 rfl (by decide) [(0, .ref (md 0)), (1, .int 0)] [1, 0] rfl ?_
  refine z_iconst C (v := 0) dX5_goTogether_2 (by decide) ?_
  refine z_istore_n C dX5_goTogether_3 rfl (by decide) [(0, .ref (md 0)), (1, .int 0), (2, .int 0)] [1, 2, 0] rfl ?_
  refine z_iconst C (v := 1) dX5_goTogether_4 (by decide) ?_
  refine z_istore_n C dX5_goTogether_5 rfl (by decide) [(0, .ref (md 0)), (1, .int 0), (2, .int 0), (3, .int 1)] [1, 2, 3, 0] rfl ?_
  have L6_k_1 : ∀ (n : Nat) (s9 : Nat) (f9 : Nat → Int32), 32 - s9 < n → (s9 ≤ 32) → (1 ≤ s9) → zW p l e ({ frames := 3, cells := 0, slots := 0, locals := 70 } : Room) s m args below meth c (MQ below (zQi (T := Nat → Int32) D vwCl (zty cI cZ cL) A (fun r9 u => r9 = (nI ((togF (ordL pri mk) flo bnd frm too amt acc net wai).2.2.2))) (fun u => (wM md cI cZ ((togF (ordL pri mk) flo bnd frm too amt acc net wai).1) flo pap clo ((togF (ordL pri mk) flo bnd frm too amt acc net wai).2.1) bnd frm too amt pri ((togF (ordL pri mk) flo bnd frm too amt acc net wai).2.2.1) u ldr bor lnt rat plg opn (nI mk) small (nI lm) price cut proc thr))) args s 0 0 A) D vwCl A 8 0 0 (wM md cI cZ acc flo pap clo net bnd frm too amt pri wai f9 ldr bor lnt rat plg opn (nI mk) small (nI lm) price cut proc thr) [(0, .ref (md 0)), (1, .int (nI (bestS (okS frm too amt flo bnd (fcnQ (ordL pri mk) wai frm) 5 acc net) s9))), (2, .int (nI (pc5 (bestS (okS frm too amt flo bnd (fcnQ (ordL pri mk) wai frm) 5 acc net) s9)))), (3, .int (nI s9))] 6 [] := by
    intro n
    induction n with
    | zero => intros; omega
    | succ n ih_2 =>
      intro s9 f9 hm_3 hs hs1
      have hb9 := bestS_lt1 (okS frm too amt flo bnd (fcnQ (ordL pri mk) wai frm) 5 acc net) s9 hs1
      have hp9 := pc5_le (bestS (okS frm too amt flo bnd (fcnQ (ordL pri mk) wai frm) 5 acc net) s9)
      refine z_iload_n C dX5_goTogether_6 rfl 3 rfl ?_
      refine z_bipush C (v := 32) dX5_goTogether_7 (by decide) ?_
      refine z_icmp_ge C (tgt := 123) dX5_goTogether_9 (by decide) (fun c9_4 => ?_) (fun c9_4 => ?_)
      · skip
        have n_5 : 32 ≤ s9 := (nI_leI (a := 32) (b := s9) (by omega) (by omega)).mp c9_4
        refine z_aload_n C dX5_goTogether_123 rfl 0 rfl ?_
        refine z_iload_n C dX5_goTogether_124 rfl 1 rfl ?_
        refine z_callVv C (T := Unit) (As := [.int (nI (bestS (okS frm too amt flo bnd (fcnQ (ordL pri mk) wai frm) 5 acc net) s9))]) (rest := []) (ws' := fun _ => (wM md cI cZ acc flo pap clo net bnd frm too amt pri wai (frsF (fcnQ (ordL pri mk) wai frm) (bestS (okS frm too amt flo bnd (fcnQ (ordL pri mk) wai frm) 5 acc net) s9) f9 5) ldr bor lnt rat plg opn (nI mk) small (nI lm) price cut proc thr)) (m_firsts l sa D cI cZ cL md acc flo pap clo net bnd frm too amt pri wai f9 ldr bor lnt rat plg opn small price cut proc thr mk lm (bestS (okS frm too amt flo bnd (fcnQ (ordL pri mk) wai frm) 5 acc net) s9) (by first | assumption | omega) (by first | assumption | omega) (by first | assumption | omega) (by first | assumption | omega)) (cwV 1 C.2.2.2.2.1 gX5_goTogether_X5_firsts rfl rfl rfl (by decide +kernel) ⟨Nat.le_of_ble_eq_true rfl, Nat.le_of_ble_eq_true rfl⟩) 0 rfl rfl rfl (fun _ => zSub.full) zIn.full rfl (Nat.le_of_ble_eq_true rfl) ⟨Nat.le_of_ble_eq_true rfl, Nat.le_of_ble_eq_true rfl⟩ dX5_goTogether_125 (fun _ _ => ?_)
        refine z_iconst C (v := 0) dX5_goTogether_128 (by decide) ?_
        refine z_istore_n C dX5_goTogether_129 rfl (by decide) [(0, .ref (md 0)), (1, .int (nI (bestS (okS frm too amt flo bnd (fcnQ (ordL pri mk) wai frm) 5 acc net) s9))), (2, .int (nI (pc5 (bestS (okS frm too amt flo bnd (fcnQ (ordL pri mk) wai frm) 5 acc net) s9)))), (3, .int 0)] [1, 2, 3, 0] rfl ?_
        have L130_k_6 : ∀ (n : Nat) (m9 : Nat), 5 - m9 < n → (m9 ≤ 5) → zW p l e ({ frames := 3, cells := 0, slots := 0, locals := 70 } : Room) s m args below meth c (MQ below (zQi (T := Nat → Int32) D vwCl (zty cI cZ cL) A (fun r9 u => r9 = (nI ((togF (ordL pri mk) flo bnd frm too amt acc net wai).2.2.2))) (fun u => (wM md cI cZ ((togF (ordL pri mk) flo bnd frm too amt acc net wai).1) flo pap clo ((togF (ordL pri mk) flo bnd frm too amt acc net wai).2.1) bnd frm too amt pri ((togF (ordL pri mk) flo bnd frm too amt acc net wai).2.2.1) u ldr bor lnt rat plg opn (nI mk) small (nI lm) price cut proc thr))) args s 0 0 A) D vwCl A 8 0 0 (wM md cI cZ ((snB frm too amt (fcnQ (ordL pri mk) wai frm) (bestS (okS frm too amt flo bnd (fcnQ (ordL pri mk) wai frm) 5 acc net) s9) acc net wai m9).1) flo pap clo ((snB frm too amt (fcnQ (ordL pri mk) wai frm) (bestS (okS frm too amt flo bnd (fcnQ (ordL pri mk) wai frm) 5 acc net) s9) acc net wai m9).2.1) bnd frm too amt pri ((snB frm too amt (fcnQ (ordL pri mk) wai frm) (bestS (okS frm too amt flo bnd (fcnQ (ordL pri mk) wai frm) 5 acc net) s9) acc net wai m9).2.2) (frsF (fcnQ (ordL pri mk) wai frm) (bestS (okS frm too amt flo bnd (fcnQ (ordL pri mk) wai frm) 5 acc net) s9) f9 5) ldr bor lnt rat plg opn (nI mk) small (nI lm) price cut proc thr) [(0, .ref (md 0)), (1, .int (nI (bestS (okS frm too amt flo bnd (fcnQ (ordL pri mk) wai frm) 5 acc net) s9))), (2, .int (nI (pc5 (bestS (okS frm too amt flo bnd (fcnQ (ordL pri mk) wai frm) 5 acc net) s9)))), (3, .int (nI m9))] 130 [] := by
          intro n
          induction n with
          | zero => intros; omega
          | succ n ih_7 =>
            intro m9 hm_8 hm9
            refine z_iload_n C dX5_goTogether_130 rfl 3 rfl ?_
            refine z_iconst C (v := 5) dX5_goTogether_131 (by decide) ?_
            refine z_icmp_ge C (tgt := 161) dX5_goTogether_132 (by decide) (fun c132_9 => ?_) (fun c132_9 => ?_)
            · skip
              have n_10 : 5 ≤ m9 := (nI_leI (a := 5) (b := m9) (by omega) (by omega)).mp c132_9
              refine z_iload_n C dX5_goTogether_161 rfl 2 rfl ?_
              exact z_iret C (frsF (fcnQ (ordL pri mk) wai frm) (bestS (okS frm too amt flo bnd (fcnQ (ordL pri mk) wai frm) 5 acc net) s9) f9 5) (by obtain rfl : s9 = 32 := (by omega); rfl) (by obtain rfl : s9 = 32 := (by omega); obtain rfl : m9 = 5 := (by omega); rfl) (by decide) (by decide) dX5_goTogether_162
            · skip
              have n_11 : ¬ 5 ≤ m9 := fun q => c132_9 ((nI_leI (a := 5) (b := m9) (by omega) (by omega)).mpr q)
              refine z_aload_n C dX5_goTogether_135 rfl 0 rfl ?_
              refine z_get C 0 rfl i_X5_goTogether_X5 rfl 13 (by decide) m_X5_goTogether_f48 rfl rfl dX5_goTogether_136 ?_
              refine z_iload_n C dX5_goTogether_139 rfl 3 rfl ?_
              rcases hq_12 : inS (fcnQ (ordL pri mk) wai frm) (bestS (okS frm too amt flo bnd (fcnQ (ordL pri mk) wai frm) 5 acc net) s9) m9 with _ | p_13
              · skip
                refine z_iald C 12 0 rfl rfl m9 (nI_clamp (by omega)) (vp_in_nI (by omega) (by omega)) (-1) ((frsF_at (by omega)).trans (by rw [hq_12]; rfl)) dX5_goTogether_140 ?_
                refine z_iconst C (v := (-1)) dX5_goTogether_141 (by decide) ?_
                refine z_icmp_eq C (tgt := 155) dX5_goTogether_142 (by decide) (fun _ => ?_) (fun h => absurd h (by decide))
                refine z_iinc C (v := (nI (m9 + 1))) dX5_goTogether_155 3 rfl (nI_add m9 1) (by decide) [(0, .ref (md 0)), (1, .int (nI (bestS (okS frm too amt flo bnd (fcnQ (ordL pri mk) wai frm) 5 acc net) s9))), (2, .int (nI (pc5 (bestS (okS frm too amt flo bnd (fcnQ (ordL pri mk) wai frm) 5 acc net) s9)))), (3, .int (nI (m9 + 1)))] [1, 2, 3, 0] rfl ?_
                refine z_goto C (tgt := 130) dX5_goTogether_158 (by decide) ?_
                refine z_ws (wM md cI cZ ((snB frm too amt (fcnQ (ordL pri mk) wai frm) (bestS (okS frm too amt flo bnd (fcnQ (ordL pri mk) wai frm) 5 acc net) s9) acc net wai (m9 + 1)).1) flo pap clo ((snB frm too amt (fcnQ (ordL pri mk) wai frm) (bestS (okS frm too amt flo bnd (fcnQ (ordL pri mk) wai frm) 5 acc net) s9) acc net wai (m9 + 1)).2.1) bnd frm too amt pri ((snB frm too amt (fcnQ (ordL pri mk) wai frm) (bestS (okS frm too amt flo bnd (fcnQ (ordL pri mk) wai frm) 5 acc net) s9) acc net wai (m9 + 1)).2.2) (frsF (fcnQ (ordL pri mk) wai frm) (bestS (okS frm too amt flo bnd (fcnQ (ordL pri mk) wai frm) 5 acc net) s9) f9 5) ldr bor lnt rat plg opn (nI mk) small (nI lm) price cut proc thr) (by first | rw [snB_some (by assumption)] | rw [snB_none (by assumption)]) ?_
                exact ih_7 (m9 + 1) (by omega) (by first | assumption | omega)
              · skip
                have := inS_lt hq_12
                refine z_iald C 12 0 rfl rfl m9 (nI_clamp (by omega)) (vp_in_nI (by omega) (by omega)) (nI p_13) ((frsF_at (by omega)).trans (by rw [hq_12]; rfl)) dX5_goTogether_140 ?_
                refine z_iconst C (v := (-1)) dX5_goTogether_141 (by decide) ?_
                refine z_icmp_eq C (tgt := 155) dX5_goTogether_142 (by decide) (fun h => absurd h (nI_m1 (by omega))) (fun _ => ?_)
                refine z_aload_n C dX5_goTogether_145 rfl 0 rfl ?_
                refine z_aload_n C dX5_goTogether_146 rfl 0 rfl ?_
                refine z_get C 0 rfl i_X5_goTogether_X5 rfl 13 (by decide) m_X5_goTogether_f48 rfl rfl dX5_goTogether_147 ?_
                refine z_iload_n C dX5_goTogether_150 rfl 3 rfl ?_
                refine z_iald C 12 0 rfl rfl m9 (nI_clamp (by omega)) (vp_in_nI (by omega) (by omega)) (nI p_13) ((frsF_at (by omega)).trans (by rw [hq_12]; rfl)) dX5_goTogether_151 ?_
                refine z_callVv C (T := Unit) (As := [.int (nI p_13)]) (rest := []) (ws' := fun _ => (wM md cI cZ (mvA (ix (frm p_13)) (ix (too p_13)) (amt p_13) ((snB frm too amt (fcnQ (ordL pri mk) wai frm) (bestS (okS frm too amt flo bnd (fcnQ (ordL pri mk) wai frm) 5 acc net) s9) acc net wai m9).1)) flo pap clo (mvN (ix (frm p_13)) (ix (too p_13)) (amt p_13) ((snB frm too amt (fcnQ (ordL pri mk) wai frm) (bestS (okS frm too amt flo bnd (fcnQ (ordL pri mk) wai frm) 5 acc net) s9) acc net wai m9).2.1)) bnd frm too amt pri (upd ((snB frm too amt (fcnQ (ordL pri mk) wai frm) (bestS (okS frm too amt flo bnd (fcnQ (ordL pri mk) wai frm) 5 acc net) s9) acc net wai m9).2.2) p_13 0) (frsF (fcnQ (ordL pri mk) wai frm) (bestS (okS frm too amt flo bnd (fcnQ (ordL pri mk) wai frm) 5 acc net) s9) f9 5) ldr bor lnt rat plg opn (nI mk) small (nI lm) price cut proc thr)) (m_goes l sa D cI cZ cL md ((snB frm too amt (fcnQ (ordL pri mk) wai frm) (bestS (okS frm too amt flo bnd (fcnQ (ordL pri mk) wai frm) 5 acc net) s9) acc net wai m9).1) flo pap clo ((snB frm too amt (fcnQ (ordL pri mk) wai frm) (bestS (okS frm too amt flo bnd (fcnQ (ordL pri mk) wai frm) 5 acc net) s9) acc net wai m9).2.1) bnd frm too amt pri ((snB frm too amt (fcnQ (ordL pri mk) wai frm) (bestS (okS frm too amt flo bnd (fcnQ (ordL pri mk) wai frm) 5 acc net) s9) acc net wai m9).2.2) (frsF (fcnQ (ordL pri mk) wai frm) (bestS (okS frm too amt flo bnd (fcnQ (ordL pri mk) wai frm) 5 acc net) s9) f9 5) ldr bor lnt rat plg opn small price cut proc thr mk lm p_13 (by first | assumption | omega) (by first | assumption | omega) (by first | assumption | omega) (by first | assumption | omega)) (cwV 1 C.2.2.2.2.1 gX5_goTogether_X5_goes rfl rfl rfl (by decide +kernel) ⟨Nat.le_of_ble_eq_true rfl, Nat.le_of_ble_eq_true rfl⟩) 0 rfl rfl rfl (fun _ => zSub.full) zIn.full rfl (Nat.le_of_ble_eq_true rfl) ⟨Nat.le_of_ble_eq_true rfl, Nat.le_of_ble_eq_true rfl⟩ dX5_goTogether_152 (fun _ _ => ?_)
                refine z_iinc C (v := (nI (m9 + 1))) dX5_goTogether_155 3 rfl (nI_add m9 1) (by decide) [(0, .ref (md 0)), (1, .int (nI (bestS (okS frm too amt flo bnd (fcnQ (ordL pri mk) wai frm) 5 acc net) s9))), (2, .int (nI (pc5 (bestS (okS frm too amt flo bnd (fcnQ (ordL pri mk) wai frm) 5 acc net) s9)))), (3, .int (nI (m9 + 1)))] [1, 2, 3, 0] rfl ?_
                refine z_goto C (tgt := 130) dX5_goTogether_158 (by decide) ?_
                refine z_ws (wM md cI cZ ((snB frm too amt (fcnQ (ordL pri mk) wai frm) (bestS (okS frm too amt flo bnd (fcnQ (ordL pri mk) wai frm) 5 acc net) s9) acc net wai (m9 + 1)).1) flo pap clo ((snB frm too amt (fcnQ (ordL pri mk) wai frm) (bestS (okS frm too amt flo bnd (fcnQ (ordL pri mk) wai frm) 5 acc net) s9) acc net wai (m9 + 1)).2.1) bnd frm too amt pri ((snB frm too amt (fcnQ (ordL pri mk) wai frm) (bestS (okS frm too amt flo bnd (fcnQ (ordL pri mk) wai frm) 5 acc net) s9) acc net wai (m9 + 1)).2.2) (frsF (fcnQ (ordL pri mk) wai frm) (bestS (okS frm too amt flo bnd (fcnQ (ordL pri mk) wai frm) 5 acc net) s9) f9 5) ldr bor lnt rat plg opn (nI mk) small (nI lm) price cut proc thr) (by first | rw [snB_some (by assumption)] | rw [snB_none (by assumption)]) ?_
                exact ih_7 (m9 + 1) (by omega) (by first | assumption | omega)
        refine z_ws (wM md cI cZ ((snB frm too amt (fcnQ (ordL pri mk) wai frm) (bestS (okS frm too amt flo bnd (fcnQ (ordL pri mk) wai frm) 5 acc net) s9) acc net wai 0).1) flo pap clo ((snB frm too amt (fcnQ (ordL pri mk) wai frm) (bestS (okS frm too amt flo bnd (fcnQ (ordL pri mk) wai frm) 5 acc net) s9) acc net wai 0).2.1) bnd frm too amt pri ((snB frm too amt (fcnQ (ordL pri mk) wai frm) (bestS (okS frm too amt flo bnd (fcnQ (ordL pri mk) wai frm) 5 acc net) s9) acc net wai 0).2.2) (frsF (fcnQ (ordL pri mk) wai frm) (bestS (okS frm too amt flo bnd (fcnQ (ordL pri mk) wai frm) 5 acc net) s9) f9 5) ldr bor lnt rat plg opn (nI mk) small (nI lm) price cut proc thr) (by rfl) ?_
        refine z_lveq [(0, .ref (md 0)), (1, .int (nI (bestS (okS frm too amt flo bnd (fcnQ (ordL pri mk) wai frm) 5 acc net) s9))), (2, .int (nI (pc5 (bestS (okS frm too amt flo bnd (fcnQ (ordL pri mk) wai frm) 5 acc net) s9)))), (3, .int (nI 0))] (by rfl) ?_
        exact L130_k_6 (5 - 0 + 1) 0 (Nat.lt_succ_self _) (by first | assumption | omega)
      · skip
        have n_14 : ¬ 32 ≤ s9 := fun q => c9_4 ((nI_leI (a := 32) (b := s9) (by omega) (by omega)).mpr q)
        refine z_iconst C (v := 0) dX5_goTogether_12 (by decide) ?_
        refine z_istore C dX5_goTogether_13 (by decide) [(0, .ref (md 0)), (1, .int (nI (bestS (okS frm too amt flo bnd (fcnQ (ordL pri mk) wai frm) 5 acc net) s9))), (2, .int (nI (pc5 (bestS (okS frm too amt flo bnd (fcnQ (ordL pri mk) wai frm) 5 acc net) s9)))), (3, .int (nI s9)), (4, .int 0)] [1, 2, 3, 4, 0] rfl ?_
        refine z_iconst C (v := 1) dX5_goTogether_15 (by decide) ?_
        refine z_istore C dX5_goTogether_16 (by decide) [(0, .ref (md 0)), (1, .int (nI (bestS (okS frm too amt flo bnd (fcnQ (ordL pri mk) wai frm) 5 acc net) s9))), (2, .int (nI (pc5 (bestS (okS frm too amt flo bnd (fcnQ (ordL pri mk) wai frm) 5 acc net) s9)))), (3, .int (nI s9)), (4, .int 0), (5, .int 1)] [1, 2, 3, 4, 5, 0] rfl ?_
        refine z_iconst C (v := 0) dX5_goTogether_18 (by decide) ?_
        refine z_istore C dX5_goTogether_19 (by decide) [(0, .ref (md 0)), (1, .int (nI (bestS (okS frm too amt flo bnd (fcnQ (ordL pri mk) wai frm) 5 acc net) s9))), (2, .int (nI (pc5 (bestS (okS frm too amt flo bnd (fcnQ (ordL pri mk) wai frm) 5 acc net) s9)))), (3, .int (nI s9)), (4, .int 0), (5, .int 1), (6, .int 0)] [1, 2, 3, 4, 5, 6, 0] rfl ?_
        have L21_k_15 : ∀ (n : Nat) (w9 j : Nat), 5 - j < n → (j ≤ 5) → (w9 ≤ 1) → (w9 = 1 ↔ ∀ k, k < j → s9.testBit k = true → ¬ (fcnQ (ordL pri mk) wai frm) k = none) → zW p l e ({ frames := 3, cells := 0, slots := 0, locals := 70 } : Room) s m args below meth c (MQ below (zQi (T := Nat → Int32) D vwCl (zty cI cZ cL) A (fun r9 u => r9 = (nI ((togF (ordL pri mk) flo bnd frm too amt acc net wai).2.2.2))) (fun u => (wM md cI cZ ((togF (ordL pri mk) flo bnd frm too amt acc net wai).1) flo pap clo ((togF (ordL pri mk) flo bnd frm too amt acc net wai).2.1) bnd frm too amt pri ((togF (ordL pri mk) flo bnd frm too amt acc net wai).2.2.1) u ldr bor lnt rat plg opn (nI mk) small (nI lm) price cut proc thr))) args s 0 0 A) D vwCl A 8 0 0 (wM md cI cZ acc flo pap clo net bnd frm too amt pri wai f9 ldr bor lnt rat plg opn (nI mk) small (nI lm) price cut proc thr) [(0, .ref (md 0)), (1, .int (nI (bestS (okS frm too amt flo bnd (fcnQ (ordL pri mk) wai frm) 5 acc net) s9))), (2, .int (nI (pc5 (bestS (okS frm too amt flo bnd (fcnQ (ordL pri mk) wai frm) 5 acc net) s9)))), (3, .int (nI s9)), (4, .int (nI (pcU s9 j))), (5, .int (nI w9)), (6, .int (nI j))] 21 [] := by
          intro n
          induction n with
          | zero => intros; omega
          | succ n ih_16 =>
            intro w9 j hm_17 hj hw1 hw
            have hu9 := pcU_le s9 j
            refine z_iload C dX5_goTogether_21 6 rfl ?_
            refine z_iconst C (v := 5) dX5_goTogether_23 (by decide) ?_
            refine z_icmp_ge C (tgt := 93) dX5_goTogether_24 (by decide) (fun c24_18 => ?_) (fun c24_18 => ?_)
            · skip
              have n_19 : 5 ≤ j := (nI_leI (a := 5) (b := j) (by omega) (by omega)).mp c24_18
              refine z_iload C dX5_goTogether_93 5 rfl ?_
              refine z_if_eq C (tgt := 117) dX5_goTogether_95 (by decide) (fun c95_20 => ?_) (fun c95_20 => ?_)
              · skip
                have n_21 : w9 = 0 := (nI_eq (a := w9) (b := 0) (by omega) (by omega)).mp c95_20
                refine z_iinc C (v := (nI (s9 + 1))) dX5_goTogether_117 3 rfl (nI_add s9 1) (by decide) [(0, .ref (md 0)), (1, .int (nI (bestS (okS frm too amt flo bnd (fcnQ (ordL pri mk) wai frm) 5 acc net) s9))), (2, .int (nI (pc5 (bestS (okS frm too amt flo bnd (fcnQ (ordL pri mk) wai frm) 5 acc net) s9)))), (3, .int (nI (s9 + 1))), (4, .int (nI (pcU s9 j))), (5, .int (nI w9)), (6, .int (nI j))] [1, 2, 3, 0, 4, 5, 6] rfl ?_
                refine z_goto C (tgt := 6) dX5_goTogether_120 (by decide) ?_
                refine z_lv [(0, .ref (md 0)), (1, .int (nI (bestS (okS frm too amt flo bnd (fcnQ (ordL pri mk) wai frm) 5 acc net) s9))), (2, .int (nI (pc5 (bestS (okS frm too amt flo bnd (fcnQ (ordL pri mk) wai frm) 5 acc net) s9)))), (3, .int (nI (s9 + 1)))] [0, 1, 2, 3] rfl ?_
                refine z_lveq [(0, .ref (md 0)), (1, .int (nI (bestS (okS frm too amt flo bnd (fcnQ (ordL pri mk) wai frm) 5 acc net) (s9 + 1)))), (2, .int (nI (pc5 (bestS (okS frm too amt flo bnd (fcnQ (ordL pri mk) wai frm) 5 acc net) (s9 + 1))))), (3, .int (nI (s9 + 1)))] (by obtain rfl : j = 5 := (by omega); rw [bestS_n2 (okS_miss (fun q => by have := hw.mpr q; omega))]) ?_
                exact ih_2 (s9 + 1) f9 (by omega) (by first | assumption | omega) (by first | assumption | omega)
              · skip
                have n_22 : ¬ w9 = 0 := fun q => c95_20 ((nI_eq (a := w9) (b := 0) (by omega) (by omega)).mpr q)
                refine z_iload C dX5_goTogether_98 4 rfl ?_
                refine z_iload_n C dX5_goTogether_100 rfl 2 rfl ?_
                refine z_icmp_le C (tgt := 117) dX5_goTogether_101 (by decide) (fun c101_23 => ?_) (fun c101_23 => ?_)
                · skip
                  have n_24 : (pcU s9 j) ≤ (pc5 (bestS (okS frm too amt flo bnd (fcnQ (ordL pri mk) wai frm) 5 acc net) s9)) := (nI_leI (a := pcU s9 j) (b := pc5 (bestS (okS frm too amt flo bnd (fcnQ (ordL pri mk) wai frm) 5 acc net) s9)) (by omega) (by omega)).mp c101_23
                  refine z_iinc C (v := (nI (s9 + 1))) dX5_goTogether_117 3 rfl (nI_add s9 1) (by decide) [(0, .ref (md 0)), (1, .int (nI (bestS (okS frm too amt flo bnd (fcnQ (ordL pri mk) wai frm) 5 acc net) s9))), (2, .int (nI (pc5 (bestS (okS frm too amt flo bnd (fcnQ (ordL pri mk) wai frm) 5 acc net) s9)))), (3, .int (nI (s9 + 1))), (4, .int (nI (pcU s9 j))), (5, .int (nI w9)), (6, .int (nI j))] [1, 2, 3, 0, 4, 5, 6] rfl ?_
                  refine z_goto C (tgt := 6) dX5_goTogether_120 (by decide) ?_
                  refine z_lv [(0, .ref (md 0)), (1, .int (nI (bestS (okS frm too amt flo bnd (fcnQ (ordL pri mk) wai frm) 5 acc net) s9))), (2, .int (nI (pc5 (bestS (okS frm too amt flo bnd (fcnQ (ordL pri mk) wai frm) 5 acc net) s9)))), (3, .int (nI (s9 + 1)))] [0, 1, 2, 3] rfl ?_
                  refine z_lveq [(0, .ref (md 0)), (1, .int (nI (bestS (okS frm too amt flo bnd (fcnQ (ordL pri mk) wai frm) 5 acc net) (s9 + 1)))), (2, .int (nI (pc5 (bestS (okS frm too amt flo bnd (fcnQ (ordL pri mk) wai frm) 5 acc net) (s9 + 1))))), (3, .int (nI (s9 + 1)))] (by obtain rfl : j = 5 := (by omega); rw [bestS_n1 (show pc5 s9 ≤ pc5 (bestS (okS frm too amt flo bnd (fcnQ (ordL pri mk) wai frm) 5 acc net) s9) from n_24)]) ?_
                  exact ih_2 (s9 + 1) f9 (by omega) (by first | assumption | omega) (by first | assumption | omega)
                · skip
                  have n_25 : ¬ (pcU s9 j) ≤ (pc5 (bestS (okS frm too amt flo bnd (fcnQ (ordL pri mk) wai frm) 5 acc net) s9)) := fun q => c101_23 ((nI_leI (a := pcU s9 j) (b := pc5 (bestS (okS frm too amt flo bnd (fcnQ (ordL pri mk) wai frm) 5 acc net) s9)) (by omega) (by omega)).mpr q)
                  refine z_aload_n C dX5_goTogether_104 rfl 0 rfl ?_
                  refine z_iload_n C dX5_goTogether_105 rfl 3 rfl ?_
                  refine z_case (okS frm too amt flo bnd (fcnQ (ordL pri mk) wai frm) 5 acc net s9 = true) (fun hp_26 => ?_) (fun hp_26 => ?_)
                  · skip
                    refine z_callVi C (T := Unit) (As := [.int (nI s9)]) (rest := []) (ws' := fun _ => (wM md cI cZ acc flo pap clo net bnd frm too amt pri wai (frsF (fcnQ (ordL pri mk) wai frm) s9 f9 5) ldr bor lnt rat plg opn (nI mk) small (nI lm) price cut proc thr)) (m_isSet l sa D cI cZ cL md acc flo pap clo net bnd frm too amt pri wai f9 ldr bor lnt rat plg opn small price cut proc thr mk lm s9 (by first | assumption | omega) (by have e5 : j = 5 := (by omega); rw [e5] at hw; exact hw.mp (by omega)) (by first | assumption | omega) (by first | assumption | omega) (by first | assumption | omega)) (cwV 1 C.2.2.2.2.1 gX5_goTogether_X5_isSet rfl rfl rfl (by decide +kernel) ⟨Nat.le_of_ble_eq_true rfl, Nat.le_of_ble_eq_true rfl⟩) 0 rfl rfl rfl (fun _ => zSub.full) zIn.full rfl (Nat.le_of_ble_eq_true rfl) ⟨Nat.le_of_ble_eq_true rfl, Nat.le_of_ble_eq_true rfl⟩ dX5_goTogether_106 (fun r_27 _ h_28 => ?_)
                    obtain rfl : r_27 = 1 := h_28.trans (if_pos hp_26)
                    refine z_if_eq C (tgt := 117) dX5_goTogether_109 (by decide) (fun h => absurd h (by decide)) (fun _ => ?_)
                    refine z_iload_n C dX5_goTogether_112 rfl 3 rfl ?_
                    refine z_istore_n C dX5_goTogether_113 rfl (by decide) [(0, .ref (md 0)), (1, .int (nI s9)), (2, .int (nI (pc5 (bestS (okS frm too amt flo bnd (fcnQ (ordL pri mk) wai frm) 5 acc net) s9)))), (3, .int (nI s9)), (4, .int (nI (pcU s9 j))), (5, .int (nI w9)), (6, .int (nI j))] [1, 0, 2, 3, 4, 5, 6] rfl ?_
                    refine z_iload C dX5_goTogether_114 4 rfl ?_
                    refine z_istore_n C dX5_goTogether_116 rfl (by decide) [(0, .ref (md 0)), (1, .int (nI s9)), (2, .int (nI (pcU s9 j))), (3, .int (nI s9)), (4, .int (nI (pcU s9 j))), (5, .int (nI w9)), (6, .int (nI j))] [1, 2, 0, 3, 4, 5, 6] rfl ?_
                    refine z_iinc C (v := (nI (s9 + 1))) dX5_goTogether_117 3 rfl (nI_add s9 1) (by decide) [(0, .ref (md 0)), (1, .int (nI s9)), (2, .int (nI (pcU s9 j))), (3, .int (nI (s9 + 1))), (4, .int (nI (pcU s9 j))), (5, .int (nI w9)), (6, .int (nI j))] [1, 2, 3, 0, 4, 5, 6] rfl ?_
                    refine z_goto C (tgt := 6) dX5_goTogether_120 (by decide) ?_
                    refine z_lv [(0, .ref (md 0)), (1, .int (nI s9)), (2, .int (nI (pcU s9 j))), (3, .int (nI (s9 + 1)))] [0, 1, 2, 3] rfl ?_
                    refine z_lveq [(0, .ref (md 0)), (1, .int (nI (bestS (okS frm too amt flo bnd (fcnQ (ordL pri mk) wai frm) 5 acc net) (s9 + 1)))), (2, .int (nI (pc5 (bestS (okS frm too amt flo bnd (fcnQ (ordL pri mk) wai frm) 5 acc net) (s9 + 1))))), (3, .int (nI (s9 + 1)))] (by obtain rfl : j = 5 := (by omega); rw [bestS_y (show ¬ pc5 s9 ≤ pc5 (bestS (okS frm too amt flo bnd (fcnQ (ordL pri mk) wai frm) 5 acc net) s9) from n_25) hp_26]; rfl) ?_
                    exact ih_2 (s9 + 1) (frsF (fcnQ (ordL pri mk) wai frm) s9 f9 5) (by omega) (by first | assumption | omega) (by first | assumption | omega)
                  · skip
                    refine z_callVi C (T := Unit) (As := [.int (nI s9)]) (rest := []) (ws' := fun _ => (wM md cI cZ acc flo pap clo net bnd frm too amt pri wai (frsF (fcnQ (ordL pri mk) wai frm) s9 f9 5) ldr bor lnt rat plg opn (nI mk) small (nI lm) price cut proc thr)) (m_isSet l sa D cI cZ cL md acc flo pap clo net bnd frm too amt pri wai f9 ldr bor lnt rat plg opn small price cut proc thr mk lm s9 (by first | assumption | omega) (by have e5 : j = 5 := (by omega); rw [e5] at hw; exact hw.mp (by omega)) (by first | assumption | omega) (by first | assumption | omega) (by first | assumption | omega)) (cwV 1 C.2.2.2.2.1 gX5_goTogether_X5_isSet rfl rfl rfl (by decide +kernel) ⟨Nat.le_of_ble_eq_true rfl, Nat.le_of_ble_eq_true rfl⟩) 0 rfl rfl rfl (fun _ => zSub.full) zIn.full rfl (Nat.le_of_ble_eq_true rfl) ⟨Nat.le_of_ble_eq_true rfl, Nat.le_of_ble_eq_true rfl⟩ dX5_goTogether_106 (fun r_29 _ h_30 => ?_)
                    obtain rfl : r_29 = 0 := h_30.trans (if_neg hp_26)
                    refine z_if_eq C (tgt := 117) dX5_goTogether_109 (by decide) (fun _ => ?_) (fun h => absurd h (by decide))
                    refine z_iinc C (v := (nI (s9 + 1))) dX5_goTogether_117 3 rfl (nI_add s9 1) (by decide) [(0, .ref (md 0)), (1, .int (nI (bestS (okS frm too amt flo bnd (fcnQ (ordL pri mk) wai frm) 5 acc net) s9))), (2, .int (nI (pc5 (bestS (okS frm too amt flo bnd (fcnQ (ordL pri mk) wai frm) 5 acc net) s9)))), (3, .int (nI (s9 + 1))), (4, .int (nI (pcU s9 j))), (5, .int (nI w9)), (6, .int (nI j))] [1, 2, 3, 0, 4, 5, 6] rfl ?_
                    refine z_goto C (tgt := 6) dX5_goTogether_120 (by decide) ?_
                    refine z_lv [(0, .ref (md 0)), (1, .int (nI (bestS (okS frm too amt flo bnd (fcnQ (ordL pri mk) wai frm) 5 acc net) s9))), (2, .int (nI (pc5 (bestS (okS frm too amt flo bnd (fcnQ (ordL pri mk) wai frm) 5 acc net) s9)))), (3, .int (nI (s9 + 1)))] [0, 1, 2, 3] rfl ?_
                    refine z_lveq [(0, .ref (md 0)), (1, .int (nI (bestS (okS frm too amt flo bnd (fcnQ (ordL pri mk) wai frm) 5 acc net) (s9 + 1)))), (2, .int (nI (pc5 (bestS (okS frm too amt flo bnd (fcnQ (ordL pri mk) wai frm) 5 acc net) (s9 + 1))))), (3, .int (nI (s9 + 1)))] (by obtain rfl : j = 5 := (by omega); rw [bestS_n2 hp_26]) ?_
                    exact ih_2 (s9 + 1) (frsF (fcnQ (ordL pri mk) wai frm) s9 f9 5) (by omega) (by first | assumption | omega) (by first | assumption | omega)
            · skip
              have n_31 : ¬ 5 ≤ j := fun q => c24_18 ((nI_leI (a := 5) (b := j) (by omega) (by omega)).mpr q)
              refine z_iload_n C dX5_goTogether_27 rfl 3 rfl ?_
              refine z_iload C dX5_goTogether_28 6 rfl ?_
              refine z_ishr C (v := ((nI s9) >>> ((nI j) &&& 31))) dX5_goTogether_30 rfl ?_
              refine z_iconst C (v := 1) dX5_goTogether_31 (by decide) ?_
              refine z_case (Nat.testBit s9 j = true) (fun hp_32 => ?_) (fun hp_32 => ?_)
              · skip
                refine z_iand C (v := 1) dX5_goTogether_32 (by rw [z_bitm s9 j (by omega) (by omega), hp_32]; rfl) ?_
                refine z_iconst C (v := 1) dX5_goTogether_33 (by decide) ?_
                refine z_icmp_ne C (tgt := 41) dX5_goTogether_34 (by decide) (fun h => absurd h (by decide)) (fun _ => ?_)
                refine z_iconst C (v := 1) dX5_goTogether_37 (by decide) ?_
                refine z_goto C (tgt := 42) dX5_goTogether_38 (by decide) ?_
                refine z_istore C dX5_goTogether_42 (by decide) [(0, .ref (md 0)), (1, .int (nI (bestS (okS frm too amt flo bnd (fcnQ (ordL pri mk) wai frm) 5 acc net) s9))), (2, .int (nI (pc5 (bestS (okS frm too amt flo bnd (fcnQ (ordL pri mk) wai frm) 5 acc net) s9)))), (3, .int (nI s9)), (4, .int (nI (pcU s9 j))), (5, .int (nI w9)), (6, .int (nI j)), (7, .int 1)] [1, 2, 3, 4, 5, 6, 7, 0] rfl ?_
                refine z_iload C dX5_goTogether_44 4 rfl ?_
                refine z_iload C dX5_goTogether_46 7 rfl ?_
                refine z_if_eq C (tgt := 55) dX5_goTogether_48 (by decide) (fun h => absurd h (by decide)) (fun _ => ?_)
                refine z_iconst C (v := 1) dX5_goTogether_51 (by decide) ?_
                refine z_goto C (tgt := 56) dX5_goTogether_52 (by decide) ?_
                refine z_iadd C (v := (nI ((pcU s9 j) + 1))) dX5_goTogether_56 (nI_add (pcU s9 j) 1) ?_
                refine z_istore C dX5_goTogether_57 (by decide) [(0, .ref (md 0)), (1, .int (nI (bestS (okS frm too amt flo bnd (fcnQ (ordL pri mk) wai frm) 5 acc net) s9))), (2, .int (nI (pc5 (bestS (okS frm too amt flo bnd (fcnQ (ordL pri mk) wai frm) 5 acc net) s9)))), (3, .int (nI s9)), (4, .int (nI ((pcU s9 j) + 1))), (5, .int (nI w9)), (6, .int (nI j)), (7, .int 1)] [1, 2, 3, 4, 0, 5, 6, 7] rfl ?_
                refine z_iload C dX5_goTogether_59 5 rfl ?_
                refine z_if_eq C (tgt := 84) dX5_goTogether_61 (by decide) (fun c61_33 => ?_) (fun c61_33 => ?_)
                · skip
                  have n_34 : w9 = 0 := (nI_eq (a := w9) (b := 0) (by omega) (by omega)).mp c61_33
                  refine z_iconst C (v := 0) dX5_goTogether_84 (by decide) ?_
                  refine z_istore C dX5_goTogether_85 (by decide) [(0, .ref (md 0)), (1, .int (nI (bestS (okS frm too amt flo bnd (fcnQ (ordL pri mk) wai frm) 5 acc net) s9))), (2, .int (nI (pc5 (bestS (okS frm too amt flo bnd (fcnQ (ordL pri mk) wai frm) 5 acc net) s9)))), (3, .int (nI s9)), (4, .int (nI ((pcU s9 j) + 1))), (5, .int 0), (6, .int (nI j)), (7, .int 1)] [1, 2, 3, 4, 5, 0, 6, 7] rfl ?_
                  refine z_iinc C (v := (nI (j + 1))) dX5_goTogether_87 6 rfl (nI_add j 1) (by decide) [(0, .ref (md 0)), (1, .int (nI (bestS (okS frm too amt flo bnd (fcnQ (ordL pri mk) wai frm) 5 acc net) s9))), (2, .int (nI (pc5 (bestS (okS frm too amt flo bnd (fcnQ (ordL pri mk) wai frm) 5 acc net) s9)))), (3, .int (nI s9)), (4, .int (nI ((pcU s9 j) + 1))), (5, .int 0), (6, .int (nI (j + 1))), (7, .int 1)] [1, 2, 3, 4, 5, 6, 0, 7] rfl ?_
                  refine z_goto C (tgt := 21) dX5_goTogether_90 (by decide) ?_
                  refine z_lv [(0, .ref (md 0)), (1, .int (nI (bestS (okS frm too amt flo bnd (fcnQ (ordL pri mk) wai frm) 5 acc net) s9))), (2, .int (nI (pc5 (bestS (okS frm too amt flo bnd (fcnQ (ordL pri mk) wai frm) 5 acc net) s9)))), (3, .int (nI s9)), (4, .int (nI ((pcU s9 j) + 1))), (5, .int 0), (6, .int (nI (j + 1)))] [0, 1, 2, 3, 4, 5, 6] rfl ?_
                  refine z_lveq [(0, .ref (md 0)), (1, .int (nI (bestS (okS frm too amt flo bnd (fcnQ (ordL pri mk) wai frm) 5 acc net) s9))), (2, .int (nI (pc5 (bestS (okS frm too amt flo bnd (fcnQ (ordL pri mk) wai frm) 5 acc net) s9)))), (3, .int (nI s9)), (4, .int (nI (pcU s9 (j + 1)))), (5, .int (nI 0)), (6, .int (nI (j + 1)))] (by (first | rw [pcU_y (by assumption)] | rw [pcU_n (by assumption)]) <;> rfl) ?_
                  exact ih_16 0 (j + 1) (by omega) (by first | assumption | omega) (by first | assumption | omega) (by exact hwA (by assumption) hw)
                · skip
                  have n_35 : ¬ w9 = 0 := fun q => c61_33 ((nI_eq (a := w9) (b := 0) (by omega) (by omega)).mpr q)
                  refine z_iload C dX5_goTogether_64 7 rfl ?_
                  refine z_if_eq C (tgt := 80) dX5_goTogether_66 (by decide) (fun h => absurd h (by decide)) (fun _ => ?_)
                  refine z_aload_n C dX5_goTogether_69 rfl 0 rfl ?_
                  refine z_iload C dX5_goTogether_70 6 rfl ?_
                  refine z_iconst C (v := 0) dX5_goTogether_72 (by decide) ?_
                  rcases hq_36 : atQ (ordL pri mk) (isq wai frm j) 0 with _ | p_37
                  · skip
                    refine z_callVi C (T := Unit) (As := [.int (nI j), .int 0]) (rest := []) (ws' := fun _ => (wM md cI cZ acc flo pap clo net bnd frm too amt pri wai f9 ldr bor lnt rat plg opn (nI mk) small (nI lm) price cut proc thr)) (m_at l sa D cI cZ cL md acc flo pap clo net bnd frm too amt pri wai f9 ldr bor lnt rat plg opn small price cut proc thr mk lm j 0 (by first | assumption | omega) (by decide) (by first | assumption | omega) (by first | assumption | omega) (by first | assumption | omega)) (cwV 2 C.2.2.2.2.1 gX5_goTogether_X5_at rfl rfl rfl (by decide +kernel) ⟨Nat.le_of_ble_eq_true rfl, Nat.le_of_ble_eq_true rfl⟩) 0 rfl rfl rfl (fun _ => zSub.full) zIn.full rfl (Nat.le_of_ble_eq_true rfl) ⟨Nat.le_of_ble_eq_true rfl, Nat.le_of_ble_eq_true rfl⟩ dX5_goTogether_73 (fun r_38 _ h_39 => ?_)
                    obtain rfl : r_38 = (-1) := h_39.trans (by rw [hq_36]; rfl)
                    refine z_iconst C (v := (-1)) dX5_goTogether_76 (by decide) ?_
                    refine z_icmp_eq C (tgt := 84) dX5_goTogether_77 (by decide) (fun _ => ?_) (fun h => absurd h (by decide))
                    refine z_iconst C (v := 0) dX5_goTogether_84 (by decide) ?_
                    refine z_istore C dX5_goTogether_85 (by decide) [(0, .ref (md 0)), (1, .int (nI (bestS (okS frm too amt flo bnd (fcnQ (ordL pri mk) wai frm) 5 acc net) s9))), (2, .int (nI (pc5 (bestS (okS frm too amt flo bnd (fcnQ (ordL pri mk) wai frm) 5 acc net) s9)))), (3, .int (nI s9)), (4, .int (nI ((pcU s9 j) + 1))), (5, .int 0), (6, .int (nI j)), (7, .int 1)] [1, 2, 3, 4, 5, 0, 6, 7] rfl ?_
                    refine z_iinc C (v := (nI (j + 1))) dX5_goTogether_87 6 rfl (nI_add j 1) (by decide) [(0, .ref (md 0)), (1, .int (nI (bestS (okS frm too amt flo bnd (fcnQ (ordL pri mk) wai frm) 5 acc net) s9))), (2, .int (nI (pc5 (bestS (okS frm too amt flo bnd (fcnQ (ordL pri mk) wai frm) 5 acc net) s9)))), (3, .int (nI s9)), (4, .int (nI ((pcU s9 j) + 1))), (5, .int 0), (6, .int (nI (j + 1))), (7, .int 1)] [1, 2, 3, 4, 5, 6, 0, 7] rfl ?_
                    refine z_goto C (tgt := 21) dX5_goTogether_90 (by decide) ?_
                    refine z_lv [(0, .ref (md 0)), (1, .int (nI (bestS (okS frm too amt flo bnd (fcnQ (ordL pri mk) wai frm) 5 acc net) s9))), (2, .int (nI (pc5 (bestS (okS frm too amt flo bnd (fcnQ (ordL pri mk) wai frm) 5 acc net) s9)))), (3, .int (nI s9)), (4, .int (nI ((pcU s9 j) + 1))), (5, .int 0), (6, .int (nI (j + 1)))] [0, 1, 2, 3, 4, 5, 6] rfl ?_
                    refine z_lveq [(0, .ref (md 0)), (1, .int (nI (bestS (okS frm too amt flo bnd (fcnQ (ordL pri mk) wai frm) 5 acc net) s9))), (2, .int (nI (pc5 (bestS (okS frm too amt flo bnd (fcnQ (ordL pri mk) wai frm) 5 acc net) s9)))), (3, .int (nI s9)), (4, .int (nI (pcU s9 (j + 1)))), (5, .int (nI 0)), (6, .int (nI (j + 1)))] (by (first | rw [pcU_y (by assumption)] | rw [pcU_n (by assumption)]) <;> rfl) ?_
                    exact ih_16 0 (j + 1) (by omega) (by first | assumption | omega) (by first | assumption | omega) (by exact hwC (fun h => h (by assumption) hq_36))
                  · skip
                    have hm_p_37 := atQ_mem hq_36
                    have := ordL_mem hm_p_37.1
                    refine z_callVi C (T := Unit) (As := [.int (nI j), .int 0]) (rest := []) (ws' := fun _ => (wM md cI cZ acc flo pap clo net bnd frm too amt pri wai f9 ldr bor lnt rat plg opn (nI mk) small (nI lm) price cut proc thr)) (m_at l sa D cI cZ cL md acc flo pap clo net bnd frm too amt pri wai f9 ldr bor lnt rat plg opn small price cut proc thr mk lm j 0 (by first | assumption | omega) (by decide) (by first | assumption | omega) (by first | assumption | omega) (by first | assumption | omega)) (cwV 2 C.2.2.2.2.1 gX5_goTogether_X5_at rfl rfl rfl (by decide +kernel) ⟨Nat.le_of_ble_eq_true rfl, Nat.le_of_ble_eq_true rfl⟩) 0 rfl rfl rfl (fun _ => zSub.full) zIn.full rfl (Nat.le_of_ble_eq_true rfl) ⟨Nat.le_of_ble_eq_true rfl, Nat.le_of_ble_eq_true rfl⟩ dX5_goTogether_73 (fun r_40 _ h_41 => ?_)
                    obtain rfl : r_40 = (nI p_37) := h_41.trans (by rw [hq_36]; rfl)
                    refine z_iconst C (v := (-1)) dX5_goTogether_76 (by decide) ?_
                    refine z_icmp_eq C (tgt := 84) dX5_goTogether_77 (by decide) (fun h => absurd h (nI_m1 (by omega))) (fun _ => ?_)
                    refine z_iconst C (v := 1) dX5_goTogether_80 (by decide) ?_
                    refine z_goto C (tgt := 85) dX5_goTogether_81 (by decide) ?_
                    refine z_istore C dX5_goTogether_85 (by decide) [(0, .ref (md 0)), (1, .int (nI (bestS (okS frm too amt flo bnd (fcnQ (ordL pri mk) wai frm) 5 acc net) s9))), (2, .int (nI (pc5 (bestS (okS frm too amt flo bnd (fcnQ (ordL pri mk) wai frm) 5 acc net) s9)))), (3, .int (nI s9)), (4, .int (nI ((pcU s9 j) + 1))), (5, .int 1), (6, .int (nI j)), (7, .int 1)] [1, 2, 3, 4, 5, 0, 6, 7] rfl ?_
                    refine z_iinc C (v := (nI (j + 1))) dX5_goTogether_87 6 rfl (nI_add j 1) (by decide) [(0, .ref (md 0)), (1, .int (nI (bestS (okS frm too amt flo bnd (fcnQ (ordL pri mk) wai frm) 5 acc net) s9))), (2, .int (nI (pc5 (bestS (okS frm too amt flo bnd (fcnQ (ordL pri mk) wai frm) 5 acc net) s9)))), (3, .int (nI s9)), (4, .int (nI ((pcU s9 j) + 1))), (5, .int 1), (6, .int (nI (j + 1))), (7, .int 1)] [1, 2, 3, 4, 5, 6, 0, 7] rfl ?_
                    refine z_goto C (tgt := 21) dX5_goTogether_90 (by decide) ?_
                    refine z_lv [(0, .ref (md 0)), (1, .int (nI (bestS (okS frm too amt flo bnd (fcnQ (ordL pri mk) wai frm) 5 acc net) s9))), (2, .int (nI (pc5 (bestS (okS frm too amt flo bnd (fcnQ (ordL pri mk) wai frm) 5 acc net) s9)))), (3, .int (nI s9)), (4, .int (nI ((pcU s9 j) + 1))), (5, .int 1), (6, .int (nI (j + 1)))] [0, 1, 2, 3, 4, 5, 6] rfl ?_
                    refine z_lveq [(0, .ref (md 0)), (1, .int (nI (bestS (okS frm too amt flo bnd (fcnQ (ordL pri mk) wai frm) 5 acc net) s9))), (2, .int (nI (pc5 (bestS (okS frm too amt flo bnd (fcnQ (ordL pri mk) wai frm) 5 acc net) s9)))), (3, .int (nI s9)), (4, .int (nI (pcU s9 (j + 1)))), (5, .int (nI 1)), (6, .int (nI (j + 1)))] (by (first | rw [pcU_y (by assumption)] | rw [pcU_n (by assumption)]) <;> rfl) ?_
                    exact ih_16 1 (j + 1) (by omega) (by first | assumption | omega) (by first | assumption | omega) (by exact hwB (by assumption) hw1 hw (fun _ h => by have h9 := hq_36.symm.trans h; cases h9))
              · skip
                refine z_iand C (v := 0) dX5_goTogether_32 (by rw [z_bitm s9 j (by omega) (by omega), ts_f hp_32]; rfl) ?_
                refine z_iconst C (v := 1) dX5_goTogether_33 (by decide) ?_
                refine z_icmp_ne C (tgt := 41) dX5_goTogether_34 (by decide) (fun _ => ?_) (fun h => absurd h (by decide))
                refine z_iconst C (v := 0) dX5_goTogether_41 (by decide) ?_
                refine z_istore C dX5_goTogether_42 (by decide) [(0, .ref (md 0)), (1, .int (nI (bestS (okS frm too amt flo bnd (fcnQ (ordL pri mk) wai frm) 5 acc net) s9))), (2, .int (nI (pc5 (bestS (okS frm too amt flo bnd (fcnQ (ordL pri mk) wai frm) 5 acc net) s9)))), (3, .int (nI s9)), (4, .int (nI (pcU s9 j))), (5, .int (nI w9)), (6, .int (nI j)), (7, .int 0)] [1, 2, 3, 4, 5, 6, 7, 0] rfl ?_
                refine z_iload C dX5_goTogether_44 4 rfl ?_
                refine z_iload C dX5_goTogether_46 7 rfl ?_
                refine z_if_eq C (tgt := 55) dX5_goTogether_48 (by decide) (fun _ => ?_) (fun h => absurd h (by decide))
                refine z_iconst C (v := 0) dX5_goTogether_55 (by decide) ?_
                refine z_iadd C (v := (nI (pcU s9 j))) dX5_goTogether_56 (z_add0 _) ?_
                refine z_istore C dX5_goTogether_57 (by decide) [(0, .ref (md 0)), (1, .int (nI (bestS (okS frm too amt flo bnd (fcnQ (ordL pri mk) wai frm) 5 acc net) s9))), (2, .int (nI (pc5 (bestS (okS frm too amt flo bnd (fcnQ (ordL pri mk) wai frm) 5 acc net) s9)))), (3, .int (nI s9)), (4, .int (nI (pcU s9 j))), (5, .int (nI w9)), (6, .int (nI j)), (7, .int 0)] [1, 2, 3, 4, 0, 5, 6, 7] rfl ?_
                refine z_iload C dX5_goTogether_59 5 rfl ?_
                refine z_if_eq C (tgt := 84) dX5_goTogether_61 (by decide) (fun c61_42 => ?_) (fun c61_42 => ?_)
                · skip
                  have n_43 : w9 = 0 := (nI_eq (a := w9) (b := 0) (by omega) (by omega)).mp c61_42
                  refine z_iconst C (v := 0) dX5_goTogether_84 (by decide) ?_
                  refine z_istore C dX5_goTogether_85 (by decide) [(0, .ref (md 0)), (1, .int (nI (bestS (okS frm too amt flo bnd (fcnQ (ordL pri mk) wai frm) 5 acc net) s9))), (2, .int (nI (pc5 (bestS (okS frm too amt flo bnd (fcnQ (ordL pri mk) wai frm) 5 acc net) s9)))), (3, .int (nI s9)), (4, .int (nI (pcU s9 j))), (5, .int 0), (6, .int (nI j)), (7, .int 0)] [1, 2, 3, 4, 5, 0, 6, 7] rfl ?_
                  refine z_iinc C (v := (nI (j + 1))) dX5_goTogether_87 6 rfl (nI_add j 1) (by decide) [(0, .ref (md 0)), (1, .int (nI (bestS (okS frm too amt flo bnd (fcnQ (ordL pri mk) wai frm) 5 acc net) s9))), (2, .int (nI (pc5 (bestS (okS frm too amt flo bnd (fcnQ (ordL pri mk) wai frm) 5 acc net) s9)))), (3, .int (nI s9)), (4, .int (nI (pcU s9 j))), (5, .int 0), (6, .int (nI (j + 1))), (7, .int 0)] [1, 2, 3, 4, 5, 6, 0, 7] rfl ?_
                  refine z_goto C (tgt := 21) dX5_goTogether_90 (by decide) ?_
                  refine z_lv [(0, .ref (md 0)), (1, .int (nI (bestS (okS frm too amt flo bnd (fcnQ (ordL pri mk) wai frm) 5 acc net) s9))), (2, .int (nI (pc5 (bestS (okS frm too amt flo bnd (fcnQ (ordL pri mk) wai frm) 5 acc net) s9)))), (3, .int (nI s9)), (4, .int (nI (pcU s9 j))), (5, .int 0), (6, .int (nI (j + 1)))] [0, 1, 2, 3, 4, 5, 6] rfl ?_
                  refine z_lveq [(0, .ref (md 0)), (1, .int (nI (bestS (okS frm too amt flo bnd (fcnQ (ordL pri mk) wai frm) 5 acc net) s9))), (2, .int (nI (pc5 (bestS (okS frm too amt flo bnd (fcnQ (ordL pri mk) wai frm) 5 acc net) s9)))), (3, .int (nI s9)), (4, .int (nI (pcU s9 (j + 1)))), (5, .int (nI 0)), (6, .int (nI (j + 1)))] (by (first | rw [pcU_y (by assumption)] | rw [pcU_n (by assumption)]) <;> rfl) ?_
                  exact ih_16 0 (j + 1) (by omega) (by first | assumption | omega) (by first | assumption | omega) (by exact hwA (by assumption) hw)
                · skip
                  have n_44 : ¬ w9 = 0 := fun q => c61_42 ((nI_eq (a := w9) (b := 0) (by omega) (by omega)).mpr q)
                  refine z_iload C dX5_goTogether_64 7 rfl ?_
                  refine z_if_eq C (tgt := 80) dX5_goTogether_66 (by decide) (fun _ => ?_) (fun h => absurd h (by decide))
                  refine z_iconst C (v := 1) dX5_goTogether_80 (by decide) ?_
                  refine z_goto C (tgt := 85) dX5_goTogether_81 (by decide) ?_
                  refine z_istore C dX5_goTogether_85 (by decide) [(0, .ref (md 0)), (1, .int (nI (bestS (okS frm too amt flo bnd (fcnQ (ordL pri mk) wai frm) 5 acc net) s9))), (2, .int (nI (pc5 (bestS (okS frm too amt flo bnd (fcnQ (ordL pri mk) wai frm) 5 acc net) s9)))), (3, .int (nI s9)), (4, .int (nI (pcU s9 j))), (5, .int 1), (6, .int (nI j)), (7, .int 0)] [1, 2, 3, 4, 5, 0, 6, 7] rfl ?_
                  refine z_iinc C (v := (nI (j + 1))) dX5_goTogether_87 6 rfl (nI_add j 1) (by decide) [(0, .ref (md 0)), (1, .int (nI (bestS (okS frm too amt flo bnd (fcnQ (ordL pri mk) wai frm) 5 acc net) s9))), (2, .int (nI (pc5 (bestS (okS frm too amt flo bnd (fcnQ (ordL pri mk) wai frm) 5 acc net) s9)))), (3, .int (nI s9)), (4, .int (nI (pcU s9 j))), (5, .int 1), (6, .int (nI (j + 1))), (7, .int 0)] [1, 2, 3, 4, 5, 6, 0, 7] rfl ?_
                  refine z_goto C (tgt := 21) dX5_goTogether_90 (by decide) ?_
                  refine z_lv [(0, .ref (md 0)), (1, .int (nI (bestS (okS frm too amt flo bnd (fcnQ (ordL pri mk) wai frm) 5 acc net) s9))), (2, .int (nI (pc5 (bestS (okS frm too amt flo bnd (fcnQ (ordL pri mk) wai frm) 5 acc net) s9)))), (3, .int (nI s9)), (4, .int (nI (pcU s9 j))), (5, .int 1), (6, .int (nI (j + 1)))] [0, 1, 2, 3, 4, 5, 6] rfl ?_
                  refine z_lveq [(0, .ref (md 0)), (1, .int (nI (bestS (okS frm too amt flo bnd (fcnQ (ordL pri mk) wai frm) 5 acc net) s9))), (2, .int (nI (pc5 (bestS (okS frm too amt flo bnd (fcnQ (ordL pri mk) wai frm) 5 acc net) s9)))), (3, .int (nI s9)), (4, .int (nI (pcU s9 (j + 1)))), (5, .int (nI 1)), (6, .int (nI (j + 1)))] (by (first | rw [pcU_y (by assumption)] | rw [pcU_n (by assumption)]) <;> rfl) ?_
                  exact ih_16 1 (j + 1) (by omega) (by first | assumption | omega) (by first | assumption | omega) (by exact hwB (by assumption) hw1 hw (fun h => absurd h (by assumption)))
        refine z_lveq [(0, .ref (md 0)), (1, .int (nI (bestS (okS frm too amt flo bnd (fcnQ (ordL pri mk) wai frm) 5 acc net) s9))), (2, .int (nI (pc5 (bestS (okS frm too amt flo bnd (fcnQ (ordL pri mk) wai frm) 5 acc net) s9)))), (3, .int (nI s9)), (4, .int (nI (pcU s9 0))), (5, .int (nI 1)), (6, .int (nI 0))] (by rfl) ?_
        exact L21_k_15 (5 - 0 + 1) 1 0 (Nat.lt_succ_self _) (by first | assumption | omega) (by first | assumption | omega) (by exact ⟨fun _ k hk => absurd hk (Nat.not_lt_zero k), fun _ => rfl⟩)
  refine z_lveq [(0, .ref (md 0)), (1, .int (nI (bestS (okS frm too amt flo bnd (fcnQ (ordL pri mk) wai frm) 5 acc net) 1))), (2, .int (nI (pc5 (bestS (okS frm too amt flo bnd (fcnQ (ordL pri mk) wai frm) 5 acc net) 1)))), (3, .int (nI 1))] (by rw [bestS_1]; rfl) ?_
  exact L6_k_1 (32 - 1 + 1) 1 fst (Nat.lt_succ_self _) (by first | assumption | omega) (by first | assumption | omega)
set_option maxHeartbeats 4000000 in
set_option maxRecDepth 100000 in
theorem m_run (l : Launch) (sa : Nat → Nat) (D : va_G) (cI cZ cL : ClassId) (md : Nat → Nat) (acc flo pap clo net bnd frm too amt pri wai fst ldr bor lnt rat plg opn : Nat → Int32) (small price cut proc thr : Int32) (mk lm : Nat)  (hmk : mk ≤ 60) (hfrm : wf5 mk frm) (htoo : wf5 mk too) : zMi (T := Nat → Int32) sa D vwCl (zty cI cZ cL) l yX5_run wsX5_run ({ frames := 4, cells := 0, slots := 0, locals := 97 } : Room) [.ref (md 0)] (wM md cI cZ acc flo pap clo net bnd frm too amt pri wai fst ldr bor lnt rat plg opn (nI mk) small (nI lm) price cut proc thr) (fun r9 u => r9 = ((runF (ordL pri mk) flo bnd frm too amt small 61 acc net wai 0).2.2.2)) (fun u => (wM md cI cZ ((runF (ordL pri mk) flo bnd frm too amt small 61 acc net wai 0).1) flo pap clo ((runF (ordL pri mk) flo bnd frm too amt small 61 acc net wai 0).2.1) bnd frm too amt pri ((runF (ordL pri mk) flo bnd frm too amt small 61 acc net wai 0).2.2.1) u ldr bor lnt rat plg opn (nI mk) small (nI lm) price cut proc 0)) 0 0 := by
  refine zMi.of (ret := (some .int)) (cc := cX5_run) (nL := 6) (own := RX5) (by decide +kernel) rfl [(0, .ref (md 0))] rfl (Nat.le_of_ble_eq_true rfl) rfl ?_
  intro A p e s m args below meth c C hmn
  refine z_aload_n C dX5_run_0 rfl 0 rfl ?_
  refine z_iconst C (v := 0) dX5_run_1 (by decide) ?_
  refine z_put C 0 rfl i_X5_run_X5 rfl 24 (by decide) m_X5_run_f76 rfl tyX5 tyX5_ok nmX5 rfl (ty := .int) (by decide +kernel) rfl rfl (Nat.le_of_ble_eq_true rfl) dX5_run_2 (wM md cI cZ acc flo pap clo net bnd frm too amt pri wai fst ldr bor lnt rat plg opn (nI mk) small (nI lm) price cut proc 0) rfl ?_
  refine z_iconst C (v := 0) dX5_run_5 (by decide) ?_
  refine z_istore_n C dX5_run_6 rfl (by decide) [(0, .ref (md 0)), (1, .int 0)] [1, 0] rfl ?_
  refine z_iconst C (v := 1) dX5_run_7 (by decide) ?_
  refine z_istore_n C dX5_run_8 rfl (by decide) [(0, .ref (md 0)), (1, .int 0), (2, .int 1)] [1, 2, 0] rfl ?_
  have L9_k_1 : ∀ (n : Nat) (f9 : Nat) (g9 : Int32) (a9 n9 w9 s9 : Nat → Int32), cntW w9 mk < n → (cntW w9 mk < f9) → (runF (ordL pri mk) flo bnd frm too amt small f9 a9 n9 w9 g9 = (runF (ordL pri mk) flo bnd frm too amt small 61 acc net wai 0)) → zW p l e ({ frames := 4, cells := 0, slots := 0, locals := 97 } : Room) s m args below meth c (MQ below (zQi (T := Nat → Int32) D vwCl (zty cI cZ cL) A (fun r9 u => r9 = ((runF (ordL pri mk) flo bnd frm too amt small 61 acc net wai 0).2.2.2)) (fun u => (wM md cI cZ ((runF (ordL pri mk) flo bnd frm too amt small 61 acc net wai 0).1) flo pap clo ((runF (ordL pri mk) flo bnd frm too amt small 61 acc net wai 0).2.1) bnd frm too amt pri ((runF (ordL pri mk) flo bnd frm too amt small 61 acc net wai 0).2.2.1) u ldr bor lnt rat plg opn (nI mk) small (nI lm) price cut proc 0))) args s 0 0 A) D vwCl A 6 0 0 (wM md cI cZ a9 flo pap clo n9 bnd frm too amt pri w9 s9 ldr bor lnt rat plg opn (nI mk) small (nI lm) price cut proc 0) [(0, .ref (md 0)), (1, .int g9), (2, .int 1)] 9 [] := by
    intro n
    induction n with
    | zero => intros; omega
    | succ n ih_2 =>
      intro f9 g9 a9 n9 w9 s9 hm_3 hc hR
      refine z_iload_n C dX5_run_9 rfl 2 rfl ?_
      refine z_if_eq C (tgt := 85) dX5_run_10 (by decide) (fun h => absurd h (by decide)) (fun _ => ?_)
      refine z_iconst C (v := 0) dX5_run_13 (by decide) ?_
      refine z_istore_n C dX5_run_14 rfl (by decide) [(0, .ref (md 0)), (1, .int g9), (2, .int 1), (3, .int 0)] [1, 2, 3, 0] rfl ?_
      refine z_iconst C (v := 0) dX5_run_15 (by decide) ?_
      refine z_istore C dX5_run_16 (by decide) [(0, .ref (md 0)), (1, .int g9), (2, .int 1), (3, .int 0), (4, .int 0)] [1, 2, 3, 4, 0] rfl ?_
      have L18_k_4 : ∀ (n : Nat) (i : Nat), 5 - i < n → (i ≤ 5) → zW p l e ({ frames := 4, cells := 0, slots := 0, locals := 97 } : Room) s m args below meth c (MQ below (zQi (T := Nat → Int32) D vwCl (zty cI cZ cL) A (fun r9 u => r9 = ((runF (ordL pri mk) flo bnd frm too amt small 61 acc net wai 0).2.2.2)) (fun u => (wM md cI cZ ((runF (ordL pri mk) flo bnd frm too amt small 61 acc net wai 0).1) flo pap clo ((runF (ordL pri mk) flo bnd frm too amt small 61 acc net wai 0).2.1) bnd frm too amt pri ((runF (ordL pri mk) flo bnd frm too amt small 61 acc net wai 0).2.2.1) u ldr bor lnt rat plg opn (nI mk) small (nI lm) price cut proc 0))) args s 0 0 A) D vwCl A 6 0 0 (wM md cI cZ ((passF (ordL pri mk) flo bnd frm too amt small a9 n9 w9 i).1) flo pap clo ((passF (ordL pri mk) flo bnd frm too amt small a9 n9 w9 i).2.1) bnd frm too amt pri ((passF (ordL pri mk) flo bnd frm too amt small a9 n9 w9 i).2.2.1) s9 ldr bor lnt rat plg opn (nI mk) small (nI lm) price cut proc 0) [(0, .ref (md 0)), (1, .int g9), (2, .int 1), (3, .int (nI ((passF (ordL pri mk) flo bnd frm too amt small a9 n9 w9 i).2.2.2))), (4, .int (nI i))] 18 [] := by
        intro n
        induction n with
        | zero => intros; omega
        | succ n ih_5 =>
          intro i hm_6 hi
          have hpc := passF_cnt (pri := pri) (n := mk) (flo := flo) (bnd := bnd) (frm := frm) (too := too) (amt := amt) (small := small) (acc := a9) (net := n9) (wai := w9) i
          have hpl := passF_le (ordL pri mk) flo bnd frm too amt small a9 n9 w9 i
          refine z_iload C dX5_run_18 4 rfl ?_
          refine z_iconst C (v := 5) dX5_run_20 (by decide) ?_
          refine z_icmp_ge C (tgt := 53) dX5_run_21 (by decide) (fun c21_7 => ?_) (fun c21_7 => ?_)
          · skip
            have n_8 : 5 ≤ i := (nI_leI (a := 5) (b := i) (by omega) (by omega)).mp c21_7
            refine z_iload_n C dX5_run_53 rfl 3 rfl ?_
            refine z_iload_n C dX5_run_54 rfl 3 rfl ?_
            refine z_if_ne C (tgt := 65) dX5_run_55 (by decide) (fun c55_9 => ?_) (fun c55_9 => ?_)
            · skip
              have n_10 : ¬ ((passF (ordL pri mk) flo bnd frm too amt small a9 n9 w9 i).2.2.2) = 0 := fun q => c55_9 ((nI_eq (a := (passF (ordL pri mk) flo bnd frm too amt small a9 n9 w9 i).2.2.2) (b := 0) (by omega) (by omega)).mpr q)
              refine z_iconst C (v := 0) dX5_run_65 (by decide) ?_
              refine z_iadd C (v := (nI ((passF (ordL pri mk) flo bnd frm too amt small a9 n9 w9 i).2.2.2))) dX5_run_66 (z_add0 _) ?_
              refine z_istore_n C dX5_run_67 rfl (by decide) [(0, .ref (md 0)), (1, .int g9), (2, .int 1), (3, .int (nI ((passF (ordL pri mk) flo bnd frm too amt small a9 n9 w9 i).2.2.2))), (4, .int (nI i))] [1, 2, 3, 0, 4] rfl ?_
              refine z_iload_n C dX5_run_68 rfl 1 rfl ?_
              refine z_iload_n C dX5_run_69 rfl 3 rfl ?_
              refine z_iadd C (v := (g9 + (nI ((passF (ordL pri mk) flo bnd frm too amt small a9 n9 w9 i).2.2.2)))) dX5_run_70 rfl ?_
              refine z_istore_n C dX5_run_71 rfl (by decide) [(0, .ref (md 0)), (1, .int (g9 + (nI ((passF (ordL pri mk) flo bnd frm too amt small a9 n9 w9 i).2.2.2)))), (2, .int 1), (3, .int (nI ((passF (ordL pri mk) flo bnd frm too amt small a9 n9 w9 i).2.2.2))), (4, .int (nI i))] [1, 0, 2, 3, 4] rfl ?_
              refine z_iload_n C dX5_run_72 rfl 3 rfl ?_
              refine z_if_le C (tgt := 80) dX5_run_73 (by decide) (fun c73_11 => ?_) (fun c73_11 => ?_)
              · skip
                have n_12 : ((passF (ordL pri mk) flo bnd frm too amt small a9 n9 w9 i).2.2.2) ≤ 0 := (nI_leI (a := (passF (ordL pri mk) flo bnd frm too amt small a9 n9 w9 i).2.2.2) (b := 0) (by omega) (by omega)).mp c73_11
                refine z_iconst C (v := 0) dX5_run_80 (by decide) ?_
                refine z_istore_n C dX5_run_81 rfl (by decide) [(0, .ref (md 0)), (1, .int (g9 + (nI ((passF (ordL pri mk) flo bnd frm too amt small a9 n9 w9 i).2.2.2)))), (2, .int 0), (3, .int (nI ((passF (ordL pri mk) flo bnd frm too amt small a9 n9 w9 i).2.2.2))), (4, .int (nI i))] [1, 2, 0, 3, 4] rfl ?_
                refine z_goto C (tgt := 9) dX5_run_82 (by decide) ?_
                refine z_iload_n C dX5_run_9 rfl 2 rfl ?_
                refine z_if_eq C (tgt := 85) dX5_run_10 (by decide) (fun _ => ?_) (fun h => absurd h (by decide))
                refine z_iload_n C dX5_run_85 rfl 1 rfl ?_
                exact z_iret C s9 (by obtain rfl : i = 5 := (by omega); obtain ⟨k9, rfl⟩ : ∃ k9, f9 = k9 + 1 := ⟨f9 - 1, by omega⟩; first | (exfalso; omega) | (rw [run_e2 hR (by assumption) (by omega)])) (by obtain rfl : i = 5 := (by omega); obtain ⟨k9, rfl⟩ : ∃ k9, f9 = k9 + 1 := ⟨f9 - 1, by omega⟩; first | (exfalso; omega) | (rw [run_e2 hR (by assumption) (by omega)])) (by decide) (by decide) dX5_run_86
              · skip
                have n_13 : ¬ ((passF (ordL pri mk) flo bnd frm too amt small a9 n9 w9 i).2.2.2) ≤ 0 := fun q => c73_11 ((nI_leI (a := (passF (ordL pri mk) flo bnd frm too amt small a9 n9 w9 i).2.2.2) (b := 0) (by omega) (by omega)).mpr q)
                refine z_iconst C (v := 1) dX5_run_76 (by decide) ?_
                refine z_goto C (tgt := 81) dX5_run_77 (by decide) ?_
                refine z_istore_n C dX5_run_81 rfl (by decide) [(0, .ref (md 0)), (1, .int (g9 + (nI ((passF (ordL pri mk) flo bnd frm too amt small a9 n9 w9 i).2.2.2)))), (2, .int 1), (3, .int (nI ((passF (ordL pri mk) flo bnd frm too amt small a9 n9 w9 i).2.2.2))), (4, .int (nI i))] [1, 2, 0, 3, 4] rfl ?_
                refine z_goto C (tgt := 9) dX5_run_82 (by decide) ?_
                refine z_lv [(0, .ref (md 0)), (1, .int (g9 + (nI ((passF (ordL pri mk) flo bnd frm too amt small a9 n9 w9 i).2.2.2)))), (2, .int 1)] [0, 1, 2] rfl ?_
                exact ih_2 (f9 - 1) (g9 + (nI ((passF (ordL pri mk) flo bnd frm too amt small a9 n9 w9 i).2.2.2))) ((passF (ordL pri mk) flo bnd frm too amt small a9 n9 w9 i).1) ((passF (ordL pri mk) flo bnd frm too amt small a9 n9 w9 i).2.1) ((passF (ordL pri mk) flo bnd frm too amt small a9 n9 w9 i).2.2.1) s9 (by omega) (by omega) (by obtain rfl : i = 5 := (by omega); obtain ⟨k9, rfl⟩ : ∃ k9, f9 = k9 + 1 := ⟨f9 - 1, by omega⟩; first | exact run_s1 hR (by assumption) | exact run_s2 hR (by assumption) (by omega))
            · skip
              have n_14 : ((passF (ordL pri mk) flo bnd frm too amt small a9 n9 w9 i).2.2.2) = 0 := (nI_eq (a := (passF (ordL pri mk) flo bnd frm too amt small a9 n9 w9 i).2.2.2) (b := 0) (by omega) (by omega)).mp c55_9
              refine z_aload_n C dX5_run_58 rfl 0 rfl ?_
              refine z_callVi C (As := []) (rest := [.int (nI ((passF (ordL pri mk) flo bnd frm too amt small a9 n9 w9 i).2.2.2))]) (ws' := fun u_15 => (wM md cI cZ ((togF (ordL pri mk) flo bnd frm too amt ((passF (ordL pri mk) flo bnd frm too amt small a9 n9 w9 i).1) ((passF (ordL pri mk) flo bnd frm too amt small a9 n9 w9 i).2.1) ((passF (ordL pri mk) flo bnd frm too amt small a9 n9 w9 i).2.2.1)).1) flo pap clo ((togF (ordL pri mk) flo bnd frm too amt ((passF (ordL pri mk) flo bnd frm too amt small a9 n9 w9 i).1) ((passF (ordL pri mk) flo bnd frm too amt small a9 n9 w9 i).2.1) ((passF (ordL pri mk) flo bnd frm too amt small a9 n9 w9 i).2.2.1)).2.1) bnd frm too amt pri ((togF (ordL pri mk) flo bnd frm too amt ((passF (ordL pri mk) flo bnd frm too amt small a9 n9 w9 i).1) ((passF (ordL pri mk) flo bnd frm too amt small a9 n9 w9 i).2.1) ((passF (ordL pri mk) flo bnd frm too amt small a9 n9 w9 i).2.2.1)).2.2.1) u_15 ldr bor lnt rat plg opn (nI mk) small (nI lm) price cut proc 0)) (m_goTogether l sa D cI cZ cL md ((passF (ordL pri mk) flo bnd frm too amt small a9 n9 w9 i).1) flo pap clo ((passF (ordL pri mk) flo bnd frm too amt small a9 n9 w9 i).2.1) bnd frm too amt pri ((passF (ordL pri mk) flo bnd frm too amt small a9 n9 w9 i).2.2.1) s9 ldr bor lnt rat plg opn small price cut proc 0 mk lm  (by first | assumption | omega) (by first | assumption | omega) (by first | assumption | omega)) (cwV 0 C.2.2.2.2.1 gX5_run_X5_goTogether rfl rfl rfl (by decide +kernel) ⟨Nat.le_of_ble_eq_true rfl, Nat.le_of_ble_eq_true rfl⟩) 0 rfl rfl rfl (fun _ => zSub.full) zIn.full rfl (Nat.le_of_ble_eq_true rfl) ⟨Nat.le_of_ble_eq_true rfl, Nat.le_of_ble_eq_true rfl⟩ dX5_run_59 (fun r_16 u_15 h_17 => ?_)
              obtain rfl : r_16 = (nI ((togF (ordL pri mk) flo bnd frm too amt ((passF (ordL pri mk) flo bnd frm too amt small a9 n9 w9 i).1) ((passF (ordL pri mk) flo bnd frm too amt small a9 n9 w9 i).2.1) ((passF (ordL pri mk) flo bnd frm too amt small a9 n9 w9 i).2.2.1)).2.2.2)) := h_17
              have ht9 := togF_cnt (pri := pri) (n := mk) (flo := flo) (bnd := bnd) (frm := frm) (too := too) (amt := amt) (acc := (passF (ordL pri mk) flo bnd frm too amt small a9 n9 w9 i).1) (net := (passF (ordL pri mk) flo bnd frm too amt small a9 n9 w9 i).2.1) (wai := (passF (ordL pri mk) flo bnd frm too amt small a9 n9 w9 i).2.2.1)
              have := togF_le (ordL pri mk) flo bnd frm too amt (passF (ordL pri mk) flo bnd frm too amt small a9 n9 w9 i).1 (passF (ordL pri mk) flo bnd frm too amt small a9 n9 w9 i).2.1 (passF (ordL pri mk) flo bnd frm too amt small a9 n9 w9 i).2.2.1
              refine z_goto C (tgt := 66) dX5_run_62 (by decide) ?_
              refine z_iadd C (v := (nI (((passF (ordL pri mk) flo bnd frm too amt small a9 n9 w9 i).2.2.2) + ((togF (ordL pri mk) flo bnd frm too amt ((passF (ordL pri mk) flo bnd frm too amt small a9 n9 w9 i).1) ((passF (ordL pri mk) flo bnd frm too amt small a9 n9 w9 i).2.1) ((passF (ordL pri mk) flo bnd frm too amt small a9 n9 w9 i).2.2.1)).2.2.2)))) dX5_run_66 (nI_add ((passF (ordL pri mk) flo bnd frm too amt small a9 n9 w9 i).2.2.2) ((togF (ordL pri mk) flo bnd frm too amt ((passF (ordL pri mk) flo bnd frm too amt small a9 n9 w9 i).1) ((passF (ordL pri mk) flo bnd frm too amt small a9 n9 w9 i).2.1) ((passF (ordL pri mk) flo bnd frm too amt small a9 n9 w9 i).2.2.1)).2.2.2)) ?_
              refine z_istore_n C dX5_run_67 rfl (by decide) [(0, .ref (md 0)), (1, .int g9), (2, .int 1), (3, .int (nI (((passF (ordL pri mk) flo bnd frm too amt small a9 n9 w9 i).2.2.2) + ((togF (ordL pri mk) flo bnd frm too amt ((passF (ordL pri mk) flo bnd frm too amt small a9 n9 w9 i).1) ((passF (ordL pri mk) flo bnd frm too amt small a9 n9 w9 i).2.1) ((passF (ordL pri mk) flo bnd frm too amt small a9 n9 w9 i).2.2.1)).2.2.2)))), (4, .int (nI i))] [1, 2, 3, 0, 4] rfl ?_
              refine z_iload_n C dX5_run_68 rfl 1 rfl ?_
              refine z_iload_n C dX5_run_69 rfl 3 rfl ?_
              refine z_iadd C (v := (g9 + (nI (((passF (ordL pri mk) flo bnd frm too amt small a9 n9 w9 i).2.2.2) + ((togF (ordL pri mk) flo bnd frm too amt ((passF (ordL pri mk) flo bnd frm too amt small a9 n9 w9 i).1) ((passF (ordL pri mk) flo bnd frm too amt small a9 n9 w9 i).2.1) ((passF (ordL pri mk) flo bnd frm too amt small a9 n9 w9 i).2.2.1)).2.2.2))))) dX5_run_70 rfl ?_
              refine z_istore_n C dX5_run_71 rfl (by decide) [(0, .ref (md 0)), (1, .int (g9 + (nI (((passF (ordL pri mk) flo bnd frm too amt small a9 n9 w9 i).2.2.2) + ((togF (ordL pri mk) flo bnd frm too amt ((passF (ordL pri mk) flo bnd frm too amt small a9 n9 w9 i).1) ((passF (ordL pri mk) flo bnd frm too amt small a9 n9 w9 i).2.1) ((passF (ordL pri mk) flo bnd frm too amt small a9 n9 w9 i).2.2.1)).2.2.2))))), (2, .int 1), (3, .int (nI (((passF (ordL pri mk) flo bnd frm too amt small a9 n9 w9 i).2.2.2) + ((togF (ordL pri mk) flo bnd frm too amt ((passF (ordL pri mk) flo bnd frm too amt small a9 n9 w9 i).1) ((passF (ordL pri mk) flo bnd frm too amt small a9 n9 w9 i).2.1) ((passF (ordL pri mk) flo bnd frm too amt small a9 n9 w9 i).2.2.1)).2.2.2)))), (4, .int (nI i))] [1, 0, 2, 3, 4] rfl ?_
              refine z_iload_n C dX5_run_72 rfl 3 rfl ?_
              refine z_if_le C (tgt := 80) dX5_run_73 (by decide) (fun c73_18 => ?_) (fun c73_18 => ?_)
              · skip
                have n_19 : (((passF (ordL pri mk) flo bnd frm too amt small a9 n9 w9 i).2.2.2) + ((togF (ordL pri mk) flo bnd frm too amt ((passF (ordL pri mk) flo bnd frm too amt small a9 n9 w9 i).1) ((passF (ordL pri mk) flo bnd frm too amt small a9 n9 w9 i).2.1) ((passF (ordL pri mk) flo bnd frm too amt small a9 n9 w9 i).2.2.1)).2.2.2)) ≤ 0 := (nI_leI (a := ((passF (ordL pri mk) flo bnd frm too amt small a9 n9 w9 i).2.2.2) + ((togF (ordL pri mk) flo bnd frm too amt ((passF (ordL pri mk) flo bnd frm too amt small a9 n9 w9 i).1) ((passF (ordL pri mk) flo bnd frm too amt small a9 n9 w9 i).2.1) ((passF (ordL pri mk) flo bnd frm too amt small a9 n9 w9 i).2.2.1)).2.2.2)) (b := 0) (by omega) (by omega)).mp c73_18
                refine z_iconst C (v := 0) dX5_run_80 (by decide) ?_
                refine z_istore_n C dX5_run_81 rfl (by decide) [(0, .ref (md 0)), (1, .int (g9 + (nI (((passF (ordL pri mk) flo bnd frm too amt small a9 n9 w9 i).2.2.2) + ((togF (ordL pri mk) flo bnd frm too amt ((passF (ordL pri mk) flo bnd frm too amt small a9 n9 w9 i).1) ((passF (ordL pri mk) flo bnd frm too amt small a9 n9 w9 i).2.1) ((passF (ordL pri mk) flo bnd frm too amt small a9 n9 w9 i).2.2.1)).2.2.2))))), (2, .int 0), (3, .int (nI (((passF (ordL pri mk) flo bnd frm too amt small a9 n9 w9 i).2.2.2) + ((togF (ordL pri mk) flo bnd frm too amt ((passF (ordL pri mk) flo bnd frm too amt small a9 n9 w9 i).1) ((passF (ordL pri mk) flo bnd frm too amt small a9 n9 w9 i).2.1) ((passF (ordL pri mk) flo bnd frm too amt small a9 n9 w9 i).2.2.1)).2.2.2)))), (4, .int (nI i))] [1, 2, 0, 3, 4] rfl ?_
                refine z_goto C (tgt := 9) dX5_run_82 (by decide) ?_
                refine z_iload_n C dX5_run_9 rfl 2 rfl ?_
                refine z_if_eq C (tgt := 85) dX5_run_10 (by decide) (fun _ => ?_) (fun h => absurd h (by decide))
                refine z_iload_n C dX5_run_85 rfl 1 rfl ?_
                exact z_iret C u_15 (by obtain rfl : i = 5 := (by omega); obtain ⟨k9, rfl⟩ : ∃ k9, f9 = k9 + 1 := ⟨f9 - 1, by omega⟩; first | (exfalso; omega) | (rw [run_e2 hR (by assumption) (by omega)])) (by obtain rfl : i = 5 := (by omega); obtain ⟨k9, rfl⟩ : ∃ k9, f9 = k9 + 1 := ⟨f9 - 1, by omega⟩; first | (exfalso; omega) | (rw [run_e2 hR (by assumption) (by omega)])) (by decide) (by decide) dX5_run_86
              · skip
                have n_20 : ¬ (((passF (ordL pri mk) flo bnd frm too amt small a9 n9 w9 i).2.2.2) + ((togF (ordL pri mk) flo bnd frm too amt ((passF (ordL pri mk) flo bnd frm too amt small a9 n9 w9 i).1) ((passF (ordL pri mk) flo bnd frm too amt small a9 n9 w9 i).2.1) ((passF (ordL pri mk) flo bnd frm too amt small a9 n9 w9 i).2.2.1)).2.2.2)) ≤ 0 := fun q => c73_18 ((nI_leI (a := ((passF (ordL pri mk) flo bnd frm too amt small a9 n9 w9 i).2.2.2) + ((togF (ordL pri mk) flo bnd frm too amt ((passF (ordL pri mk) flo bnd frm too amt small a9 n9 w9 i).1) ((passF (ordL pri mk) flo bnd frm too amt small a9 n9 w9 i).2.1) ((passF (ordL pri mk) flo bnd frm too amt small a9 n9 w9 i).2.2.1)).2.2.2)) (b := 0) (by omega) (by omega)).mpr q)
                refine z_iconst C (v := 1) dX5_run_76 (by decide) ?_
                refine z_goto C (tgt := 81) dX5_run_77 (by decide) ?_
                refine z_istore_n C dX5_run_81 rfl (by decide) [(0, .ref (md 0)), (1, .int (g9 + (nI (((passF (ordL pri mk) flo bnd frm too amt small a9 n9 w9 i).2.2.2) + ((togF (ordL pri mk) flo bnd frm too amt ((passF (ordL pri mk) flo bnd frm too amt small a9 n9 w9 i).1) ((passF (ordL pri mk) flo bnd frm too amt small a9 n9 w9 i).2.1) ((passF (ordL pri mk) flo bnd frm too amt small a9 n9 w9 i).2.2.1)).2.2.2))))), (2, .int 1), (3, .int (nI (((passF (ordL pri mk) flo bnd frm too amt small a9 n9 w9 i).2.2.2) + ((togF (ordL pri mk) flo bnd frm too amt ((passF (ordL pri mk) flo bnd frm too amt small a9 n9 w9 i).1) ((passF (ordL pri mk) flo bnd frm too amt small a9 n9 w9 i).2.1) ((passF (ordL pri mk) flo bnd frm too amt small a9 n9 w9 i).2.2.1)).2.2.2)))), (4, .int (nI i))] [1, 2, 0, 3, 4] rfl ?_
                refine z_goto C (tgt := 9) dX5_run_82 (by decide) ?_
                refine z_lv [(0, .ref (md 0)), (1, .int (g9 + (nI (((passF (ordL pri mk) flo bnd frm too amt small a9 n9 w9 i).2.2.2) + ((togF (ordL pri mk) flo bnd frm too amt ((passF (ordL pri mk) flo bnd frm too amt small a9 n9 w9 i).1) ((passF (ordL pri mk) flo bnd frm too amt small a9 n9 w9 i).2.1) ((passF (ordL pri mk) flo bnd frm too amt small a9 n9 w9 i).2.2.1)).2.2.2))))), (2, .int 1)] [0, 1, 2] rfl ?_
                exact ih_2 (f9 - 1) (g9 + (nI (((passF (ordL pri mk) flo bnd frm too amt small a9 n9 w9 i).2.2.2) + ((togF (ordL pri mk) flo bnd frm too amt ((passF (ordL pri mk) flo bnd frm too amt small a9 n9 w9 i).1) ((passF (ordL pri mk) flo bnd frm too amt small a9 n9 w9 i).2.1) ((passF (ordL pri mk) flo bnd frm too amt small a9 n9 w9 i).2.2.1)).2.2.2)))) ((togF (ordL pri mk) flo bnd frm too amt ((passF (ordL pri mk) flo bnd frm too amt small a9 n9 w9 i).1) ((passF (ordL pri mk) flo bnd frm too amt small a9 n9 w9 i).2.1) ((passF (ordL pri mk) flo bnd frm too amt small a9 n9 w9 i).2.2.1)).1) ((togF (ordL pri mk) flo bnd frm too amt ((passF (ordL pri mk) flo bnd frm too amt small a9 n9 w9 i).1) ((passF (ordL pri mk) flo bnd frm too amt small a9 n9 w9 i).2.1) ((passF (ordL pri mk) flo bnd frm too amt small a9 n9 w9 i).2.2.1)).2.1) ((togF (ordL pri mk) flo bnd frm too amt ((passF (ordL pri mk) flo bnd frm too amt small a9 n9 w9 i).1) ((passF (ordL pri mk) flo bnd frm too amt small a9 n9 w9 i).2.1) ((passF (ordL pri mk) flo bnd frm too amt small a9 n9 w9 i).2.2.1)).2.2.1) u_15 (by omega) (by omega) (by obtain rfl : i = 5 := (by omega); obtain ⟨k9, rfl⟩ : ∃ k9, f9 = k9 + 1 := ⟨f9 - 1, by omega⟩; first | exact run_s1 hR (by assumption) | exact run_s2 hR (by assumption) (by omega))
          · skip
            have n_21 : ¬ 5 ≤ i := fun q => c21_7 ((nI_leI (a := 5) (b := i) (by omega) (by omega)).mpr q)
            refine z_aload_n C dX5_run_24 rfl 0 rfl ?_
            refine z_iload C dX5_run_25 4 rfl ?_
            rcases hq_22 : nxtQ (ordL pri mk) ((passF (ordL pri mk) flo bnd frm too amt small a9 n9 w9 i).1) ((passF (ordL pri mk) flo bnd frm too amt small a9 n9 w9 i).2.1) flo bnd frm too amt ((passF (ordL pri mk) flo bnd frm too amt small a9 n9 w9 i).2.2.1) small i with _ | p_23
            · skip
              refine z_callVi C (T := Unit) (As := [.int (nI i)]) (rest := []) (ws' := fun _ => (wM md cI cZ ((passF (ordL pri mk) flo bnd frm too amt small a9 n9 w9 i).1) flo pap clo ((passF (ordL pri mk) flo bnd frm too amt small a9 n9 w9 i).2.1) bnd frm too amt pri ((passF (ordL pri mk) flo bnd frm too amt small a9 n9 w9 i).2.2.1) s9 ldr bor lnt rat plg opn (nI mk) small (nI lm) price cut proc 0)) (m_next l sa D cI cZ cL md ((passF (ordL pri mk) flo bnd frm too amt small a9 n9 w9 i).1) flo pap clo ((passF (ordL pri mk) flo bnd frm too amt small a9 n9 w9 i).2.1) bnd frm too amt pri ((passF (ordL pri mk) flo bnd frm too amt small a9 n9 w9 i).2.2.1) s9 ldr bor lnt rat plg opn small price cut proc 0 mk lm i (by first | assumption | omega) (by first | assumption | omega) (by first | assumption | omega) (by first | assumption | omega)) (cwV 1 C.2.2.2.2.1 gX5_run_X5_next rfl rfl rfl (by decide +kernel) ⟨Nat.le_of_ble_eq_true rfl, Nat.le_of_ble_eq_true rfl⟩) 0 rfl rfl rfl (fun _ => zSub.full) zIn.full rfl (Nat.le_of_ble_eq_true rfl) ⟨Nat.le_of_ble_eq_true rfl, Nat.le_of_ble_eq_true rfl⟩ dX5_run_27 (fun r_24 _ h_25 => ?_)
              obtain rfl : r_24 = (-1) := h_25.trans (by rw [hq_22]; rfl)
              refine z_istore C dX5_run_30 (by decide) [(0, .ref (md 0)), (1, .int g9), (2, .int 1), (3, .int (nI ((passF (ordL pri mk) flo bnd frm too amt small a9 n9 w9 i).2.2.2))), (4, .int (nI i)), (5, .int (-1))] [1, 2, 3, 4, 5, 0] rfl ?_
              refine z_iload C dX5_run_32 5 rfl ?_
              refine z_iconst C (v := (-1)) dX5_run_34 (by decide) ?_
              refine z_icmp_eq C (tgt := 47) dX5_run_35 (by decide) (fun _ => ?_) (fun h => absurd h (by decide))
              refine z_iinc C (v := (nI (i + 1))) dX5_run_47 4 rfl (nI_add i 1) (by decide) [(0, .ref (md 0)), (1, .int g9), (2, .int 1), (3, .int (nI ((passF (ordL pri mk) flo bnd frm too amt small a9 n9 w9 i).2.2.2))), (4, .int (nI (i + 1))), (5, .int (-1))] [1, 2, 3, 4, 0, 5] rfl ?_
              refine z_goto C (tgt := 18) dX5_run_50 (by decide) ?_
              refine z_lv [(0, .ref (md 0)), (1, .int g9), (2, .int 1), (3, .int (nI ((passF (ordL pri mk) flo bnd frm too amt small a9 n9 w9 i).2.2.2))), (4, .int (nI (i + 1)))] [0, 1, 2, 3, 4] rfl ?_
              refine z_ws (wM md cI cZ ((passF (ordL pri mk) flo bnd frm too amt small a9 n9 w9 (i + 1)).1) flo pap clo ((passF (ordL pri mk) flo bnd frm too amt small a9 n9 w9 (i + 1)).2.1) bnd frm too amt pri ((passF (ordL pri mk) flo bnd frm too amt small a9 n9 w9 (i + 1)).2.2.1) s9 ldr bor lnt rat plg opn (nI mk) small (nI lm) price cut proc 0) (by simp only [passF, c21_7, n_21, hq_22]) ?_
              refine z_lveq [(0, .ref (md 0)), (1, .int g9), (2, .int 1), (3, .int (nI ((passF (ordL pri mk) flo bnd frm too amt small a9 n9 w9 (i + 1)).2.2.2))), (4, .int (nI (i + 1)))] (by simp only [passF, c21_7, n_21, hq_22]) ?_
              exact ih_5 (i + 1) (by omega) (by first | assumption | omega)
            · skip
              have hm_p_23 := nxtQ_mem hq_22
              have := hm_p_23.1
              refine z_callVi C (T := Unit) (As := [.int (nI i)]) (rest := []) (ws' := fun _ => (wM md cI cZ ((passF (ordL pri mk) flo bnd frm too amt small a9 n9 w9 i).1) flo pap clo ((passF (ordL pri mk) flo bnd frm too amt small a9 n9 w9 i).2.1) bnd frm too amt pri ((passF (ordL pri mk) flo bnd frm too amt small a9 n9 w9 i).2.2.1) s9 ldr bor lnt rat plg opn (nI mk) small (nI lm) price cut proc 0)) (m_next l sa D cI cZ cL md ((passF (ordL pri mk) flo bnd frm too amt small a9 n9 w9 i).1) flo pap clo ((passF (ordL pri mk) flo bnd frm too amt small a9 n9 w9 i).2.1) bnd frm too amt pri ((passF (ordL pri mk) flo bnd frm too amt small a9 n9 w9 i).2.2.1) s9 ldr bor lnt rat plg opn small price cut proc 0 mk lm i (by first | assumption | omega) (by first | assumption | omega) (by first | assumption | omega) (by first | assumption | omega)) (cwV 1 C.2.2.2.2.1 gX5_run_X5_next rfl rfl rfl (by decide +kernel) ⟨Nat.le_of_ble_eq_true rfl, Nat.le_of_ble_eq_true rfl⟩) 0 rfl rfl rfl (fun _ => zSub.full) zIn.full rfl (Nat.le_of_ble_eq_true rfl) ⟨Nat.le_of_ble_eq_true rfl, Nat.le_of_ble_eq_true rfl⟩ dX5_run_27 (fun r_26 _ h_27 => ?_)
              obtain rfl : r_26 = (nI p_23) := h_27.trans (by rw [hq_22]; rfl)
              refine z_istore C dX5_run_30 (by decide) [(0, .ref (md 0)), (1, .int g9), (2, .int 1), (3, .int (nI ((passF (ordL pri mk) flo bnd frm too amt small a9 n9 w9 i).2.2.2))), (4, .int (nI i)), (5, .int (nI p_23))] [1, 2, 3, 4, 5, 0] rfl ?_
              refine z_iload C dX5_run_32 5 rfl ?_
              refine z_iconst C (v := (-1)) dX5_run_34 (by decide) ?_
              refine z_icmp_eq C (tgt := 47) dX5_run_35 (by decide) (fun h => absurd h (nI_m1 (by omega))) (fun _ => ?_)
              refine z_aload_n C dX5_run_38 rfl 0 rfl ?_
              refine z_iload C dX5_run_39 5 rfl ?_
              refine z_callVv C (T := Unit) (As := [.int (nI p_23)]) (rest := []) (ws' := fun _ => (wM md cI cZ (mvA (ix (frm p_23)) (ix (too p_23)) (amt p_23) ((passF (ordL pri mk) flo bnd frm too amt small a9 n9 w9 i).1)) flo pap clo (mvN (ix (frm p_23)) (ix (too p_23)) (amt p_23) ((passF (ordL pri mk) flo bnd frm too amt small a9 n9 w9 i).2.1)) bnd frm too amt pri (upd ((passF (ordL pri mk) flo bnd frm too amt small a9 n9 w9 i).2.2.1) p_23 0) s9 ldr bor lnt rat plg opn (nI mk) small (nI lm) price cut proc 0)) (m_goes l sa D cI cZ cL md ((passF (ordL pri mk) flo bnd frm too amt small a9 n9 w9 i).1) flo pap clo ((passF (ordL pri mk) flo bnd frm too amt small a9 n9 w9 i).2.1) bnd frm too amt pri ((passF (ordL pri mk) flo bnd frm too amt small a9 n9 w9 i).2.2.1) s9 ldr bor lnt rat plg opn small price cut proc 0 mk lm p_23 (by first | assumption | omega) (by first | assumption | omega) (by first | assumption | omega) (by first | assumption | omega)) (cwV 1 C.2.2.2.2.1 gX5_run_X5_goes rfl rfl rfl (by decide +kernel) ⟨Nat.le_of_ble_eq_true rfl, Nat.le_of_ble_eq_true rfl⟩) 0 rfl rfl rfl (fun _ => zSub.full) zIn.full rfl (Nat.le_of_ble_eq_true rfl) ⟨Nat.le_of_ble_eq_true rfl, Nat.le_of_ble_eq_true rfl⟩ dX5_run_41 (fun _ _ => ?_)
              refine z_iinc C (v := (nI (((passF (ordL pri mk) flo bnd frm too amt small a9 n9 w9 i).2.2.2) + 1))) dX5_run_44 3 rfl (nI_add ((passF (ordL pri mk) flo bnd frm too amt small a9 n9 w9 i).2.2.2) 1) (by decide) [(0, .ref (md 0)), (1, .int g9), (2, .int 1), (3, .int (nI (((passF (ordL pri mk) flo bnd frm too amt small a9 n9 w9 i).2.2.2) + 1))), (4, .int (nI i)), (5, .int (nI p_23))] [1, 2, 3, 0, 4, 5] rfl ?_
              refine z_iinc C (v := (nI (i + 1))) dX5_run_47 4 rfl (nI_add i 1) (by decide) [(0, .ref (md 0)), (1, .int g9), (2, .int 1), (3, .int (nI (((passF (ordL pri mk) flo bnd frm too amt small a9 n9 w9 i).2.2.2) + 1))), (4, .int (nI (i + 1))), (5, .int (nI p_23))] [1, 2, 3, 4, 0, 5] rfl ?_
              refine z_goto C (tgt := 18) dX5_run_50 (by decide) ?_
              refine z_lv [(0, .ref (md 0)), (1, .int g9), (2, .int 1), (3, .int (nI (((passF (ordL pri mk) flo bnd frm too amt small a9 n9 w9 i).2.2.2) + 1))), (4, .int (nI (i + 1)))] [0, 1, 2, 3, 4] rfl ?_
              refine z_ws (wM md cI cZ ((passF (ordL pri mk) flo bnd frm too amt small a9 n9 w9 (i + 1)).1) flo pap clo ((passF (ordL pri mk) flo bnd frm too amt small a9 n9 w9 (i + 1)).2.1) bnd frm too amt pri ((passF (ordL pri mk) flo bnd frm too amt small a9 n9 w9 (i + 1)).2.2.1) s9 ldr bor lnt rat plg opn (nI mk) small (nI lm) price cut proc 0) (by simp only [passF, c21_7, n_21, hq_22]) ?_
              refine z_lveq [(0, .ref (md 0)), (1, .int g9), (2, .int 1), (3, .int (nI ((passF (ordL pri mk) flo bnd frm too amt small a9 n9 w9 (i + 1)).2.2.2))), (4, .int (nI (i + 1)))] (by simp only [passF, c21_7, n_21, hq_22]) ?_
              exact ih_5 (i + 1) (by omega) (by first | assumption | omega)
      refine z_ws (wM md cI cZ ((passF (ordL pri mk) flo bnd frm too amt small a9 n9 w9 0).1) flo pap clo ((passF (ordL pri mk) flo bnd frm too amt small a9 n9 w9 0).2.1) bnd frm too amt pri ((passF (ordL pri mk) flo bnd frm too amt small a9 n9 w9 0).2.2.1) s9 ldr bor lnt rat plg opn (nI mk) small (nI lm) price cut proc 0) (by rfl) ?_
      refine z_lveq [(0, .ref (md 0)), (1, .int g9), (2, .int 1), (3, .int (nI ((passF (ordL pri mk) flo bnd frm too amt small a9 n9 w9 0).2.2.2))), (4, .int (nI 0))] (by rfl) ?_
      exact L18_k_4 (5 - 0 + 1) 0 (Nat.lt_succ_self _) (by first | assumption | omega)
  exact L9_k_1 (cntW wai mk + 1) 61 0 acc net wai fst (Nat.lt_succ_self _) (by have := cntW_le wai mk; omega) (by rfl)
set_option maxHeartbeats 4000000 in
set_option maxRecDepth 100000 in
theorem m_queued_ok (l : Launch) (sa : Nat → Nat) (D : va_G) (cI cZ cL : ClassId) (md : Nat → Nat) (acc flo pap clo net bnd frm too amt pri wai fst ldr bor lnt rat plg opn : Nat → Int32) (small price cut proc thr : Int32) (mk lm : Nat) (b : Nat) (k : Nat) (hb : b < 5) (hk : k < 2147483648) (hmk : mk ≤ 60) (hfrm : wf5 mk frm) (htoo : wf5 mk too) : zMi (T := Unit) sa D vwCl (zty cI cZ cL) l yX5_queued wsX5_queued ({ frames := 1, cells := 0, slots := 0, locals := 25 } : Room) [.ref (md 0), .int (nI b), .int (nI k)] (wM md cI cZ acc flo pap clo net bnd frm too amt pri wai fst ldr bor lnt rat plg opn (nI mk) small (nI lm) price cut proc thr) (fun r9 _ => r9 = oI (atQ (ordL pri mk) (isq wai frm b) k)) (fun _ => (wM md cI cZ acc flo pap clo net bnd frm too amt pri wai fst ldr bor lnt rat plg opn (nI mk) small (nI lm) price cut proc 0)) 0 0 := by
  refine zMi.of (ret := (some .int)) (cc := cX5_queued) (nL := 3) (own := RX5) (by decide +kernel) rfl [(0, .ref (md 0)), (1, .int (nI b)), (2, .int (nI k))] rfl (Nat.le_of_ble_eq_true rfl) rfl ?_
  intro A p e s m args below meth c C hmn
  refine z_aload_n C dX5_queued_0 rfl 0 rfl ?_
  refine z_iload_n C dX5_queued_1 rfl 1 rfl ?_
  refine z_callSi C (T := Unit) (As := [.int (nI b)]) (rest := [.ref (md 0)]) (ws' := fun _ => (wM md cI cZ acc flo pap clo net bnd frm too amt pri wai fst ldr bor lnt rat plg opn (nI mk) small (nI lm) price cut proc thr)) (m_isBank_y l sa D cI cZ cL  b (by first | assumption | omega)) (va_cwS 1 C.2.2.2.2.1 gX5_queued_X5_isBank rfl rfl rfl (by decide +kernel) ⟨Nat.le_of_ble_eq_true rfl, Nat.le_of_ble_eq_true rfl⟩) (fun _ => zSub.none) zIn.none rfl (Nat.le_of_ble_eq_true rfl) ⟨Nat.le_of_ble_eq_true rfl, Nat.le_of_ble_eq_true rfl⟩ dX5_queued_2 (fun r_1 _ h_2 => ?_)
  obtain rfl : r_1 = 1 := h_2
  refine z_if_eq C (tgt := 16) dX5_queued_5 (by decide) (fun h => absurd h (by decide)) (fun _ => ?_)
  refine z_iload_n C dX5_queued_8 rfl 2 rfl ?_
  refine z_if_lt C (tgt := 16) dX5_queued_9 (by decide) (fun h => absurd h (nI_pos (by omega))) (fun _ => ?_)
  refine z_iconst C (v := 1) dX5_queued_12 (by decide) ?_
  refine z_goto C (tgt := 17) dX5_queued_13 (by decide) ?_
  refine z_callVi C (T := Unit) (As := [.int 1]) (rest := []) (ws' := fun _ => (wM md cI cZ acc flo pap clo net bnd frm too amt pri wai fst ldr bor lnt rat plg opn (nI mk) small (nI lm) price cut proc 0)) (m_asks_y l sa D cI cZ cL md acc flo pap clo net bnd frm too amt pri wai fst ldr bor lnt rat plg opn small price cut proc thr mk lm  ) (cwV 1 C.2.2.2.2.1 gX5_queued_X5_asks rfl rfl rfl (by decide +kernel) ⟨Nat.le_of_ble_eq_true rfl, Nat.le_of_ble_eq_true rfl⟩) 0 rfl rfl rfl (fun _ => zSub.full) zIn.full rfl (Nat.le_of_ble_eq_true rfl) ⟨Nat.le_of_ble_eq_true rfl, Nat.le_of_ble_eq_true rfl⟩ dX5_queued_17 (fun r_3 _ h_4 => ?_)
  obtain rfl : r_3 = 1 := h_4
  refine z_if_eq C (tgt := 32) dX5_queued_20 (by decide) (fun h => absurd h (by decide)) (fun _ => ?_)
  refine z_aload_n C dX5_queued_23 rfl 0 rfl ?_
  refine z_iload_n C dX5_queued_24 rfl 1 rfl ?_
  refine z_iload_n C dX5_queued_25 rfl 2 rfl ?_
  rcases hq_5 : atQ (ordL pri mk) (isq wai frm b) k with _ | p_6
  · skip
    refine z_callVi C (T := Unit) (As := [.int (nI b), .int (nI k)]) (rest := []) (ws' := fun _ => (wM md cI cZ acc flo pap clo net bnd frm too amt pri wai fst ldr bor lnt rat plg opn (nI mk) small (nI lm) price cut proc 0)) (m_at l sa D cI cZ cL md acc flo pap clo net bnd frm too amt pri wai fst ldr bor lnt rat plg opn small price cut proc 0 mk lm b k (by first | assumption | omega) (by first | assumption | omega) (by first | assumption | omega) (by first | assumption | omega) (by first | assumption | omega)) (cwV 2 C.2.2.2.2.1 gX5_queued_X5_at rfl rfl rfl (by decide +kernel) ⟨Nat.le_of_ble_eq_true rfl, Nat.le_of_ble_eq_true rfl⟩) 0 rfl rfl rfl (fun _ => zSub.full) zIn.full rfl (Nat.le_of_ble_eq_true rfl) ⟨Nat.le_of_ble_eq_true rfl, Nat.le_of_ble_eq_true rfl⟩ dX5_queued_26 (fun r_7 _ h_8 => ?_)
    obtain rfl : r_7 = (-1) := h_8.trans (by rw [hq_5]; rfl)
    refine z_goto C (tgt := 33) dX5_queued_29 (by decide) ?_
    exact z_iret C () (by simp [hq_5, oI]) rfl (by decide) (by decide) dX5_queued_33
  · skip
    have hm_p_6 := atQ_mem hq_5
    have := ordL_mem hm_p_6.1
    refine z_callVi C (T := Unit) (As := [.int (nI b), .int (nI k)]) (rest := []) (ws' := fun _ => (wM md cI cZ acc flo pap clo net bnd frm too amt pri wai fst ldr bor lnt rat plg opn (nI mk) small (nI lm) price cut proc 0)) (m_at l sa D cI cZ cL md acc flo pap clo net bnd frm too amt pri wai fst ldr bor lnt rat plg opn small price cut proc 0 mk lm b k (by first | assumption | omega) (by first | assumption | omega) (by first | assumption | omega) (by first | assumption | omega) (by first | assumption | omega)) (cwV 2 C.2.2.2.2.1 gX5_queued_X5_at rfl rfl rfl (by decide +kernel) ⟨Nat.le_of_ble_eq_true rfl, Nat.le_of_ble_eq_true rfl⟩) 0 rfl rfl rfl (fun _ => zSub.full) zIn.full rfl (Nat.le_of_ble_eq_true rfl) ⟨Nat.le_of_ble_eq_true rfl, Nat.le_of_ble_eq_true rfl⟩ dX5_queued_26 (fun r_9 _ h_10 => ?_)
    obtain rfl : r_9 = (nI p_6) := h_10.trans (by rw [hq_5]; rfl)
    refine z_goto C (tgt := 33) dX5_queued_29 (by decide) ?_
    exact z_iret C () (by simp [hq_5, oI]) rfl (by decide) (by decide) dX5_queued_33
set_option maxHeartbeats 4000000 in
set_option maxRecDepth 100000 in
theorem m_queued_b1 (l : Launch) (sa : Nat → Nat) (D : va_G) (cI cZ cL : ClassId) (md : Nat → Nat) (acc flo pap clo net bnd frm too amt pri wai fst ldr bor lnt rat plg opn : Nat → Int32) (small price cut proc thr : Int32) (mk lm : Nat) (b : Int32) (k : Int32) (hb : b < 0 ∨ 5 ≤ b) : zMi (T := Unit) sa D vwCl (zty cI cZ cL) l yX5_queued wsX5_queued ({ frames := 1, cells := 0, slots := 0, locals := 21 } : Room) [.ref (md 0), .int b, .int k] (wM md cI cZ acc flo pap clo net bnd frm too amt pri wai fst ldr bor lnt rat plg opn (nI mk) small (nI lm) price cut proc thr) (fun r9 _ => r9 = 0) (fun _ => (wM md cI cZ acc flo pap clo net bnd frm too amt pri wai fst ldr bor lnt rat plg opn (nI mk) small (nI lm) price cut proc 1)) 0 0 := by
  refine zMi.of (ret := (some .int)) (cc := cX5_queued) (nL := 3) (own := RX5) (by decide +kernel) rfl [(0, .ref (md 0)), (1, .int b), (2, .int k)] rfl (Nat.le_of_ble_eq_true rfl) rfl ?_
  intro A p e s m args below meth c C hmn
  refine z_aload_n C dX5_queued_0 rfl 0 rfl ?_
  refine z_iload_n C dX5_queued_1 rfl 1 rfl ?_
  refine z_callSi C (T := Unit) (As := [.int b]) (rest := [.ref (md 0)]) (ws' := fun _ => (wM md cI cZ acc flo pap clo net bnd frm too amt pri wai fst ldr bor lnt rat plg opn (nI mk) small (nI lm) price cut proc thr)) (m_isBank_n l sa D cI cZ cL  b (by first | assumption | omega)) (va_cwS 1 C.2.2.2.2.1 gX5_queued_X5_isBank rfl rfl rfl (by decide +kernel) ⟨Nat.le_of_ble_eq_true rfl, Nat.le_of_ble_eq_true rfl⟩) (fun _ => zSub.none) zIn.none rfl (Nat.le_of_ble_eq_true rfl) ⟨Nat.le_of_ble_eq_true rfl, Nat.le_of_ble_eq_true rfl⟩ dX5_queued_2 (fun r_1 _ h_2 => ?_)
  obtain rfl : r_1 = 0 := h_2
  refine z_if_eq C (tgt := 16) dX5_queued_5 (by decide) (fun _ => ?_) (fun h => absurd h (by decide))
  refine z_iconst C (v := 0) dX5_queued_16 (by decide) ?_
  refine z_callVi C (T := Unit) (As := [.int 0]) (rest := []) (ws' := fun _ => (wM md cI cZ acc flo pap clo net bnd frm too amt pri wai fst ldr bor lnt rat plg opn (nI mk) small (nI lm) price cut proc 1)) (m_asks_n l sa D cI cZ cL md acc flo pap clo net bnd frm too amt pri wai fst ldr bor lnt rat plg opn small price cut proc thr mk lm  ) (cwV 1 C.2.2.2.2.1 gX5_queued_X5_asks rfl rfl rfl (by decide +kernel) ⟨Nat.le_of_ble_eq_true rfl, Nat.le_of_ble_eq_true rfl⟩) 0 rfl rfl rfl (fun _ => zSub.full) zIn.full rfl (Nat.le_of_ble_eq_true rfl) ⟨Nat.le_of_ble_eq_true rfl, Nat.le_of_ble_eq_true rfl⟩ dX5_queued_17 (fun r_3 _ h_4 => ?_)
  obtain rfl : r_3 = 0 := h_4
  refine z_if_eq C (tgt := 32) dX5_queued_20 (by decide) (fun _ => ?_) (fun h => absurd h (by decide))
  refine z_iconst C (v := 0) dX5_queued_32 (by decide) ?_
  exact z_iret C () rfl rfl (by decide) (by decide) dX5_queued_33
set_option maxHeartbeats 4000000 in
set_option maxRecDepth 100000 in
theorem m_queued_b2 (l : Launch) (sa : Nat → Nat) (D : va_G) (cI cZ cL : ClassId) (md : Nat → Nat) (acc flo pap clo net bnd frm too amt pri wai fst ldr bor lnt rat plg opn : Nat → Int32) (small price cut proc thr : Int32) (mk lm : Nat) (b : Nat) (k : Int32) (hb : b < 5) (hk : k < 0) : zMi (T := Unit) sa D vwCl (zty cI cZ cL) l yX5_queued wsX5_queued ({ frames := 1, cells := 0, slots := 0, locals := 21 } : Room) [.ref (md 0), .int (nI b), .int k] (wM md cI cZ acc flo pap clo net bnd frm too amt pri wai fst ldr bor lnt rat plg opn (nI mk) small (nI lm) price cut proc thr) (fun r9 _ => r9 = 0) (fun _ => (wM md cI cZ acc flo pap clo net bnd frm too amt pri wai fst ldr bor lnt rat plg opn (nI mk) small (nI lm) price cut proc 1)) 0 0 := by
  refine zMi.of (ret := (some .int)) (cc := cX5_queued) (nL := 3) (own := RX5) (by decide +kernel) rfl [(0, .ref (md 0)), (1, .int (nI b)), (2, .int k)] rfl (Nat.le_of_ble_eq_true rfl) rfl ?_
  intro A p e s m args below meth c C hmn
  refine z_aload_n C dX5_queued_0 rfl 0 rfl ?_
  refine z_iload_n C dX5_queued_1 rfl 1 rfl ?_
  refine z_callSi C (T := Unit) (As := [.int (nI b)]) (rest := [.ref (md 0)]) (ws' := fun _ => (wM md cI cZ acc flo pap clo net bnd frm too amt pri wai fst ldr bor lnt rat plg opn (nI mk) small (nI lm) price cut proc thr)) (m_isBank_y l sa D cI cZ cL  b (by first | assumption | omega)) (va_cwS 1 C.2.2.2.2.1 gX5_queued_X5_isBank rfl rfl rfl (by decide +kernel) ⟨Nat.le_of_ble_eq_true rfl, Nat.le_of_ble_eq_true rfl⟩) (fun _ => zSub.none) zIn.none rfl (Nat.le_of_ble_eq_true rfl) ⟨Nat.le_of_ble_eq_true rfl, Nat.le_of_ble_eq_true rfl⟩ dX5_queued_2 (fun r_1 _ h_2 => ?_)
  obtain rfl : r_1 = 1 := h_2
  refine z_if_eq C (tgt := 16) dX5_queued_5 (by decide) (fun h => absurd h (by decide)) (fun _ => ?_)
  refine z_iload_n C dX5_queued_8 rfl 2 rfl ?_
  refine z_if_lt C (tgt := 16) dX5_queued_9 (by decide) (fun c9_3 => ?_) (fun c9_3 => ?_)
  · skip
    refine z_iconst C (v := 0) dX5_queued_16 (by decide) ?_
    refine z_callVi C (T := Unit) (As := [.int 0]) (rest := []) (ws' := fun _ => (wM md cI cZ acc flo pap clo net bnd frm too amt pri wai fst ldr bor lnt rat plg opn (nI mk) small (nI lm) price cut proc 1)) (m_asks_n l sa D cI cZ cL md acc flo pap clo net bnd frm too amt pri wai fst ldr bor lnt rat plg opn small price cut proc thr mk lm  ) (cwV 1 C.2.2.2.2.1 gX5_queued_X5_asks rfl rfl rfl (by decide +kernel) ⟨Nat.le_of_ble_eq_true rfl, Nat.le_of_ble_eq_true rfl⟩) 0 rfl rfl rfl (fun _ => zSub.full) zIn.full rfl (Nat.le_of_ble_eq_true rfl) ⟨Nat.le_of_ble_eq_true rfl, Nat.le_of_ble_eq_true rfl⟩ dX5_queued_17 (fun r_4 _ h_5 => ?_)
    obtain rfl : r_4 = 0 := h_5
    refine z_if_eq C (tgt := 32) dX5_queued_20 (by decide) (fun _ => ?_) (fun h => absurd h (by decide))
    refine z_iconst C (v := 0) dX5_queued_32 (by decide) ?_
    exact z_iret C () rfl rfl (by decide) (by decide) dX5_queued_33
  · skip
    exfalso
    contradiction
set_option maxHeartbeats 4000000 in
set_option maxRecDepth 100000 in
theorem m_why_ok (l : Launch) (sa : Nat → Nat) (D : va_G) (cI cZ cL : ClassId) (md : Nat → Nat) (acc flo pap clo net bnd frm too amt pri wai fst ldr bor lnt rat plg opn : Nat → Int32) (small price cut proc thr : Int32) (mk lm : Nat) (p9 : Nat) (hp : p9 < mk) (hmk : mk ≤ 60) (hfrm : wf5 mk frm) (htoo : wf5 mk too) : zMi (T := Unit) sa D vwCl (zty cI cZ cL) l yX5_why wsX5_why ({ frames := 1, cells := 0, slots := 0, locals := 23 } : Room) [.ref (md 0), .int (nI p9)] (wM md cI cZ acc flo pap clo net bnd frm too amt pri wai fst ldr bor lnt rat plg opn (nI mk) small (nI lm) price cut proc thr) (fun r9 _ => r9 = (obs acc net flo bnd frm too amt wai p9)) (fun _ => (wM md cI cZ acc flo pap clo net bnd frm too amt pri wai fst ldr bor lnt rat plg opn (nI mk) small (nI lm) price cut proc 0)) 0 0 := by
  refine zMi.of (ret := (some .int)) (cc := cX5_why) (nL := 2) (own := RX5) (by decide +kernel) rfl [(0, .ref (md 0)), (1, .int (nI p9))] rfl (Nat.le_of_ble_eq_true rfl) rfl ?_
  intro A p e s m args below meth c C hmn
  refine z_aload_n C dX5_why_0 rfl 0 rfl ?_
  refine z_aload_n C dX5_why_1 rfl 0 rfl ?_
  refine z_iload_n C dX5_why_2 rfl 1 rfl ?_
  refine z_callVi C (T := Unit) (As := [.int (nI p9)]) (rest := [.ref (md 0)]) (ws' := fun _ => (wM md cI cZ acc flo pap clo net bnd frm too amt pri wai fst ldr bor lnt rat plg opn (nI mk) small (nI lm) price cut proc thr)) (m_isPayment_y l sa D cI cZ cL md acc flo pap clo net bnd frm too amt pri wai fst ldr bor lnt rat plg opn small price cut proc thr mk lm p9 (by first | assumption | omega) (by first | assumption | omega)) (cwV 1 C.2.2.2.2.1 gX5_why_X5_isPayment rfl rfl rfl (by decide +kernel) ⟨Nat.le_of_ble_eq_true rfl, Nat.le_of_ble_eq_true rfl⟩) 0 rfl rfl rfl (fun _ => zSub.full) zIn.full rfl (Nat.le_of_ble_eq_true rfl) ⟨Nat.le_of_ble_eq_true rfl, Nat.le_of_ble_eq_true rfl⟩ dX5_why_3 (fun r_1 _ h_2 => ?_)
  obtain rfl : r_1 = 1 := h_2
  refine z_callVi C (T := Unit) (As := [.int 1]) (rest := []) (ws' := fun _ => (wM md cI cZ acc flo pap clo net bnd frm too amt pri wai fst ldr bor lnt rat plg opn (nI mk) small (nI lm) price cut proc 0)) (m_asks_y l sa D cI cZ cL md acc flo pap clo net bnd frm too amt pri wai fst ldr bor lnt rat plg opn small price cut proc thr mk lm  ) (cwV 1 C.2.2.2.2.1 gX5_why_X5_asks rfl rfl rfl (by decide +kernel) ⟨Nat.le_of_ble_eq_true rfl, Nat.le_of_ble_eq_true rfl⟩) 0 rfl rfl rfl (fun _ => zSub.full) zIn.full rfl (Nat.le_of_ble_eq_true rfl) ⟨Nat.le_of_ble_eq_true rfl, Nat.le_of_ble_eq_true rfl⟩ dX5_why_6 (fun r_3 _ h_4 => ?_)
  obtain rfl : r_3 = 1 := h_4
  refine z_if_eq C (tgt := 20) dX5_why_9 (by decide) (fun h => absurd h (by decide)) (fun _ => ?_)
  refine z_aload_n C dX5_why_12 rfl 0 rfl ?_
  refine z_iload_n C dX5_why_13 rfl 1 rfl ?_
  refine z_callVi C (T := Unit) (As := [.int (nI p9)]) (rest := []) (ws' := fun _ => (wM md cI cZ acc flo pap clo net bnd frm too amt pri wai fst ldr bor lnt rat plg opn (nI mk) small (nI lm) price cut proc 0)) (m_reason l sa D cI cZ cL md acc flo pap clo net bnd frm too amt pri wai fst ldr bor lnt rat plg opn small price cut proc 0 mk lm p9 (by first | assumption | omega) (by first | assumption | omega) (by first | assumption | omega) (by first | assumption | omega)) (cwV 1 C.2.2.2.2.1 gX5_why_X5_reason rfl rfl rfl (by decide +kernel) ⟨Nat.le_of_ble_eq_true rfl, Nat.le_of_ble_eq_true rfl⟩) 0 rfl rfl rfl (fun _ => zSub.full) zIn.full rfl (Nat.le_of_ble_eq_true rfl) ⟨Nat.le_of_ble_eq_true rfl, Nat.le_of_ble_eq_true rfl⟩ dX5_why_14 (fun r_5 _ h_6 => ?_)
  obtain rfl : r_5 = (obs acc net flo bnd frm too amt wai p9) := h_6
  refine z_goto C (tgt := 21) dX5_why_17 (by decide) ?_
  exact z_iret C () rfl rfl (by decide) (by decide) dX5_why_21
set_option maxHeartbeats 4000000 in
set_option maxRecDepth 100000 in
theorem m_why_b1 (l : Launch) (sa : Nat → Nat) (D : va_G) (cI cZ cL : ClassId) (md : Nat → Nat) (acc flo pap clo net bnd frm too amt pri wai fst ldr bor lnt rat plg opn : Nat → Int32) (small price cut proc thr : Int32) (mk lm : Nat) (p9 : Int32) (hp : p9 < 0 ∨ nI mk ≤ p9) : zMi (T := Unit) sa D vwCl (zty cI cZ cL) l yX5_why wsX5_why ({ frames := 1, cells := 0, slots := 0, locals := 21 } : Room) [.ref (md 0), .int p9] (wM md cI cZ acc flo pap clo net bnd frm too amt pri wai fst ldr bor lnt rat plg opn (nI mk) small (nI lm) price cut proc thr) (fun r9 _ => r9 = 0) (fun _ => (wM md cI cZ acc flo pap clo net bnd frm too amt pri wai fst ldr bor lnt rat plg opn (nI mk) small (nI lm) price cut proc 1)) 0 0 := by
  refine zMi.of (ret := (some .int)) (cc := cX5_why) (nL := 2) (own := RX5) (by decide +kernel) rfl [(0, .ref (md 0)), (1, .int p9)] rfl (Nat.le_of_ble_eq_true rfl) rfl ?_
  intro A p e s m args below meth c C hmn
  refine z_aload_n C dX5_why_0 rfl 0 rfl ?_
  refine z_aload_n C dX5_why_1 rfl 0 rfl ?_
  refine z_iload_n C dX5_why_2 rfl 1 rfl ?_
  refine z_callVi C (T := Unit) (As := [.int p9]) (rest := [.ref (md 0)]) (ws' := fun _ => (wM md cI cZ acc flo pap clo net bnd frm too amt pri wai fst ldr bor lnt rat plg opn (nI mk) small (nI lm) price cut proc thr)) (m_isPayment_n l sa D cI cZ cL md acc flo pap clo net bnd frm too amt pri wai fst ldr bor lnt rat plg opn small price cut proc thr mk lm p9 (by first | assumption | omega)) (cwV 1 C.2.2.2.2.1 gX5_why_X5_isPayment rfl rfl rfl (by decide +kernel) ⟨Nat.le_of_ble_eq_true rfl, Nat.le_of_ble_eq_true rfl⟩) 0 rfl rfl rfl (fun _ => zSub.full) zIn.full rfl (Nat.le_of_ble_eq_true rfl) ⟨Nat.le_of_ble_eq_true rfl, Nat.le_of_ble_eq_true rfl⟩ dX5_why_3 (fun r_1 _ h_2 => ?_)
  obtain rfl : r_1 = 0 := h_2
  refine z_callVi C (T := Unit) (As := [.int 0]) (rest := []) (ws' := fun _ => (wM md cI cZ acc flo pap clo net bnd frm too amt pri wai fst ldr bor lnt rat plg opn (nI mk) small (nI lm) price cut proc 1)) (m_asks_n l sa D cI cZ cL md acc flo pap clo net bnd frm too amt pri wai fst ldr bor lnt rat plg opn small price cut proc thr mk lm  ) (cwV 1 C.2.2.2.2.1 gX5_why_X5_asks rfl rfl rfl (by decide +kernel) ⟨Nat.le_of_ble_eq_true rfl, Nat.le_of_ble_eq_true rfl⟩) 0 rfl rfl rfl (fun _ => zSub.full) zIn.full rfl (Nat.le_of_ble_eq_true rfl) ⟨Nat.le_of_ble_eq_true rfl, Nat.le_of_ble_eq_true rfl⟩ dX5_why_6 (fun r_3 _ h_4 => ?_)
  obtain rfl : r_3 = 0 := h_4
  refine z_if_eq C (tgt := 20) dX5_why_9 (by decide) (fun _ => ?_) (fun h => absurd h (by decide))
  refine z_iconst C (v := 0) dX5_why_20 (by decide) ?_
  exact z_iret C () rfl rfl (by decide) (by decide) dX5_why_21
set_option maxHeartbeats 4000000 in
set_option maxRecDepth 100000 in
theorem m_moveSet (l : Launch) (sa : Nat → Nat) (D : va_G) (cI cZ cL : ClassId) (md : Nat → Nat) (acc flo pap clo net bnd frm too amt pri wai fst ldr bor lnt rat plg opn : Nat → Int32) (small price cut proc thr : Int32) (mk lm : Nat) (S : Nat) (t9 : Int32) (hS : S < 1024) (hwl : (wlL wai mk).length ≤ 10) (hmk : mk ≤ 60) (hfrm : wf5 mk frm) (htoo : wf5 mk too) : zMv (T := Unit) sa D vwCl (zty cI cZ cL) l yX5_moveSet wsX5_moveSet ({ frames := 1, cells := 0, slots := 0, locals := 23 } : Room) [.ref (md 0), .int (nI S), .int t9] (wM md cI cZ acc flo pap clo net bnd frm too amt pri wai fst ldr bor lnt rat plg opn (nI mk) small (nI lm) price cut proc thr) (fun _ => True) (fun _ => (wM md cI cZ ((gsk frm too amt t9 (inS (fun k => (wlL wai mk)[k]?) S) acc net (wlL wai mk).length).1) flo pap clo ((gsk frm too amt t9 (inS (fun k => (wlL wai mk)[k]?) S) acc net (wlL wai mk).length).2) bnd frm too amt pri wai fst ldr bor lnt rat plg opn (nI mk) small (nI lm) price cut proc thr)) 0 0 := by
  refine zMv.of (ret := none) (cc := cX5_moveSet) (nL := 5) (own := RX5) (by decide +kernel) rfl [(0, .ref (md 0)), (1, .int (nI S)), (2, .int t9)] rfl (Nat.le_of_ble_eq_true rfl) rfl ?_
  intro A p e s m args below meth c C hmn
  refine z_iconst C (v := 0) dX5_moveSet_0 (by decide) ?_
  refine z_istore_n C dX5_moveSet_1 rfl (by decide) [(0, .ref (md 0)), (1, .int (nI S)), (2, .int t9), (3, .int 0)] [1, 2, 3, 0] rfl ?_
  refine z_iconst C (v := 0) dX5_moveSet_2 (by decide) ?_
  refine z_istore C dX5_moveSet_3 (by decide) [(0, .ref (md 0)), (1, .int (nI S)), (2, .int t9), (3, .int 0), (4, .int 0)] [1, 2, 3, 4, 0] rfl ?_
  have L5_k_1 : ∀ (n : Nat) (i : Nat), mk - i < n → (i ≤ mk) → zW p l e ({ frames := 1, cells := 0, slots := 0, locals := 23 } : Room) s m args below meth c (MQ below (zQv (T := Unit) D vwCl (zty cI cZ cL) A (fun _ => True) (fun _ => (wM md cI cZ ((gsk frm too amt t9 (inS (fun k => (wlL wai mk)[k]?) S) acc net (wlL wai mk).length).1) flo pap clo ((gsk frm too amt t9 (inS (fun k => (wlL wai mk)[k]?) S) acc net (wlL wai mk).length).2) bnd frm too amt pri wai fst ldr bor lnt rat plg opn (nI mk) small (nI lm) price cut proc thr))) args s 0 0 A) D vwCl A 5 0 0 (wM md cI cZ ((gsk frm too amt t9 (inS (fun k => (wlL wai mk)[k]?) S) acc net (wlL wai i).length).1) flo pap clo ((gsk frm too amt t9 (inS (fun k => (wlL wai mk)[k]?) S) acc net (wlL wai i).length).2) bnd frm too amt pri wai fst ldr bor lnt rat plg opn (nI mk) small (nI lm) price cut proc thr) [(0, .ref (md 0)), (1, .int (nI S)), (2, .int t9), (3, .int (nI ((wlL wai i).length))), (4, .int (nI i))] 5 [] := by
    intro n
    induction n with
    | zero => intros; omega
    | succ n ih_2 =>
      intro i hm_3 hi
      refine z_iload C dX5_moveSet_5 4 rfl ?_
      refine z_aload_n C dX5_moveSet_7 rfl 0 rfl ?_
      refine z_get C 0 rfl i_X5_moveSet_X5 rfl 6 (by decide) m_X5_moveSet_f79 rfl rfl dX5_moveSet_8 ?_
      refine z_icmp_ge C (tgt := 49) dX5_moveSet_11 (by decide) (fun c11_4 => ?_) (fun c11_4 => ?_)
      · skip
        have n_5 : mk ≤ i := (nI_leI (a := mk) (b := i) (by omega) (by omega)).mp c11_4
        exact z_vret C () (by exact trivial) (by rw [show i = mk by omega]) (by decide) (by decide) dX5_moveSet_49
      · skip
        have n_6 : ¬ mk ≤ i := fun q => c11_4 ((nI_leI (a := mk) (b := i) (by omega) (by omega)).mpr q)
        refine z_aload_n C dX5_moveSet_14 rfl 0 rfl ?_
        refine z_get C 0 rfl i_X5_moveSet_X5 rfl 11 (by decide) m_X5_moveSet_f41 rfl rfl dX5_moveSet_15 ?_
        refine z_iload C dX5_moveSet_18 4 rfl ?_
        refine z_zald C 11 1 rfl rfl i (nI_clamp (by omega)) (vp_in_nI (by omega) (by omega)) (wai i) rfl dX5_moveSet_20 ?_
        refine z_if_eq C (tgt := 43) dX5_moveSet_21 (by decide) (fun c21_7 => ?_) (fun c21_7 => ?_)
        · skip
          refine z_iinc C (v := (nI (i + 1))) dX5_moveSet_43 4 rfl (nI_add i 1) (by decide) [(0, .ref (md 0)), (1, .int (nI S)), (2, .int t9), (3, .int (nI ((wlL wai i).length))), (4, .int (nI (i + 1)))] [1, 2, 3, 4, 0] rfl ?_
          refine z_goto C (tgt := 5) dX5_moveSet_46 (by decide) ?_
          refine z_ws (wM md cI cZ ((gsk frm too amt t9 (inS (fun k => (wlL wai mk)[k]?) S) acc net (wlL wai (i + 1)).length).1) flo pap clo ((gsk frm too amt t9 (inS (fun k => (wlL wai mk)[k]?) S) acc net (wlL wai (i + 1)).length).2) bnd frm too amt pri wai fst ldr bor lnt rat plg opn (nI mk) small (nI lm) price cut proc thr) (by rw [wlL_n (by assumption)]) ?_
          refine z_lveq [(0, .ref (md 0)), (1, .int (nI S)), (2, .int t9), (3, .int (nI ((wlL wai (i + 1)).length))), (4, .int (nI (i + 1)))] (by first | rw [wlL_n (by assumption)] | (rw [wlL_y (by assumption), List.length_append]; rfl)) ?_
          exact ih_2 (i + 1) (by omega) (by first | assumption | omega)
        · skip
          refine z_iload_n C dX5_moveSet_24 rfl 1 rfl ?_
          refine z_iload_n C dX5_moveSet_25 rfl 3 rfl ?_
          refine z_ishr C (v := ((nI S) >>> ((nI ((wlL wai i).length)) &&& 31))) dX5_moveSet_26 rfl ?_
          refine z_iconst C (v := 1) dX5_moveSet_27 (by decide) ?_
          refine z_case (Nat.testBit S ((wlL wai i).length) = true) (fun hp_8 => ?_) (fun hp_8 => ?_)
          · skip
            refine z_iand C (v := 1) dX5_moveSet_28 (by have := wl_lt (wai := wai) (i := i) (n := mk) (by omega) (by assumption); rw [z_bitm S ((wlL wai i).length) (by omega) (by omega), hp_8]; rfl) ?_
            refine z_iconst C (v := 1) dX5_moveSet_29 (by decide) ?_
            refine z_icmp_ne C (tgt := 40) dX5_moveSet_30 (by decide) (fun h => absurd h (by decide)) (fun _ => ?_)
            refine z_aload_n C dX5_moveSet_33 rfl 0 rfl ?_
            refine z_iload C dX5_moveSet_34 4 rfl ?_
            refine z_iload_n C dX5_moveSet_36 rfl 2 rfl ?_
            refine z_callVv C (T := Unit) (As := [.int (nI i), .int t9]) (rest := []) (ws' := fun _ => (wM md cI cZ (mvA (ix (frm i)) (ix (too i)) (t9 * amt i) ((gsk frm too amt t9 (inS (fun k => (wlL wai mk)[k]?) S) acc net (wlL wai i).length).1)) flo pap clo (mvN (ix (frm i)) (ix (too i)) (t9 * amt i) ((gsk frm too amt t9 (inS (fun k => (wlL wai mk)[k]?) S) acc net (wlL wai i).length).2)) bnd frm too amt pri wai fst ldr bor lnt rat plg opn (nI mk) small (nI lm) price cut proc thr)) (m_moves l sa D cI cZ cL md ((gsk frm too amt t9 (inS (fun k => (wlL wai mk)[k]?) S) acc net (wlL wai i).length).1) flo pap clo ((gsk frm too amt t9 (inS (fun k => (wlL wai mk)[k]?) S) acc net (wlL wai i).length).2) bnd frm too amt pri wai fst ldr bor lnt rat plg opn small price cut proc thr mk lm i t9 (by first | assumption | omega) (by first | assumption | omega) (by first | assumption | omega) (by first | assumption | omega)) (cwV 2 C.2.2.2.2.1 gX5_moveSet_X5_moves rfl rfl rfl (by decide +kernel) ⟨Nat.le_of_ble_eq_true rfl, Nat.le_of_ble_eq_true rfl⟩) 0 rfl rfl rfl (fun _ => zSub.full) zIn.full rfl (Nat.le_of_ble_eq_true rfl) ⟨Nat.le_of_ble_eq_true rfl, Nat.le_of_ble_eq_true rfl⟩ dX5_moveSet_37 (fun _ _ => ?_)
            refine z_iinc C (v := (nI (((wlL wai i).length) + 1))) dX5_moveSet_40 3 rfl (nI_add ((wlL wai i).length) 1) (by decide) [(0, .ref (md 0)), (1, .int (nI S)), (2, .int t9), (3, .int (nI (((wlL wai i).length) + 1))), (4, .int (nI i))] [1, 2, 3, 0, 4] rfl ?_
            refine z_iinc C (v := (nI (i + 1))) dX5_moveSet_43 4 rfl (nI_add i 1) (by decide) [(0, .ref (md 0)), (1, .int (nI S)), (2, .int t9), (3, .int (nI (((wlL wai i).length) + 1))), (4, .int (nI (i + 1)))] [1, 2, 3, 4, 0] rfl ?_
            refine z_goto C (tgt := 5) dX5_moveSet_46 (by decide) ?_
            refine z_ws (wM md cI cZ ((gsk frm too amt t9 (inS (fun k => (wlL wai mk)[k]?) S) acc net (wlL wai (i + 1)).length).1) flo pap clo ((gsk frm too amt t9 (inS (fun k => (wlL wai mk)[k]?) S) acc net (wlL wai (i + 1)).length).2) bnd frm too amt pri wai fst ldr bor lnt rat plg opn (nI mk) small (nI lm) price cut proc thr) (by rw [wlL_y (by assumption), List.length_append, List.length_singleton, gsk_some (p := i) (show inS (fun k => (wlL wai mk)[k]?) S _ = some i from (if_pos hp_8).trans (wl_at (by omega) (by assumption)))]) ?_
            refine z_lveq [(0, .ref (md 0)), (1, .int (nI S)), (2, .int t9), (3, .int (nI ((wlL wai (i + 1)).length))), (4, .int (nI (i + 1)))] (by first | rw [wlL_n (by assumption)] | (rw [wlL_y (by assumption), List.length_append]; rfl)) ?_
            exact ih_2 (i + 1) (by omega) (by first | assumption | omega)
          · skip
            refine z_iand C (v := 0) dX5_moveSet_28 (by have := wl_lt (wai := wai) (i := i) (n := mk) (by omega) (by assumption); rw [z_bitm S ((wlL wai i).length) (by omega) (by omega), ts_f hp_8]; rfl) ?_
            refine z_iconst C (v := 1) dX5_moveSet_29 (by decide) ?_
            refine z_icmp_ne C (tgt := 40) dX5_moveSet_30 (by decide) (fun _ => ?_) (fun h => absurd h (by decide))
            refine z_iinc C (v := (nI (((wlL wai i).length) + 1))) dX5_moveSet_40 3 rfl (nI_add ((wlL wai i).length) 1) (by decide) [(0, .ref (md 0)), (1, .int (nI S)), (2, .int t9), (3, .int (nI (((wlL wai i).length) + 1))), (4, .int (nI i))] [1, 2, 3, 0, 4] rfl ?_
            refine z_iinc C (v := (nI (i + 1))) dX5_moveSet_43 4 rfl (nI_add i 1) (by decide) [(0, .ref (md 0)), (1, .int (nI S)), (2, .int t9), (3, .int (nI (((wlL wai i).length) + 1))), (4, .int (nI (i + 1)))] [1, 2, 3, 4, 0] rfl ?_
            refine z_goto C (tgt := 5) dX5_moveSet_46 (by decide) ?_
            refine z_ws (wM md cI cZ ((gsk frm too amt t9 (inS (fun k => (wlL wai mk)[k]?) S) acc net (wlL wai (i + 1)).length).1) flo pap clo ((gsk frm too amt t9 (inS (fun k => (wlL wai mk)[k]?) S) acc net (wlL wai (i + 1)).length).2) bnd frm too amt pri wai fst ldr bor lnt rat plg opn (nI mk) small (nI lm) price cut proc thr) (by rw [wlL_y (by assumption), List.length_append, List.length_singleton, gsk_none (show inS (fun k => (wlL wai mk)[k]?) S _ = none from if_neg hp_8)]) ?_
            refine z_lveq [(0, .ref (md 0)), (1, .int (nI S)), (2, .int t9), (3, .int (nI ((wlL wai (i + 1)).length))), (4, .int (nI (i + 1)))] (by first | rw [wlL_n (by assumption)] | (rw [wlL_y (by assumption), List.length_append]; rfl)) ?_
            exact ih_2 (i + 1) (by omega) (by first | assumption | omega)
  refine z_ws (wM md cI cZ ((gsk frm too amt t9 (inS (fun k => (wlL wai mk)[k]?) S) acc net (wlL wai 0).length).1) flo pap clo ((gsk frm too amt t9 (inS (fun k => (wlL wai mk)[k]?) S) acc net (wlL wai 0).length).2) bnd frm too amt pri wai fst ldr bor lnt rat plg opn (nI mk) small (nI lm) price cut proc thr) (by rfl) ?_
  refine z_lveq [(0, .ref (md 0)), (1, .int (nI S)), (2, .int t9), (3, .int (nI ((wlL wai 0).length))), (4, .int (nI 0))] (by rfl) ?_
  exact L5_k_1 (mk - 0 + 1) 0 (Nat.lt_succ_self _) (by first | assumption | omega)
set_option maxHeartbeats 4000000 in
set_option maxRecDepth 100000 in
theorem m_canAny_ok (l : Launch) (sa : Nat → Nat) (D : va_G) (cI cZ cL : ClassId) (md : Nat → Nat) (acc flo pap clo net bnd frm too amt pri wai fst ldr bor lnt rat plg opn : Nat → Int32) (small price cut proc thr : Int32) (mk lm : Nat)  (hmk : mk ≤ 60) (hfrm : wf5 mk frm) (htoo : wf5 mk too) (hc10 : cntW wai mk ≤ 10) : zMi (T := Unit) sa D vwCl (zty cI cZ cL) l yX5_canAny wsX5_canAny ({ frames := 2, cells := 0, slots := 0, locals := 47 } : Room) [.ref (md 0)] (wM md cI cZ acc flo pap clo net bnd frm too amt pri wai fst ldr bor lnt rat plg opn (nI mk) small (nI lm) price cut proc thr) (fun r9 _ => r9 = if anyB (okS frm too amt flo bnd (fun k => (wlL wai mk)[k]?) (wlL wai mk).length acc net) (2 ^ (wlL wai mk).length) = true then 1 else 0) (fun _ => (wM md cI cZ acc flo pap clo net bnd frm too amt pri wai fst ldr bor lnt rat plg opn (nI mk) small (nI lm) price cut proc 0)) 0 0 := by
  refine zMi.of (ret := (some .boolean)) (cc := cX5_canAny) (nL := 3) (own := RX5) (by decide +kernel) rfl [(0, .ref (md 0))] rfl (Nat.le_of_ble_eq_true rfl) rfl ?_
  intro A p e s m args below meth c C hmn
  have hlen := wlL_len wai mk
  have hp2 : 2 ^ (cntW wai mk) ≤ 1024 := Nat.le_trans (Nat.pow_le_pow_right (n := 2) (by decide) hc10) (by decide)
  refine z_aload_n C dX5_canAny_0 rfl 0 rfl ?_
  refine z_aload_n C dX5_canAny_1 rfl 0 rfl ?_
  refine z_callVi C (T := Unit) (As := []) (rest := [.ref (md 0)]) (ws' := fun _ => (wM md cI cZ acc flo pap clo net bnd frm too amt pri wai fst ldr bor lnt rat plg opn (nI mk) small (nI lm) price cut proc thr)) (m_waiting l sa D cI cZ cL md acc flo pap clo net bnd frm too amt pri wai fst ldr bor lnt rat plg opn small price cut proc thr mk lm  (by first | assumption | omega)) (cwV 0 C.2.2.2.2.1 gX5_canAny_X5_waiting rfl rfl rfl (by decide +kernel) ⟨Nat.le_of_ble_eq_true rfl, Nat.le_of_ble_eq_true rfl⟩) 0 rfl rfl rfl (fun _ => zSub.full) zIn.full rfl (Nat.le_of_ble_eq_true rfl) ⟨Nat.le_of_ble_eq_true rfl, Nat.le_of_ble_eq_true rfl⟩ dX5_canAny_2 (fun r_1 _ h_2 => ?_)
  obtain rfl : r_1 = (nI (cntW wai mk)) := h_2
  refine z_bipush C (v := 10) dX5_canAny_5 (by decide) ?_
  refine z_icmp_gt C (tgt := 14) dX5_canAny_7 (by decide) (fun c7_3 => ?_) (fun c7_3 => ?_)
  · skip
    have n_4 : 10 < (cntW wai mk) := (nI_ltI (a := 10) (b := cntW wai mk) (by omega) (by omega)).mp c7_3
    exfalso
    omega
  · skip
    have n_5 : ¬ 10 < (cntW wai mk) := fun q => c7_3 ((nI_ltI (a := 10) (b := cntW wai mk) (by omega) (by omega)).mpr q)
    refine z_iconst C (v := 1) dX5_canAny_10 (by decide) ?_
    refine z_goto C (tgt := 15) dX5_canAny_11 (by decide) ?_
    refine z_callVi C (T := Unit) (As := [.int 1]) (rest := []) (ws' := fun _ => (wM md cI cZ acc flo pap clo net bnd frm too amt pri wai fst ldr bor lnt rat plg opn (nI mk) small (nI lm) price cut proc 0)) (m_asks_y l sa D cI cZ cL md acc flo pap clo net bnd frm too amt pri wai fst ldr bor lnt rat plg opn small price cut proc thr mk lm  ) (cwV 1 C.2.2.2.2.1 gX5_canAny_X5_asks rfl rfl rfl (by decide +kernel) ⟨Nat.le_of_ble_eq_true rfl, Nat.le_of_ble_eq_true rfl⟩) 0 rfl rfl rfl (fun _ => zSub.full) zIn.full rfl (Nat.le_of_ble_eq_true rfl) ⟨Nat.le_of_ble_eq_true rfl, Nat.le_of_ble_eq_true rfl⟩ dX5_canAny_15 (fun r_6 _ h_7 => ?_)
    obtain rfl : r_6 = 1 := h_7
    refine z_if_ne C (tgt := 23) dX5_canAny_18 (by decide) (fun _ => ?_) (fun h => absurd h (by decide))
    refine z_iconst C (v := 0) dX5_canAny_23 (by decide) ?_
    refine z_istore_n C dX5_canAny_24 rfl (by decide) [(0, .ref (md 0)), (1, .int 0)] [1, 0] rfl ?_
    refine z_iconst C (v := 1) dX5_canAny_25 (by decide) ?_
    refine z_istore_n C dX5_canAny_26 rfl (by decide) [(0, .ref (md 0)), (1, .int 0), (2, .int 1)] [1, 2, 0] rfl ?_
    have L27_k_8 : ∀ (n : Nat) (c9 s9 : Nat), 2 ^ (cntW wai mk) - s9 < n → (1 ≤ s9) → (s9 ≤ 2 ^ (cntW wai mk)) → (c9 ≤ 1) → (c9 = 0 → ∀ S, S < s9 → 1 ≤ S → (okS frm too amt flo bnd (fun k => (wlL wai mk)[k]?) (wlL wai mk).length acc net) S = false) → (c9 = 1 → ∃ S, 1 ≤ S ∧ S < 2 ^ (cntW wai mk) ∧ (okS frm too amt flo bnd (fun k => (wlL wai mk)[k]?) (wlL wai mk).length acc net) S = true) → zW p l e ({ frames := 2, cells := 0, slots := 0, locals := 47 } : Room) s m args below meth c (MQ below (zQi (T := Unit) D vwCl (zty cI cZ cL) A (fun r9 _ => r9 = if anyB (okS frm too amt flo bnd (fun k => (wlL wai mk)[k]?) (wlL wai mk).length acc net) (2 ^ (wlL wai mk).length) = true then 1 else 0) (fun _ => (wM md cI cZ acc flo pap clo net bnd frm too amt pri wai fst ldr bor lnt rat plg opn (nI mk) small (nI lm) price cut proc 0))) args s 0 0 A) D vwCl A 3 0 0 (wM md cI cZ acc flo pap clo net bnd frm too amt pri wai fst ldr bor lnt rat plg opn (nI mk) small (nI lm) price cut proc 0) [(0, .ref (md 0)), (1, .int (nI c9)), (2, .int (nI s9))] 27 [] := by
      intro n
      induction n with
      | zero => intros; omega
      | succ n ih_9 =>
        intro c9 s9 hm_10 hs1 hs hc1 hno hyes
        have hz9 := z_b01 hc1
        refine z_iload_n C dX5_canAny_27 rfl 2 rfl ?_
        refine z_iconst C (v := 1) dX5_canAny_28 (by decide) ?_
        refine z_aload_n C dX5_canAny_29 rfl 0 rfl ?_
        refine z_callVi C (T := Unit) (As := []) (rest := [.int 1, .int (nI s9)]) (ws' := fun _ => (wM md cI cZ acc flo pap clo net bnd frm too amt pri wai fst ldr bor lnt rat plg opn (nI mk) small (nI lm) price cut proc 0)) (m_waiting l sa D cI cZ cL md acc flo pap clo net bnd frm too amt pri wai fst ldr bor lnt rat plg opn small price cut proc 0 mk lm  (by first | assumption | omega)) (cwV 0 C.2.2.2.2.1 gX5_canAny_X5_waiting rfl rfl rfl (by decide +kernel) ⟨Nat.le_of_ble_eq_true rfl, Nat.le_of_ble_eq_true rfl⟩) 0 rfl rfl rfl (fun _ => zSub.full) zIn.full rfl (Nat.le_of_ble_eq_true rfl) ⟨Nat.le_of_ble_eq_true rfl, Nat.le_of_ble_eq_true rfl⟩ dX5_canAny_30 (fun r_11 _ h_12 => ?_)
        obtain rfl : r_11 = (nI (cntW wai mk)) := h_12
        refine z_ishl C (v := (nI (2 ^ (cntW wai mk)))) dX5_canAny_33 (z_shl1 (by omega)) ?_
        refine z_icmp_ge C (tgt := 64) dX5_canAny_34 (by decide) (fun c34_13 => ?_) (fun c34_13 => ?_)
        · skip
          have n_14 : (2 ^ (cntW wai mk)) ≤ s9 := (nI_leI (a := 2 ^ (cntW wai mk)) (b := s9) (by omega) (by omega)).mp c34_13
          refine z_iload_n C dX5_canAny_64 rfl 1 rfl ?_
          exact z_zret C () (by rw [show 2 ^ (wlL wai mk).length = 2 ^ (cntW wai mk) by rw [hlen]]; exact any_ret hc1 hno hyes (fun e => by omega)) rfl (by decide) (by decide) (z_nb (by assumption)) dX5_canAny_65
        · skip
          have n_15 : ¬ (2 ^ (cntW wai mk)) ≤ s9 := fun q => c34_13 ((nI_leI (a := 2 ^ (cntW wai mk)) (b := s9) (by omega) (by omega)).mpr q)
          refine z_iload_n C dX5_canAny_37 rfl 1 rfl ?_
          refine z_if_ne C (tgt := 64) dX5_canAny_38 (by decide) (fun c38_16 => ?_) (fun c38_16 => ?_)
          · skip
            have n_17 : ¬ c9 = 0 := fun q => c38_16 ((nI_eq (a := c9) (b := 0) (by omega) (by omega)).mpr q)
            refine z_iload_n C dX5_canAny_64 rfl 1 rfl ?_
            exact z_zret C () (by rw [show 2 ^ (wlL wai mk).length = 2 ^ (cntW wai mk) by rw [hlen]]; exact any_ret hc1 hno hyes (fun e => by omega)) rfl (by decide) (by decide) (z_nb (by assumption)) dX5_canAny_65
          · skip
            have n_18 : c9 = 0 := (nI_eq (a := c9) (b := 0) (by omega) (by omega)).mp c38_16
            refine z_aload_n C dX5_canAny_41 rfl 0 rfl ?_
            refine z_iload_n C dX5_canAny_42 rfl 2 rfl ?_
            refine z_iconst C (v := 1) dX5_canAny_43 (by decide) ?_
            refine z_callVv C (T := Unit) (As := [.int (nI s9), .int 1]) (rest := []) (ws' := fun _ => (wM md cI cZ ((gsk frm too amt 1 (inS (fun k => (wlL wai mk)[k]?) s9) acc net (wlL wai mk).length).1) flo pap clo ((gsk frm too amt 1 (inS (fun k => (wlL wai mk)[k]?) s9) acc net (wlL wai mk).length).2) bnd frm too amt pri wai fst ldr bor lnt rat plg opn (nI mk) small (nI lm) price cut proc 0)) (m_moveSet l sa D cI cZ cL md acc flo pap clo net bnd frm too amt pri wai fst ldr bor lnt rat plg opn small price cut proc 0 mk lm s9 1 (by first | assumption | omega) (by omega) (by first | assumption | omega) (by first | assumption | omega) (by first | assumption | omega)) (cwV 2 C.2.2.2.2.1 gX5_canAny_X5_moveSet rfl rfl rfl (by decide +kernel) ⟨Nat.le_of_ble_eq_true rfl, Nat.le_of_ble_eq_true rfl⟩) 0 rfl rfl rfl (fun _ => zSub.full) zIn.full rfl (Nat.le_of_ble_eq_true rfl) ⟨Nat.le_of_ble_eq_true rfl, Nat.le_of_ble_eq_true rfl⟩ dX5_canAny_44 (fun _ _ => ?_)
            refine z_aload_n C dX5_canAny_47 rfl 0 rfl ?_
            refine z_case (sndB ((gsk frm too amt 1 (inS (fun k => (wlL wai mk)[k]?) s9) acc net (wlL wai mk).length).1) flo ((gsk frm too amt 1 (inS (fun k => (wlL wai mk)[k]?) s9) acc net (wlL wai mk).length).2) bnd = true) (fun hp_19 => ?_) (fun hp_19 => ?_)
            · skip
              refine z_callVi C (T := Unit) (As := []) (rest := []) (ws' := fun _ => (wM md cI cZ ((gsk frm too amt 1 (inS (fun k => (wlL wai mk)[k]?) s9) acc net (wlL wai mk).length).1) flo pap clo ((gsk frm too amt 1 (inS (fun k => (wlL wai mk)[k]?) s9) acc net (wlL wai mk).length).2) bnd frm too amt pri wai fst ldr bor lnt rat plg opn (nI mk) small (nI lm) price cut proc 0)) (m_isSound l sa D cI cZ cL md ((gsk frm too amt 1 (inS (fun k => (wlL wai mk)[k]?) s9) acc net (wlL wai mk).length).1) flo pap clo ((gsk frm too amt 1 (inS (fun k => (wlL wai mk)[k]?) s9) acc net (wlL wai mk).length).2) bnd frm too amt pri wai fst ldr bor lnt rat plg opn small price cut proc 0 mk lm  ) (cwV 0 C.2.2.2.2.1 gX5_canAny_X5_isSound rfl rfl rfl (by decide +kernel) ⟨Nat.le_of_ble_eq_true rfl, Nat.le_of_ble_eq_true rfl⟩) 0 rfl rfl rfl (fun _ => zSub.full) zIn.full rfl (Nat.le_of_ble_eq_true rfl) ⟨Nat.le_of_ble_eq_true rfl, Nat.le_of_ble_eq_true rfl⟩ dX5_canAny_48 (fun r_20 _ h_21 => ?_)
              obtain rfl : r_20 = 1 := h_21.trans (if_pos hp_19)
              refine z_istore_n C dX5_canAny_51 rfl (by decide) [(0, .ref (md 0)), (1, .int 1), (2, .int (nI s9))] [1, 0, 2] rfl ?_
              refine z_aload_n C dX5_canAny_52 rfl 0 rfl ?_
              refine z_iload_n C dX5_canAny_53 rfl 2 rfl ?_
              refine z_iconst C (v := (-1)) dX5_canAny_54 (by decide) ?_
              refine z_callVv C (T := Unit) (As := [.int (nI s9), .int (-1)]) (rest := []) (ws' := fun _ => (wM md cI cZ ((gsk frm too amt (-1) (inS (fun k => (wlL wai mk)[k]?) s9) ((gsk frm too amt 1 (inS (fun k => (wlL wai mk)[k]?) s9) acc net (wlL wai mk).length).1) ((gsk frm too amt 1 (inS (fun k => (wlL wai mk)[k]?) s9) acc net (wlL wai mk).length).2) (wlL wai mk).length).1) flo pap clo ((gsk frm too amt (-1) (inS (fun k => (wlL wai mk)[k]?) s9) ((gsk frm too amt 1 (inS (fun k => (wlL wai mk)[k]?) s9) acc net (wlL wai mk).length).1) ((gsk frm too amt 1 (inS (fun k => (wlL wai mk)[k]?) s9) acc net (wlL wai mk).length).2) (wlL wai mk).length).2) bnd frm too amt pri wai fst ldr bor lnt rat plg opn (nI mk) small (nI lm) price cut proc 0)) (m_moveSet l sa D cI cZ cL md ((gsk frm too amt 1 (inS (fun k => (wlL wai mk)[k]?) s9) acc net (wlL wai mk).length).1) flo pap clo ((gsk frm too amt 1 (inS (fun k => (wlL wai mk)[k]?) s9) acc net (wlL wai mk).length).2) bnd frm too amt pri wai fst ldr bor lnt rat plg opn small price cut proc 0 mk lm s9 (-1) (by first | assumption | omega) (by omega) (by first | assumption | omega) (by first | assumption | omega) (by first | assumption | omega)) (cwV 2 C.2.2.2.2.1 gX5_canAny_X5_moveSet rfl rfl rfl (by decide +kernel) ⟨Nat.le_of_ble_eq_true rfl, Nat.le_of_ble_eq_true rfl⟩) 0 rfl rfl rfl (fun _ => zSub.full) zIn.full rfl (Nat.le_of_ble_eq_true rfl) ⟨Nat.le_of_ble_eq_true rfl, Nat.le_of_ble_eq_true rfl⟩ dX5_canAny_55 (fun _ _ => ?_)
              refine z_iinc C (v := (nI (s9 + 1))) dX5_canAny_58 2 rfl (nI_add s9 1) (by decide) [(0, .ref (md 0)), (1, .int 1), (2, .int (nI (s9 + 1)))] [1, 2, 0] rfl ?_
              refine z_goto C (tgt := 27) dX5_canAny_61 (by decide) ?_
              refine z_ws (wM md cI cZ acc flo pap clo net bnd frm too amt pri wai fst ldr bor lnt rat plg opn (nI mk) small (nI lm) price cut proc 0) (by rw [gsk_b1, gsk_b2]) ?_
              refine z_lveq [(0, .ref (md 0)), (1, .int (nI 1)), (2, .int (nI (s9 + 1)))] (by rfl) ?_
              exact ih_9 1 (s9 + 1) (by omega) (by first | assumption | omega) (by first | assumption | omega) (by first | assumption | omega) (by intro h; exact absurd h (by decide)) (by intro _; exact ⟨s9, hs1, by omega, by rw [okS_all (F := fun k => (wlL wai mk)[k]?) (c := (wlL wai mk).length) wl_all]; exact hp_19⟩)
            · skip
              refine z_callVi C (T := Unit) (As := []) (rest := []) (ws' := fun _ => (wM md cI cZ ((gsk frm too amt 1 (inS (fun k => (wlL wai mk)[k]?) s9) acc net (wlL wai mk).length).1) flo pap clo ((gsk frm too amt 1 (inS (fun k => (wlL wai mk)[k]?) s9) acc net (wlL wai mk).length).2) bnd frm too amt pri wai fst ldr bor lnt rat plg opn (nI mk) small (nI lm) price cut proc 0)) (m_isSound l sa D cI cZ cL md ((gsk frm too amt 1 (inS (fun k => (wlL wai mk)[k]?) s9) acc net (wlL wai mk).length).1) flo pap clo ((gsk frm too amt 1 (inS (fun k => (wlL wai mk)[k]?) s9) acc net (wlL wai mk).length).2) bnd frm too amt pri wai fst ldr bor lnt rat plg opn small price cut proc 0 mk lm  ) (cwV 0 C.2.2.2.2.1 gX5_canAny_X5_isSound rfl rfl rfl (by decide +kernel) ⟨Nat.le_of_ble_eq_true rfl, Nat.le_of_ble_eq_true rfl⟩) 0 rfl rfl rfl (fun _ => zSub.full) zIn.full rfl (Nat.le_of_ble_eq_true rfl) ⟨Nat.le_of_ble_eq_true rfl, Nat.le_of_ble_eq_true rfl⟩ dX5_canAny_48 (fun r_22 _ h_23 => ?_)
              obtain rfl : r_22 = 0 := h_23.trans (if_neg hp_19)
              refine z_istore_n C dX5_canAny_51 rfl (by decide) [(0, .ref (md 0)), (1, .int 0), (2, .int (nI s9))] [1, 0, 2] rfl ?_
              refine z_aload_n C dX5_canAny_52 rfl 0 rfl ?_
              refine z_iload_n C dX5_canAny_53 rfl 2 rfl ?_
              refine z_iconst C (v := (-1)) dX5_canAny_54 (by decide) ?_
              refine z_callVv C (T := Unit) (As := [.int (nI s9), .int (-1)]) (rest := []) (ws' := fun _ => (wM md cI cZ ((gsk frm too amt (-1) (inS (fun k => (wlL wai mk)[k]?) s9) ((gsk frm too amt 1 (inS (fun k => (wlL wai mk)[k]?) s9) acc net (wlL wai mk).length).1) ((gsk frm too amt 1 (inS (fun k => (wlL wai mk)[k]?) s9) acc net (wlL wai mk).length).2) (wlL wai mk).length).1) flo pap clo ((gsk frm too amt (-1) (inS (fun k => (wlL wai mk)[k]?) s9) ((gsk frm too amt 1 (inS (fun k => (wlL wai mk)[k]?) s9) acc net (wlL wai mk).length).1) ((gsk frm too amt 1 (inS (fun k => (wlL wai mk)[k]?) s9) acc net (wlL wai mk).length).2) (wlL wai mk).length).2) bnd frm too amt pri wai fst ldr bor lnt rat plg opn (nI mk) small (nI lm) price cut proc 0)) (m_moveSet l sa D cI cZ cL md ((gsk frm too amt 1 (inS (fun k => (wlL wai mk)[k]?) s9) acc net (wlL wai mk).length).1) flo pap clo ((gsk frm too amt 1 (inS (fun k => (wlL wai mk)[k]?) s9) acc net (wlL wai mk).length).2) bnd frm too amt pri wai fst ldr bor lnt rat plg opn small price cut proc 0 mk lm s9 (-1) (by first | assumption | omega) (by omega) (by first | assumption | omega) (by first | assumption | omega) (by first | assumption | omega)) (cwV 2 C.2.2.2.2.1 gX5_canAny_X5_moveSet rfl rfl rfl (by decide +kernel) ⟨Nat.le_of_ble_eq_true rfl, Nat.le_of_ble_eq_true rfl⟩) 0 rfl rfl rfl (fun _ => zSub.full) zIn.full rfl (Nat.le_of_ble_eq_true rfl) ⟨Nat.le_of_ble_eq_true rfl, Nat.le_of_ble_eq_true rfl⟩ dX5_canAny_55 (fun _ _ => ?_)
              refine z_iinc C (v := (nI (s9 + 1))) dX5_canAny_58 2 rfl (nI_add s9 1) (by decide) [(0, .ref (md 0)), (1, .int 0), (2, .int (nI (s9 + 1)))] [1, 2, 0] rfl ?_
              refine z_goto C (tgt := 27) dX5_canAny_61 (by decide) ?_
              refine z_ws (wM md cI cZ acc flo pap clo net bnd frm too amt pri wai fst ldr bor lnt rat plg opn (nI mk) small (nI lm) price cut proc 0) (by rw [gsk_b1, gsk_b2]) ?_
              refine z_lveq [(0, .ref (md 0)), (1, .int (nI 0)), (2, .int (nI (s9 + 1)))] (by rfl) ?_
              exact ih_9 0 (s9 + 1) (by omega) (by first | assumption | omega) (by first | assumption | omega) (by first | assumption | omega) (by intro _; exact z_no (hno (by omega)) (by rw [okS_all (F := fun k => (wlL wai mk)[k]?) (c := (wlL wai mk).length) wl_all]; exact hp_19)) (by intro h; exact absurd h (by decide))
    refine z_lveq [(0, .ref (md 0)), (1, .int (nI 0)), (2, .int (nI 1))] (by rfl) ?_
    exact L27_k_8 (2 ^ (cntW wai mk) - 1 + 1) 0 1 (Nat.lt_succ_self _) (by first | assumption | omega) (by have := Nat.one_le_two_pow (n := cntW wai mk); omega) (by first | assumption | omega) (by intro _ S h1 h2; omega) (by intro h; exact absurd h (by decide))
set_option maxHeartbeats 4000000 in
set_option maxRecDepth 100000 in
theorem m_canAny_b1 (l : Launch) (sa : Nat → Nat) (D : va_G) (cI cZ cL : ClassId) (md : Nat → Nat) (acc flo pap clo net bnd frm too amt pri wai fst ldr bor lnt rat plg opn : Nat → Int32) (small price cut proc thr : Int32) (mk lm : Nat)  (hmk : mk ≤ 60) (hc10 : 10 < cntW wai mk) : zMi (T := Unit) sa D vwCl (zty cI cZ cL) l yX5_canAny wsX5_canAny ({ frames := 1, cells := 0, slots := 0, locals := 22 } : Room) [.ref (md 0)] (wM md cI cZ acc flo pap clo net bnd frm too amt pri wai fst ldr bor lnt rat plg opn (nI mk) small (nI lm) price cut proc thr) (fun r9 _ => r9 = 0) (fun _ => (wM md cI cZ acc flo pap clo net bnd frm too amt pri wai fst ldr bor lnt rat plg opn (nI mk) small (nI lm) price cut proc 1)) 0 0 := by
  refine zMi.of (ret := (some .boolean)) (cc := cX5_canAny) (nL := 3) (own := RX5) (by decide +kernel) rfl [(0, .ref (md 0))] rfl (Nat.le_of_ble_eq_true rfl) rfl ?_
  intro A p e s m args below meth c C hmn
  have hc := cntW_le wai mk
  refine z_aload_n C dX5_canAny_0 rfl 0 rfl ?_
  refine z_aload_n C dX5_canAny_1 rfl 0 rfl ?_
  refine z_callVi C (T := Unit) (As := []) (rest := [.ref (md 0)]) (ws' := fun _ => (wM md cI cZ acc flo pap clo net bnd frm too amt pri wai fst ldr bor lnt rat plg opn (nI mk) small (nI lm) price cut proc thr)) (m_waiting l sa D cI cZ cL md acc flo pap clo net bnd frm too amt pri wai fst ldr bor lnt rat plg opn small price cut proc thr mk lm  (by first | assumption | omega)) (cwV 0 C.2.2.2.2.1 gX5_canAny_X5_waiting rfl rfl rfl (by decide +kernel) ⟨Nat.le_of_ble_eq_true rfl, Nat.le_of_ble_eq_true rfl⟩) 0 rfl rfl rfl (fun _ => zSub.full) zIn.full rfl (Nat.le_of_ble_eq_true rfl) ⟨Nat.le_of_ble_eq_true rfl, Nat.le_of_ble_eq_true rfl⟩ dX5_canAny_2 (fun r_1 _ h_2 => ?_)
  obtain rfl : r_1 = (nI (cntW wai mk)) := h_2
  refine z_bipush C (v := 10) dX5_canAny_5 (by decide) ?_
  refine z_icmp_gt C (tgt := 14) dX5_canAny_7 (by decide) (fun c7_3 => ?_) (fun c7_3 => ?_)
  · skip
    have n_4 : 10 < (cntW wai mk) := (nI_ltI (a := 10) (b := cntW wai mk) (by omega) (by omega)).mp c7_3
    refine z_iconst C (v := 0) dX5_canAny_14 (by decide) ?_
    refine z_callVi C (T := Unit) (As := [.int 0]) (rest := []) (ws' := fun _ => (wM md cI cZ acc flo pap clo net bnd frm too amt pri wai fst ldr bor lnt rat plg opn (nI mk) small (nI lm) price cut proc 1)) (m_asks_n l sa D cI cZ cL md acc flo pap clo net bnd frm too amt pri wai fst ldr bor lnt rat plg opn small price cut proc thr mk lm  ) (cwV 1 C.2.2.2.2.1 gX5_canAny_X5_asks rfl rfl rfl (by decide +kernel) ⟨Nat.le_of_ble_eq_true rfl, Nat.le_of_ble_eq_true rfl⟩) 0 rfl rfl rfl (fun _ => zSub.full) zIn.full rfl (Nat.le_of_ble_eq_true rfl) ⟨Nat.le_of_ble_eq_true rfl, Nat.le_of_ble_eq_true rfl⟩ dX5_canAny_15 (fun r_5 _ h_6 => ?_)
    obtain rfl : r_5 = 0 := h_6
    refine z_if_ne C (tgt := 23) dX5_canAny_18 (by decide) (fun h => absurd h (by decide)) (fun _ => ?_)
    refine z_iconst C (v := 0) dX5_canAny_21 (by decide) ?_
    exact z_zret C () rfl rfl (by decide) (by decide) (by decide) dX5_canAny_22
  · skip
    have n_7 : ¬ 10 < (cntW wai mk) := fun q => c7_3 ((nI_ltI (a := 10) (b := cntW wai mk) (by omega) (by omega)).mpr q)
    exfalso
    omega
