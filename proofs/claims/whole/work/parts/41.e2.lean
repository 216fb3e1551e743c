theorem m_L_fund_c13 : Cond.classLink RL 13 "java/lang/IndexOutOfBoundsException" ∈ wsL_fund := by decide +kernel
theorem m_L_fund_c15 : Cond.classLink RL 15 "java/lang/IllegalArgumentException" ∈ wsL_fund := by decide +kernel
theorem m_L_fund_c17 : Cond.classLink RL 17 "java/lang/IllegalStateException" ∈ wsL_fund := by decide +kernel
theorem m_L_setFloor_c13 : Cond.classLink RL 13 "java/lang/IndexOutOfBoundsException" ∈ wsL_setFloor := by decide +kernel
theorem m_L_setFloor_c15 : Cond.classLink RL 15 "java/lang/IllegalArgumentException" ∈ wsL_setFloor := by decide +kernel
theorem m_L_setBound_c13 : Cond.classLink RL 13 "java/lang/IndexOutOfBoundsException" ∈ wsL_setBound := by decide +kernel
theorem m_L_setBound_c15 : Cond.classLink RL 15 "java/lang/IllegalArgumentException" ∈ wsL_setBound := by decide +kernel
theorem m_L_givePapers_c13 : Cond.classLink RL 13 "java/lang/IndexOutOfBoundsException" ∈ wsL_givePapers := by decide +kernel
theorem m_L_givePapers_c15 : Cond.classLink RL 15 "java/lang/IllegalArgumentException" ∈ wsL_givePapers := by decide +kernel
theorem m_L_givePapers_c17 : Cond.classLink RL 17 "java/lang/IllegalStateException" ∈ wsL_givePapers := by decide +kernel
theorem m_L_account_c13 : Cond.classLink RL 13 "java/lang/IndexOutOfBoundsException" ∈ wsL_account := by decide +kernel
theorem m_L_papers_c13 : Cond.classLink RL 13 "java/lang/IndexOutOfBoundsException" ∈ wsL_papers := by decide +kernel
theorem m_L_isOpen_c13 : Cond.classLink RL 13 "java/lang/IndexOutOfBoundsException" ∈ wsL_isOpen := by decide +kernel
theorem m_L_paid_c13 : Cond.classLink RL 13 "java/lang/IndexOutOfBoundsException" ∈ wsL_paid := by decide +kernel
theorem m_L_pay_c13 : Cond.classLink RL 13 "java/lang/IndexOutOfBoundsException" ∈ wsL_pay := by decide +kernel
theorem m_L_pay_c15 : Cond.classLink RL 15 "java/lang/IllegalArgumentException" ∈ wsL_pay := by decide +kernel
theorem m_L_pay_c17 : Cond.classLink RL 17 "java/lang/IllegalStateException" ∈ wsL_pay := by decide +kernel
theorem m_L_drop_c13 : Cond.classLink RL 13 "java/lang/IndexOutOfBoundsException" ∈ wsL_drop := by decide +kernel
theorem m_L_drop_c17 : Cond.classLink RL 17 "java/lang/IllegalStateException" ∈ wsL_drop := by decide +kernel
theorem m_L_setSmall_c15 : Cond.classLink RL 15 "java/lang/IllegalArgumentException" ∈ wsL_setSmall := by decide +kernel
theorem m_L_queued_c13 : Cond.classLink RL 13 "java/lang/IndexOutOfBoundsException" ∈ wsL_queued := by decide +kernel
theorem m_L_why_c13 : Cond.classLink RL 13 "java/lang/IndexOutOfBoundsException" ∈ wsL_why := by decide +kernel
theorem m_L_canAny_c17 : Cond.classLink RL 17 "java/lang/IllegalStateException" ∈ wsL_canAny := by decide +kernel
theorem m_L_setPrice_c15 : Cond.classLink RL 15 "java/lang/IllegalArgumentException" ∈ wsL_setPrice := by decide +kernel
theorem m_L_lend_c13 : Cond.classLink RL 13 "java/lang/IndexOutOfBoundsException" ∈ wsL_lend := by decide +kernel
theorem m_L_lend_c15 : Cond.classLink RL 15 "java/lang/IllegalArgumentException" ∈ wsL_lend := by decide +kernel
theorem m_L_lend_c17 : Cond.classLink RL 17 "java/lang/IllegalStateException" ∈ wsL_lend := by decide +kernel
set_option maxHeartbeats 4000000 in
set_option maxRecDepth 100000 in
theorem w_fund_ok (l : Launch) (sa : Nat → Nat) (D : va_G) (cI cZ cL : ClassId) (ad : Nat → Nat) (acc net tacc tnet flo bnd frm too amt pri wai byp ldr bor due plg clo pap cnd : Nat → Int32) (small price cut proc : Int32) (mk lm le : Nat) (oa : Nat) (og : Nat → Int64) (b : Nat) (c9 : Int32) (hb : b < 5) (h1 : ¬ c9 < 1) (h2 : ¬ 1000000 < c9) (hcl : clo b = 0) (h3 : acc b + c9 ≤ 100000000) : zMi (T := Unit) sa D vwCl (zty cI cZ cL) l yL_fund wsL_fund ({ frames := 8, cells := 0, slots := 0, locals := 126 } : Room) [.ref (ad 0), .int (nI b), .int c9, .ref oa] ((wX ad cI cZ acc net tacc tnet flo bnd frm too amt pri wai byp ldr bor due plg clo pap cnd small price cut proc (nI mk) (nI lm) (nI le)) ++ [(oa, .inl (cL, 1, .inr (.inl og)))]) (fun r9 _ => r9 = 0) (fun _ => ((wX ad cI cZ (upd acc b (acc b + c9)) net tacc tnet flo bnd frm too amt pri wai byp ldr bor due plg clo pap cnd small price cut proc (nI mk) (nI lm) (nI le)) ++ [(oa, .inl (cL, 1, .inr (.inl (vp_updL og 0 (((acc b + c9)).toInt64)))))])) 0 0 := by
  refine zMi.ofH (ret := (some .int)) (cc := cL_fund) (nL := 5) (own := RL) (by decide +kernel) rfl [(0, .ref (ad 0)), (1, .int (nI b)), (2, .int c9), (3, .ref oa)] rfl (Nat.le_of_ble_eq_true rfl) rfl ?_
  intro A p e s m args below meth c C hmn htab
  refine z_aload_n C dL_fund_0 rfl 3 rfl ?_
  refine z_iconst C (v := 0) dL_fund_1 (by decide) ?_
  refine z_aload_n C dL_fund_2 rfl 0 rfl ?_
  refine z_iload_n C dL_fund_3 rfl 1 rfl ?_
  refine z_iload_n C dL_fund_4 rfl 2 rfl ?_
  refine z_callVi C (T := Unit) (As := [.int (nI b), .int c9]) (rest := [.int 0, .ref oa]) (ws' := fun _ => ((wX ad cI cZ (upd acc b (acc b + c9)) net tacc tnet flo bnd frm too amt pri wai byp ldr bor due plg clo pap cnd small price cut proc (nI mk) (nI lm) (nI le)) ++ [(oa, .inl (cL, 1, .inr (.inl og)))])) (c_X4_fund_ok l sa D cI cZ cL ad acc net tacc tnet flo bnd frm too amt pri wai byp ldr bor due plg clo pap cnd small price cut proc mk lm le b c9 (by first | assumption | omega) (by first | assumption | omega) (by first | assumption | omega) (by first | assumption | omega) (by first | assumption | omega)) (cwV 2 C.2.2.2.2.1 gL_fund_X4_fund rfl rfl rfl (by decide +kernel) ⟨Nat.le_of_ble_eq_true rfl, Nat.le_of_ble_eq_true rfl⟩) 0 rfl rfl rfl (fun _ => (zSub.of (wr := [(oa, .inl (cL, 1, .inr (.inl og)))]) [0, 1, 2, 3, 4, 5, 6, 7, 8, 9, 10, 11, 12, 13, 14, 15, 16, 17, 18, 19, 20, 21, 22, 23, 24] [25] [1, 2, 3, 4, 5, 6, 7, 8, 9, 10, 11, 12, 13, 14, 15, 16, 17, 18, 19, 20, 21, 22, 23, 24, 25, 0] rfl rfl rfl rfl (by decide) rfl rfl)) (zIn.of [0, 1, 2, 3, 4, 5, 6, 7, 8, 9, 10, 11, 12, 13, 14, 15, 16, 17, 18, 19, 20, 21, 22, 23, 24] rfl rfl) rfl (Nat.le_of_ble_eq_true rfl) ⟨Nat.le_of_ble_eq_true rfl, Nat.le_of_ble_eq_true rfl⟩ dL_fund_5 (fun r_1 _ h_2 => ?_)
  obtain rfl : r_1 = (acc b + c9) := h_2
  refine z_i2l C (v := ((acc b + c9)).toInt64) dL_fund_8 rfl ?_
  refine z_last C 25 2 rfl rfl 0 (nI_clamp (n := 0) (by decide)) (vp_in_nI (n := 0) (by decide) (by decide)) dL_fund_9 ((wX ad cI cZ (upd acc b (acc b + c9)) net tacc tnet flo bnd frm too amt pri wai byp ldr bor due plg clo pap cnd small price cut proc (nI mk) (nI lm) (nI le)) ++ [(oa, .inl (cL, 1, .inr (.inl (vp_updL og 0 ((acc b + c9)).toInt64))))]) rfl ?_
  refine z_goto C (tgt := 25) dL_fund_10 (by decide) ?_
  refine z_iconst C (v := 0) dL_fund_25 (by decide) ?_
  exact z_iret C () rfl rfl (by decide) (by decide) dL_fund_26
set_option maxHeartbeats 4000000 in
set_option maxRecDepth 100000 in
theorem w_fund_b1 (l : Launch) (hfl : l.stackTraces = false) (sa : Nat → Nat) (D : va_G) (cI cZ cL : ClassId) (ad : Nat → Nat) (acc net tacc tnet flo bnd frm too amt pri wai byp ldr bor due plg clo pap cnd : Nat → Int32) (small price cut proc : Int32) (mk lm le : Nat) (oa : Nat) (og : Nat → Int64) (b : Int32) (c9 : Int32) (hb : b < 0 ∨ 5 ≤ b) : zMi (T := Unit) sa D vwCl (zty cI cZ cL) l yL_fund wsL_fund ({ frames := 8, cells := 1, slots := 6, locals := 124 } : Room) [.ref (ad 0), .int b, .int c9, .ref oa] ((wX ad cI cZ acc net tacc tnet flo bnd frm too amt pri wai byp ldr bor due plg clo pap cnd small price cut proc (nI mk) (nI lm) (nI le)) ++ [(oa, .inl (cL, 1, .inr (.inl og)))]) (fun r9 _ => r9 = 1) (fun _ => ((wX ad cI cZ acc net tacc tnet flo bnd frm too amt pri wai byp ldr bor due plg clo pap cnd small price cut proc (nI mk) (nI lm) (nI le)) ++ [(oa, .inl (cL, 1, .inr (.inl og)))])) 1 6 := by
  refine zMi.ofH (ret := (some .int)) (cc := cL_fund) (nL := 5) (own := RL) (by decide +kernel) rfl [(0, .ref (ad 0)), (1, .int b), (2, .int c9), (3, .ref oa)] rfl (Nat.le_of_ble_eq_true rfl) rfl ?_
  intro A p e s m args below meth c C hmn htab
  refine z_aload_n C dL_fund_0 rfl 3 rfl ?_
  refine z_iconst C (v := 0) dL_fund_1 (by decide) ?_
  refine z_aload_n C dL_fund_2 rfl 0 rfl ?_
  refine z_iload_n C dL_fund_3 rfl 1 rfl ?_
  refine z_iload_n C dL_fund_4 rfl 2 rfl ?_
  refine z_callVx C (As := [.int b, .int c9]) (rest := [.int 0, .ref oa]) (c_X4_fund_b1 l hfl sa D cI cZ cL ad acc net tacc tnet flo bnd frm too amt pri wai byp ldr bor due plg clo pap cnd small price cut proc mk lm le b c9 (by first | assumption | omega)) (cwV 2 C.2.2.2.2.1 gL_fund_X4_fund rfl rfl rfl (by decide +kernel) ⟨Nat.le_of_ble_eq_true rfl, Nat.le_of_ble_eq_true rfl⟩) 0 rfl rfl rfl (zSub.of (wr := [(oa, .inl (cL, 1, .inr (.inl og)))]) [0, 1, 2, 3, 4, 5, 6, 7, 8, 9, 10, 11, 12, 13, 14, 15, 16, 17, 18, 19, 20, 21, 22, 23, 24] [25] [1, 2, 3, 4, 5, 6, 7, 8, 9, 10, 11, 12, 13, 14, 15, 16, 17, 18, 19, 20, 21, 22, 23, 24, 25, 0] rfl rfl rfl rfl (by decide) rfl rfl) rfl (Nat.le_of_ble_eq_true rfl) ⟨Nat.le_of_ble_eq_true rfl, Nat.le_of_ble_eq_true rfl⟩ dL_fund_5 ?_
  refine z_catch (E := "java/lang/IndexOutOfBoundsException") (name := "java/lang/IndexOutOfBoundsException") C [] ⟨0, 10, 13, 13⟩ [⟨0, 10, 17, 15⟩, ⟨0, 10, 21, 17⟩] htab (fun z hz => absurd hz List.not_mem_nil) (by decide) (by decide) m_L_fund_c13 (by decide) rfl (fun q_1 => ?_)
  refine z_astore C dL_fund_13 (by decide) [(0, .ref (ad 0)), (1, .int b), (2, .int c9), (3, .ref oa), (4, .ref q_1)] [1, 2, 3, 4, 0] rfl ?_
  refine z_iconst C (v := 1) dL_fund_15 (by decide) ?_
  exact z_iret C () rfl rfl (by decide) (by decide) dL_fund_16
set_option maxHeartbeats 4000000 in
set_option maxRecDepth 100000 in
theorem w_fund_b2 (l : Launch) (hfl : l.stackTraces = false) (sa : Nat → Nat) (D : va_G) (cI cZ cL : ClassId) (ad : Nat → Nat) (acc net tacc tnet flo bnd frm too amt pri wai byp ldr bor due plg clo pap cnd : Nat → Int32) (small price cut proc : Int32) (mk lm le : Nat) (oa : Nat) (og : Nat → Int64) (b : Nat) (c9 : Int32) (hb : b < 5) (hbad : c9 < 1 ∨ 1000000 < c9) : zMi (T := Unit) sa D vwCl (zty cI cZ cL) l yL_fund wsL_fund ({ frames := 8, cells := 1, slots := 6, locals := 126 } : Room) [.ref (ad 0), .int (nI b), .int c9, .ref oa] ((wX ad cI cZ acc net tacc tnet flo bnd frm too amt pri wai byp ldr bor due plg clo pap cnd small price cut proc (nI mk) (nI lm) (nI le)) ++ [(oa, .inl (cL, 1, .inr (.inl og)))]) (fun r9 _ => r9 = 2) (fun _ => ((wX ad cI cZ acc net tacc tnet flo bnd frm too amt pri wai byp ldr bor due plg clo pap cnd small price cut proc (nI mk) (nI lm) (nI le)) ++ [(oa, .inl (cL, 1, .inr (.inl og)))])) 1 6 := by
  refine zMi.ofH (ret := (some .int)) (cc := cL_fund) (nL := 5) (own := RL) (by decide +kernel) rfl [(0, .ref (ad 0)), (1, .int (nI b)), (2, .int c9), (3, .ref oa)] rfl (Nat.le_of_ble_eq_true rfl) rfl ?_
  intro A p e s m args below meth c C hmn htab
  refine z_aload_n C dL_fund_0 rfl 3 rfl ?_
  refine z_iconst C (v := 0) dL_fund_1 (by decide) ?_
  refine z_aload_n C dL_fund_2 rfl 0 rfl ?_
  refine z_iload_n C dL_fund_3 rfl 1 rfl ?_
  refine z_iload_n C dL_fund_4 rfl 2 rfl ?_
  refine z_callVx C (As := [.int (nI b), .int c9]) (rest := [.int 0, .ref oa]) (c_X4_fund_b2 l hfl sa D cI cZ cL ad acc net tacc tnet flo bnd frm too amt pri wai byp ldr bor due plg clo pap cnd small price cut proc mk lm le b c9 (by first | assumption | omega) (by first | assumption | omega)) (cwV 2 C.2.2.2.2.1 gL_fund_X4_fund rfl rfl rfl (by decide +kernel) ⟨Nat.le_of_ble_eq_true rfl, Nat.le_of_ble_eq_true rfl⟩) 0 rfl rfl rfl (zSub.of (wr := [(oa, .inl (cL, 1, .inr (.inl og)))]) [0, 1, 2, 3, 4, 5, 6, 7, 8, 9, 10, 11, 12, 13, 14, 15, 16, 17, 18, 19, 20, 21, 22, 23, 24] [25] [1, 2, 3, 4, 5, 6, 7, 8, 9, 10, 11, 12, 13, 14, 15, 16, 17, 18, 19, 20, 21, 22, 23, 24, 25, 0] rfl rfl rfl rfl (by decide) rfl rfl) rfl (Nat.le_of_ble_eq_true rfl) ⟨Nat.le_of_ble_eq_true rfl, Nat.le_of_ble_eq_true rfl⟩ dL_fund_5 ?_
  refine z_catch (E := "java/lang/IllegalArgumentException") (name := "java/lang/IllegalArgumentException") C [⟨0, 10, 13, 13⟩] ⟨0, 10, 17, 15⟩ [⟨0, 10, 21, 17⟩] htab (fun z hz => (List.mem_cons.mp hz).elim (fun e9 => by subst e9; exact ⟨by decide, "java/lang/IndexOutOfBoundsException", m_L_fund_c13, by decide⟩) (fun hz => absurd hz List.not_mem_nil)) (by decide) (by decide) m_L_fund_c15 (by decide) rfl (fun q_1 => ?_)
  refine z_astore C dL_fund_17 (by decide) [(0, .ref (ad 0)), (1, .int (nI b)), (2, .int c9), (3, .ref oa), (4, .ref q_1)] [1, 2, 3, 4, 0] rfl ?_
  refine z_iconst C (v := 2) dL_fund_19 (by decide) ?_
  exact z_iret C () rfl rfl (by decide) (by decide) dL_fund_20
set_option maxHeartbeats 4000000 in
set_option maxRecDepth 100000 in
theorem w_fund_b3 (l : Launch) (hfl : l.stackTraces = false) (sa : Nat → Nat) (D : va_G) (cI cZ cL : ClassId) (ad : Nat → Nat) (acc net tacc tnet flo bnd frm too amt pri wai byp ldr bor due plg clo pap cnd : Nat → Int32) (small price cut proc : Int32) (mk lm le : Nat) (oa : Nat) (og : Nat → Int64) (b : Nat) (c9 : Int32) (hb : b < 5) (h1 : ¬ c9 < 1) (h2 : ¬ 1000000 < c9) (hbad : ¬ (clo b = 0 ∧ acc b + c9 ≤ 100000000)) : zMi (T := Unit) sa D vwCl (zty cI cZ cL) l yL_fund wsL_fund ({ frames := 8, cells := 1, slots := 6, locals := 126 } : Room) [.ref (ad 0), .int (nI b), .int c9, .ref oa] ((wX ad cI cZ acc net tacc tnet flo bnd frm too amt pri wai byp ldr bor due plg clo pap cnd small price cut proc (nI mk) (nI lm) (nI le)) ++ [(oa, .inl (cL, 1, .inr (.inl og)))]) (fun r9 _ => r9 = 3) (fun _ => ((wX ad cI cZ acc net tacc tnet flo bnd frm too amt pri wai byp ldr bor due plg clo pap cnd small price cut proc (nI mk) (nI lm) (nI le)) ++ [(oa, .inl (cL, 1, .inr (.inl og)))])) 1 6 := by
  refine zMi.ofH (ret := (some .int)) (cc := cL_fund) (nL := 5) (own := RL) (by decide +kernel) rfl [(0, .ref (ad 0)), (1, .int (nI b)), (2, .int c9), (3, .ref oa)] rfl (Nat.le_of_ble_eq_true rfl) rfl ?_
  intro A p e s m args below meth c C hmn htab
  refine z_aload_n C dL_fund_0 rfl 3 rfl ?_
  refine z_iconst C (v := 0) dL_fund_1 (by decide) ?_
  refine z_aload_n C dL_fund_2 rfl 0 rfl ?_
  refine z_iload_n C dL_fund_3 rfl 1 rfl ?_
  refine z_iload_n C dL_fund_4 rfl 2 rfl ?_
  refine z_callVx C (As := [.int (nI b), .int c9]) (rest := [.int 0, .ref oa]) (c_X4_fund_b3 l hfl sa D cI cZ cL ad acc net tacc tnet flo bnd frm too amt pri wai byp ldr bor due plg clo pap cnd small price cut proc mk lm le b c9 (by first | assumption | omega) (by first | assumption | omega) (by first | assumption | omega) (by first | assumption | omega)) (cwV 2 C.2.2.2.2.1 gL_fund_X4_fund rfl rfl rfl (by decide +kernel) ⟨Nat.le_of_ble_eq_true rfl, Nat.le_of_ble_eq_true rfl⟩) 0 rfl rfl rfl (zSub.of (wr := [(oa, .inl (cL, 1, .inr (.inl og)))]) [0, 1, 2, 3, 4, 5, 6, 7, 8, 9, 10, 11, 12, 13, 14, 15, 16, 17, 18, 19, 20, 21, 22, 23, 24] [25] [1, 2, 3, 4, 5, 6, 7, 8, 9, 10, 11, 12, 13, 14, 15, 16, 17, 18, 19, 20, 21, 22, 23, 24, 25, 0] rfl rfl rfl rfl (by decide) rfl rfl) rfl (Nat.le_of_ble_eq_true rfl) ⟨Nat.le_of_ble_eq_true rfl, Nat.le_of_ble_eq_true rfl⟩ dL_fund_5 ?_
  refine z_catch (E := "java/lang/IllegalStateException") (name := "java/lang/IllegalStateException") C [⟨0, 10, 13, 13⟩, ⟨0, 10, 17, 15⟩] ⟨0, 10, 21, 17⟩ [] htab (fun z hz => (List.mem_cons.mp hz).elim (fun e9 => by subst e9; exact ⟨by decide, "java/lang/IndexOutOfBoundsException", m_L_fund_c13, by decide⟩) (fun hz => (List.mem_cons.mp hz).elim (fun e9 => by subst e9; exact ⟨by decide, "java/lang/IllegalArgumentException", m_L_fund_c15, by decide⟩) (fun hz => absurd hz List.not_mem_nil))) (by decide) (by decide) m_L_fund_c17 (by decide) rfl (fun q_1 => ?_)
  refine z_astore C dL_fund_21 (by decide) [(0, .ref (ad 0)), (1, .int (nI b)), (2, .int c9), (3, .ref oa), (4, .ref q_1)] [1, 2, 3, 4, 0] rfl ?_
  refine z_iconst C (v := 3) dL_fund_23 (by decide) ?_
  exact z_iret C () rfl rfl (by decide) (by decide) dL_fund_24
set_option maxHeartbeats 4000000 in
set_option maxRecDepth 100000 in
theorem w_setFloor_ok (l : Launch) (sa : Nat → Nat) (D : va_G) (cI cZ cL : ClassId) (ad : Nat → Nat) (acc net tacc tnet flo bnd frm too amt pri wai byp ldr bor due plg clo pap cnd : Nat → Int32) (small price cut proc : Int32) (mk lm le : Nat) (oa : Nat) (og : Nat → Int64) (b : Nat) (f : Int32) (hb : b < 5) (h1 : ¬ f < -1000000) (h2 : ¬ 0 < f) (h3 : ¬ acc b < f) : zMi (T := Unit) sa D vwCl (zty cI cZ cL) l yL_setFloor wsL_setFloor ({ frames := 8, cells := 0, slots := 0, locals := 127 } : Room) [.ref (ad 0), .int (nI b), .int f, .ref oa] ((wX ad cI cZ acc net tacc tnet flo bnd frm too amt pri wai byp ldr bor due plg clo pap cnd small price cut proc (nI mk) (nI lm) (nI le)) ++ [(oa, .inl (cL, 1, .inr (.inl og)))]) (fun r9 _ => r9 = 0) (fun _ => ((wX ad cI cZ acc net tacc tnet (upd flo b f) bnd frm too amt pri wai byp ldr bor due plg clo pap cnd small price cut proc (nI mk) (nI lm) (nI le)) ++ [(oa, .inl (cL, 1, .inr (.inl (vp_updL og 0 (((flo b)).toInt64)))))])) 0 0 := by
  refine zMi.ofH (ret := (some .int)) (cc := cL_setFloor) (nL := 5) (own := RL) (by decide +kernel) rfl [(0, .ref (ad 0)), (1, .int (nI b)), (2, .int f), (3, .ref oa)] rfl (Nat.le_of_ble_eq_true rfl) rfl ?_
  intro A p e s m args below meth c C hmn htab
  refine z_aload_n C dL_setFloor_0 rfl 3 rfl ?_
  refine z_iconst C (v := 0) dL_setFloor_1 (by decide) ?_
  refine z_aload_n C dL_setFloor_2 rfl 0 rfl ?_
  refine z_iload_n C dL_setFloor_3 rfl 1 rfl ?_
  refine z_iload_n C dL_setFloor_4 rfl 2 rfl ?_
  refine z_callVi C (T := Unit) (As := [.int (nI b), .int f]) (rest := [.int 0, .ref oa]) (ws' := fun _ => ((wX ad cI cZ acc net tacc tnet (upd flo b f) bnd frm too amt pri wai byp ldr bor due plg clo pap cnd small price cut proc (nI mk) (nI lm) (nI le)) ++ [(oa, .inl (cL, 1, .inr (.inl og)))])) (c_X4_setFloor_ok l sa D cI cZ cL ad acc net tacc tnet flo bnd frm too amt pri wai byp ldr bor due plg clo pap cnd small price cut proc mk lm le b f (by first | assumption | omega) (by first | assumption | omega) (by first | assumption | omega) (by first | assumption | omega)) (cwV 2 C.2.2.2.2.1 gL_setFloor_X4_setFloor rfl rfl rfl (by decide +kernel) ⟨Nat.le_of_ble_eq_true rfl, Nat.le_of_ble_eq_true rfl⟩) 0 rfl rfl rfl (fun _ => (zSub.of (wr := [(oa, .inl (cL, 1, .inr (.inl og)))]) [0, 1, 2, 3, 4, 5, 6, 7, 8, 9, 10, 11, 12, 13, 14, 15, 16, 17, 18, 19, 20, 21, 22, 23, 24] [25] [1, 2, 3, 4, 5, 6, 7, 8, 9, 10, 11, 12, 13, 14, 15, 16, 17, 18, 19, 20, 21, 22, 23, 24, 25, 0] rfl rfl rfl rfl (by decide) rfl rfl)) (zIn.of [0, 1, 2, 3, 4, 5, 6, 7, 8, 9, 10, 11, 12, 13, 14, 15, 16, 17, 18, 19, 20, 21, 22, 23, 24] rfl rfl) rfl (Nat.le_of_ble_eq_true rfl) ⟨Nat.le_of_ble_eq_true rfl, Nat.le_of_ble_eq_true rfl⟩ dL_setFloor_5 (fun r_1 _ h_2 => ?_)
  obtain rfl : r_1 = (flo b) := h_2
  refine z_i2l C (v := ((flo b)).toInt64) dL_setFloor_8 rfl ?_
  refine z_last C 25 2 rfl rfl 0 (nI_clamp (n := 0) (by decide)) (vp_in_nI (n := 0) (by decide) (by decide)) dL_setFloor_9 ((wX ad cI cZ acc net tacc tnet (upd flo b f) bnd frm too amt pri wai byp ldr bor due plg clo pap cnd small price cut proc (nI mk) (nI lm) (nI le)) ++ [(oa, .inl (cL, 1, .inr (.inl (vp_updL og 0 ((flo b)).toInt64))))]) rfl ?_
  refine z_goto C (tgt := 21) dL_setFloor_10 (by decide) ?_
  refine z_iconst C (v := 0) dL_setFloor_21 (by decide) ?_
  exact z_iret C () rfl rfl (by decide) (by decide) dL_setFloor_22
set_option maxHeartbeats 4000000 in
set_option maxRecDepth 100000 in
theorem w_setFloor_b1 (l : Launch) (hfl : l.stackTraces = false) (sa : Nat → Nat) (D : va_G) (cI cZ cL : ClassId) (ad : Nat → Nat) (acc net tacc tnet flo bnd frm too amt pri wai byp ldr bor due plg clo pap cnd : Nat → Int32) (small price cut proc : Int32) (mk lm le : Nat) (oa : Nat) (og : Nat → Int64) (b : Int32) (f : Int32) (hb : b < 0 ∨ 5 ≤ b) : zMi (T := Unit) sa D vwCl (zty cI cZ cL) l yL_setFloor wsL_setFloor ({ frames := 8, cells := 1, slots := 6, locals := 125 } : Room) [.ref (ad 0), .int b, .int f, .ref oa] ((wX ad cI cZ acc net tacc tnet flo bnd frm too amt pri wai byp ldr bor due plg clo pap cnd small price cut proc (nI mk) (nI lm) (nI le)) ++ [(oa, .inl (cL, 1, .inr (.inl og)))]) (fun r9 _ => r9 = 1) (fun _ => ((wX ad cI cZ acc net tacc tnet flo bnd frm too amt pri wai byp ldr bor due plg clo pap cnd small price cut proc (nI mk) (nI lm) (nI le)) ++ [(oa, .inl (cL, 1, .inr (.inl og)))])) 1 6 := by
  refine zMi.ofH (ret := (some .int)) (cc := cL_setFloor) (nL := 5) (own := RL) (by decide +kernel) rfl [(0, .ref (ad 0)), (1, .int b), (2, .int f), (3, .ref oa)] rfl (Nat.le_of_ble_eq_true rfl) rfl ?_
  intro A p e s m args below meth c C hmn htab
  refine z_aload_n C dL_setFloor_0 rfl 3 rfl ?_
  refine z_iconst C (v := 0) dL_setFloor_1 (by decide) ?_
  refine z_aload_n C dL_setFloor_2 rfl 0 rfl ?_
  refine z_iload_n C dL_setFloor_3 rfl 1 rfl ?_
  refine z_iload_n C dL_setFloor_4 rfl 2 rfl ?_
  refine z_callVx C (As := [.int b, .int f]) (rest := [.int 0, .ref oa]) (c_X4_setFloor_b1 l hfl sa D cI cZ cL ad acc net tacc tnet flo bnd frm too amt pri wai byp ldr bor due plg clo pap cnd small price cut proc mk lm le b f (by first | assumption | omega)) (cwV 2 C.2.2.2.2.1 gL_setFloor_X4_setFloor rfl rfl rfl (by decide +kernel) ⟨Nat.le_of_ble_eq_true rfl, Nat.le_of_ble_eq_true rfl⟩) 0 rfl rfl rfl (zSub.of (wr := [(oa, .inl (cL, 1, .inr (.inl og)))]) [0, 1, 2, 3, 4, 5, 6, 7, 8, 9, 10, 11, 12, 13, 14, 15, 16, 17, 18, 19, 20, 21, 22, 23, 24] [25] [1, 2, 3, 4, 5, 6, 7, 8, 9, 10, 11, 12, 13, 14, 15, 16, 17, 18, 19, 20, 21, 22, 23, 24, 25, 0] rfl rfl rfl rfl (by decide) rfl rfl) rfl (Nat.le_of_ble_eq_true rfl) ⟨Nat.le_of_ble_eq_true rfl, Nat.le_of_ble_eq_true rfl⟩ dL_setFloor_5 ?_
  refine z_catch (E := "java/lang/IndexOutOfBoundsException") (name := "java/lang/IndexOutOfBoundsException") C [] ⟨0, 10, 13, 13⟩ [⟨0, 10, 17, 15⟩] htab (fun z hz => absurd hz List.not_mem_nil) (by decide) (by decide) m_L_setFloor_c13 (by decide) rfl (fun q_1 => ?_)
  refine z_astore C dL_setFloor_13 (by decide) [(0, .ref (ad 0)), (1, .int b), (2, .int f), (3, .ref oa), (4, .ref q_1)] [1, 2, 3, 4, 0] rfl ?_
  refine z_iconst C (v := 1) dL_setFloor_15 (by decide) ?_
  exact z_iret C () rfl rfl (by decide) (by decide) dL_setFloor_16
set_option maxHeartbeats 4000000 in
set_option maxRecDepth 100000 in
theorem w_setFloor_b2 (l : Launch) (hfl : l.stackTraces = false) (sa : Nat → Nat) (D : va_G) (cI cZ cL : ClassId) (ad : Nat → Nat) (acc net tacc tnet flo bnd frm too amt pri wai byp ldr bor due plg clo pap cnd : Nat → Int32) (small price cut proc : Int32) (mk lm le : Nat) (oa : Nat) (og : Nat → Int64) (b : Nat) (f : Int32) (hb : b < 5) (hbad : f < -1000000 ∨ 0 < f ∨ acc b < f) : zMi (T := Unit) sa D vwCl (zty cI cZ cL) l yL_setFloor wsL_setFloor ({ frames := 8, cells := 1, slots := 6, locals := 127 } : Room) [.ref (ad 0), .int (nI b), .int f, .ref oa] ((wX ad cI cZ acc net tacc tnet flo bnd frm too amt pri wai byp ldr bor due plg clo pap cnd small price cut proc (nI mk) (nI lm) (nI le)) ++ [(oa, .inl (cL, 1, .inr (.inl og)))]) (fun r9 _ => r9 = 2) (fun _ => ((wX ad cI cZ acc net tacc tnet flo bnd frm too amt pri wai byp ldr bor due plg clo pap cnd small price cut proc (nI mk) (nI lm) (nI le)) ++ [(oa, .inl (cL, 1, .inr (.inl og)))])) 1 6 := by
  refine zMi.ofH (ret := (some .int)) (cc := cL_setFloor) (nL := 5) (own := RL) (by decide +kernel) rfl [(0, .ref (ad 0)), (1, .int (nI b)), (2, .int f), (3, .ref oa)] rfl (Nat.le_of_ble_eq_true rfl) rfl ?_
  intro A p e s m args below meth c C hmn htab
  refine z_aload_n C dL_setFloor_0 rfl 3 rfl ?_
  refine z_iconst C (v := 0) dL_setFloor_1 (by decide) ?_
  refine z_aload_n C dL_setFloor_2 rfl 0 rfl ?_
  refine z_iload_n C dL_setFloor_3 rfl 1 rfl ?_
  refine z_iload_n C dL_setFloor_4 rfl 2 rfl ?_
  refine z_callVx C (As := [.int (nI b), .int f]) (rest := [.int 0, .ref oa]) (c_X4_setFloor_b2 l hfl sa D cI cZ cL ad acc net tacc tnet flo bnd frm too amt pri wai byp ldr bor due plg clo pap cnd small price cut proc mk lm le b f (by first | assumption | omega) (by first | assumption | omega)) (cwV 2 C.2.2.2.2.1 gL_setFloor_X4_setFloor rfl rfl rfl (by decide +kernel) ⟨Nat.le_of_ble_eq_true rfl, Nat.le_of_ble_eq_true rfl⟩) 0 rfl rfl rfl (zSub.of (wr := [(oa, .inl (cL, 1, .inr (.inl og)))]) [0, 1, 2, 3, 4, 5, 6, 7, 8, 9, 10, 11, 12, 13, 14, 15, 16, 17, 18, 19, 20, 21, 22, 23, 24] [25] [1, 2, 3, 4, 5, 6, 7, 8, 9, 10, 11, 12, 13, 14, 15, 16, 17, 18, 19, 20, 21, 22, 23, 24, 25, 0] rfl rfl rfl rfl (by decide) rfl rfl) rfl (Nat.le_of_ble_eq_true rfl) ⟨Nat.le_of_ble_eq_true rfl, Nat.le_of_ble_eq_true rfl⟩ dL_setFloor_5 ?_
  refine z_catch (E := "java/lang/IllegalArgumentException") (name := "java/lang/IllegalArgumentException") C [⟨0, 10, 13, 13⟩] ⟨0, 10, 17, 15⟩ [] htab (fun z hz => (List.mem_cons.mp hz).elim (fun e9 => by subst e9; exact ⟨by decide, "java/lang/IndexOutOfBoundsException", m_L_setFloor_c13, by decide⟩) (fun hz => absurd hz List.not_mem_nil)) (by decide) (by decide) m_L_setFloor_c15 (by decide) rfl (fun q_1 => ?_)
  refine z_astore C dL_setFloor_17 (by decide) [(0, .ref (ad 0)), (1, .int (nI b)), (2, .int f), (3, .ref oa), (4, .ref q_1)] [1, 2, 3, 4, 0] rfl ?_
  refine z_iconst C (v := 2) dL_setFloor_19 (by decide) ?_
  exact z_iret C () rfl rfl (by decide) (by decide) dL_setFloor_20
set_option maxHeartbeats 4000000 in
set_option maxRecDepth 100000 in
theorem w_setBound_ok (l : Launch) (sa : Nat → Nat) (D : va_G) (cI cZ cL : ClassId) (ad : Nat → Nat) (acc net tacc tnet flo bnd frm too amt pri wai byp ldr bor due plg clo pap cnd : Nat → Int32) (small price cut proc : Int32) (mk lm le : Nat) (oa : Nat) (og : Nat → Int64) (b : Nat) (o : Nat) (x : Int32) (hb : b < 5) (ho : o < 5) (hft : b ≠ o) (h1 : ¬ x < 0) (h2 : ¬ 1000000 < x) (h3 : ¬ x < net (b * 5 + o)) : zMi (T := Unit) sa D vwCl (zty cI cZ cL) l yL_setBound wsL_setBound ({ frames := 8, cells := 0, slots := 0, locals := 129 } : Room) [.ref (ad 0), .int (nI b), .int (nI o), .int x, .ref oa] ((wX ad cI cZ acc net tacc tnet flo bnd frm too amt pri wai byp ldr bor due plg clo pap cnd small price cut proc (nI mk) (nI lm) (nI le)) ++ [(oa, .inl (cL, 1, .inr (.inl og)))]) (fun r9 _ => r9 = 0) (fun _ => ((wX ad cI cZ acc net tacc tnet flo (upd bnd (b * 5 + o) x) frm too amt pri wai byp ldr bor due plg clo pap cnd small price cut proc (nI mk) (nI lm) (nI le)) ++ [(oa, .inl (cL, 1, .inr (.inl (vp_updL og 0 (((bnd (b * 5 + o))).toInt64)))))])) 0 0 := by
  refine zMi.ofH (ret := (some .int)) (cc := cL_setBound) (nL := 6) (own := RL) (by decide +kernel) rfl [(0, .ref (ad 0)), (1, .int (nI b)), (2, .int (nI o)), (3, .int x), (4, .ref oa)] rfl (Nat.le_of_ble_eq_true rfl) rfl ?_
  intro A p e s m args below meth c C hmn htab
  refine z_aload C dL_setBound_0 4 rfl ?_
  refine z_iconst C (v := 0) dL_setBound_2 (by decide) ?_
  refine z_aload_n C dL_setBound_3 rfl 0 rfl ?_
  refine z_iload_n C dL_setBound_4 rfl 1 rfl ?_
  refine z_iload_n C dL_setBound_5 rfl 2 rfl ?_
  refine z_iload_n C dL_setBound_6 rfl 3 rfl ?_
  refine z_callVi C (T := Unit) (As := [.int (nI b), .int (nI o), .int x]) (rest := [.int 0, .ref oa]) (ws' := fun _ => ((wX ad cI cZ acc net tacc tnet flo (upd bnd (b * 5 + o) x) frm too amt pri wai byp ldr bor due plg clo pap cnd small price cut proc (nI mk) (nI lm) (nI le)) ++ [(oa, .inl (cL, 1, .inr (.inl og)))])) (c_X4_setBound_ok l sa D cI cZ cL ad acc net tacc tnet flo bnd frm too amt pri wai byp ldr bor due plg clo pap cnd small price cut proc mk lm le b o x (by first | assumption | omega) (by first | assumption | omega) (by first | assumption | omega) (by first | assumption | omega) (by first | assumption | omega) (by first | assumption | omega)) (cwV 3 C.2.2.2.2.1 gL_setBound_X4_setBound rfl rfl rfl (by decide +kernel) ⟨Nat.le_of_ble_eq_true rfl, Nat.le_of_ble_eq_true rfl⟩) 0 rfl rfl rfl (fun _ => (zSub.of (wr := [(oa, .inl (cL, 1, .inr (.inl og)))]) [0, 1, 2, 3, 4, 5, 6, 7, 8, 9, 10, 11, 12, 13, 14, 15, 16, 17, 18, 19, 20, 21, 22, 23, 24] [25] [1, 2, 3, 4, 5, 6, 7, 8, 9, 10, 11, 12, 13, 14, 15, 16, 17, 18, 19, 20, 21, 22, 23, 24, 25, 0] rfl rfl rfl rfl (by decide) rfl rfl)) (zIn.of [0, 1, 2, 3, 4, 5, 6, 7, 8, 9, 10, 11, 12, 13, 14, 15, 16, 17, 18, 19, 20, 21, 22, 23, 24] rfl rfl) rfl (Nat.le_of_ble_eq_true rfl) ⟨Nat.le_of_ble_eq_true rfl, Nat.le_of_ble_eq_true rfl⟩ dL_setBound_7 (fun r_1 _ h_2 => ?_)
  obtain rfl : r_1 = (bnd (b * 5 + o)) := h_2
  refine z_i2l C (v := ((bnd (b * 5 + o))).toInt64) dL_setBound_10 rfl ?_
  refine z_last C 25 2 rfl rfl 0 (nI_clamp (n := 0) (by decide)) (vp_in_nI (n := 0) (by decide) (by decide)) dL_setBound_11 ((wX ad cI cZ acc net tacc tnet flo (upd bnd (b * 5 + o) x) frm too amt pri wai byp ldr bor due plg clo pap cnd small price cut proc (nI mk) (nI lm) (nI le)) ++ [(oa, .inl (cL, 1, .inr (.inl (vp_updL og 0 ((bnd (b * 5 + o))).toInt64))))]) rfl ?_
  refine z_goto C (tgt := 23) dL_setBound_12 (by decide) ?_
  refine z_iconst C (v := 0) dL_setBound_23 (by decide) ?_
  exact z_iret C () rfl rfl (by decide) (by decide) dL_setBound_24
set_option maxHeartbeats 4000000 in
set_option maxRecDepth 100000 in
theorem w_setBound_b1 (l : Launch) (hfl : l.stackTraces = false) (sa : Nat → Nat) (D : va_G) (cI cZ cL : ClassId) (ad : Nat → Nat) (acc net tacc tnet flo bnd frm too amt pri wai byp ldr bor due plg clo pap cnd : Nat → Int32) (small price cut proc : Int32) (mk lm le : Nat) (oa : Nat) (og : Nat → Int64) (b : Int32) (o : Int32) (x : Int32) (hb : b < 0 ∨ 5 ≤ b) : zMi (T := Unit) sa D vwCl (zty cI cZ cL) l yL_setBound wsL_setBound ({ frames := 8, cells := 1, slots := 6, locals := 127 } : Room) [.ref (ad 0), .int b, .int o, .int x, .ref oa] ((wX ad cI cZ acc net tacc tnet flo bnd frm too amt pri wai byp ldr bor due plg clo pap cnd small price cut proc (nI mk) (nI lm) (nI le)) ++ [(oa, .inl (cL, 1, .inr (.inl og)))]) (fun r9 _ => r9 = 1) (fun _ => ((wX ad cI cZ acc net tacc tnet flo bnd frm too amt pri wai byp ldr bor due plg clo pap cnd small price cut proc (nI mk) (nI lm) (nI le)) ++ [(oa, .inl (cL, 1, .inr (.inl og)))])) 1 6 := by
  refine zMi.ofH (ret := (some .int)) (cc := cL_setBound) (nL := 6) (own := RL) (by decide +kernel) rfl [(0, .ref (ad 0)), (1, .int b), (2, .int o), (3, .int x), (4, .ref oa)] rfl (Nat.le_of_ble_eq_true rfl) rfl ?_
  intro A p e s m args below meth c C hmn htab
  refine z_aload C dL_setBound_0 4 rfl ?_
  refine z_iconst C (v := 0) dL_setBound_2 (by decide) ?_
  refine z_aload_n C dL_setBound_3 rfl 0 rfl ?_
  refine z_iload_n C dL_setBound_4 rfl 1 rfl ?_
  refine z_iload_n C dL_setBound_5 rfl 2 rfl ?_
  refine z_iload_n C dL_setBound_6 rfl 3 rfl ?_
  refine z_callVx C (As := [.int b, .int o, .int x]) (rest := [.int 0, .ref oa]) (c_X4_setBound_b1 l hfl sa D cI cZ cL ad acc net tacc tnet flo bnd frm too amt pri wai byp ldr bor due plg clo pap cnd small price cut proc mk lm le b o x (by first | assumption | omega)) (cwV 3 C.2.2.2.2.1 gL_setBound_X4_setBound rfl rfl rfl (by decide +kernel) ⟨Nat.le_of_ble_eq_true rfl, Nat.le_of_ble_eq_true rfl⟩) 0 rfl rfl rfl (zSub.of (wr := [(oa, .inl (cL, 1, .inr (.inl og)))]) [0, 1, 2, 3, 4, 5, 6, 7, 8, 9, 10, 11, 12, 13, 14, 15, 16, 17, 18, 19, 20, 21, 22, 23, 24] [25] [1, 2, 3, 4, 5, 6, 7, 8, 9, 10, 11, 12, 13, 14, 15, 16, 17, 18, 19, 20, 21, 22, 23, 24, 25, 0] rfl rfl rfl rfl (by decide) rfl rfl) rfl (Nat.le_of_ble_eq_true rfl) ⟨Nat.le_of_ble_eq_true rfl, Nat.le_of_ble_eq_true rfl⟩ dL_setBound_7 ?_
  refine z_catch (E := "java/lang/IndexOutOfBoundsException") (name := "java/lang/IndexOutOfBoundsException") C [] ⟨0, 12, 15, 13⟩ [⟨0, 12, 19, 15⟩] htab (fun z hz => absurd hz List.not_mem_nil) (by decide) (by decide) m_L_setBound_c13 (by decide) rfl (fun q_1 => ?_)
  refine z_astore C dL_setBound_15 (by decide) [(0, .ref (ad 0)), (1, .int b), (2, .int o), (3, .int x), (4, .ref oa), (5, .ref q_1)] [1, 2, 3, 4, 5, 0] rfl ?_
  refine z_iconst C (v := 1) dL_setBound_17 (by decide) ?_
  exact z_iret C () rfl rfl (by decide) (by decide) dL_setBound_18
set_option maxHeartbeats 4000000 in
set_option maxRecDepth 100000 in
theorem w_setBound_b1b (l : Launch) (hfl : l.stackTraces = false) (sa : Nat → Nat) (D : va_G) (cI cZ cL : ClassId) (ad : Nat → Nat) (acc net tacc tnet flo bnd frm too amt pri wai byp ldr bor due plg clo pap cnd : Nat → Int32) (small price cut proc : Int32) (mk lm le : Nat) (oa : Nat) (og : Nat → Int64) (b : Nat) (o : Int32) (x : Int32) (hb : b < 5) (ho : o < 0 ∨ 5 ≤ o) : zMi (T := Unit) sa D vwCl (zty cI cZ cL) l yL_setBound wsL_setBound ({ frames := 8, cells := 1, slots := 6, locals := 127 } : Room) [.ref (ad 0), .int (nI b), .int o, .int x, .ref oa] ((wX ad cI cZ acc net tacc tnet flo bnd frm too amt pri wai byp ldr bor due plg clo pap cnd small price cut proc (nI mk) (nI lm) (nI le)) ++ [(oa, .inl (cL, 1, .inr (.inl og)))]) (fun r9 _ => r9 = 1) (fun _ => ((wX ad cI cZ acc net tacc tnet flo bnd frm too amt pri wai byp ldr bor due plg clo pap cnd small price cut proc (nI mk) (nI lm) (nI le)) ++ [(oa, .inl (cL, 1, .inr (.inl og)))])) 1 6 := by
  refine zMi.ofH (ret := (some .int)) (cc := cL_setBound) (nL := 6) (own := RL) (by decide +kernel) rfl [(0, .ref (ad 0)), (1, .int (nI b)), (2, .int o), (3, .int x), (4, .ref oa)] rfl (Nat.le_of_ble_eq_true rfl) rfl ?_
  intro A p e s m args below meth c C hmn htab
  refine z_aload C dL_setBound_0 4 rfl ?_
  refine z_iconst C (v := 0) dL_setBound_2 (by decide) ?_
  refine z_aload_n C dL_setBound_3 rfl 0 rfl ?_
  refine z_iload_n C dL_setBound_4 rfl 1 rfl ?_
  refine z_iload_n C dL_setBound_5 rfl 2 rfl ?_
  refine z_iload_n C dL_setBound_6 rfl 3 rfl ?_
  refine z_callVx C (As := [.int (nI b), .int o, .int x]) (rest := [.int 0, .ref oa]) (c_X4_setBound_b1b l hfl sa D cI cZ cL ad acc net tacc tnet flo bnd frm too amt pri wai byp ldr bor due plg clo pap cnd small price cut proc mk lm le b o x (by first | assumption | omega) (by first | assumption | omega)) (cwV 3 C.2.2.2.2.1 gL_setBound_X4_setBound rfl rfl rfl (by decide +kernel) ⟨Nat.le_of_ble_eq_true rfl, Nat.le_of_ble_eq_true rfl⟩) 0 rfl rfl rfl (zSub.of (wr := [(oa, .inl (cL, 1, .inr (.inl og)))]) [0, 1, 2, 3, 4, 5, 6, 7, 8, 9, 10, 11, 12, 13, 14, 15, 16, 17, 18, 19, 20, 21, 22, 23, 24] [25] [1, 2, 3, 4, 5, 6, 7, 8, 9, 10, 11, 12, 13, 14, 15, 16, 17, 18, 19, 20, 21, 22, 23, 24, 25, 0] rfl rfl rfl rfl (by decide) rfl rfl) rfl (Nat.le_of_ble_eq_true rfl) ⟨Nat.le_of_ble_eq_true rfl, Nat.le_of_ble_eq_true rfl⟩ dL_setBound_7 ?_
  refine z_catch (E := "java/lang/IndexOutOfBoundsException") (name := "java/lang/IndexOutOfBoundsException") C [] ⟨0, 12, 15, 13⟩ [⟨0, 12, 19, 15⟩] htab (fun z hz => absurd hz List.not_mem_nil) (by decide) (by decide) m_L_setBound_c13 (by decide) rfl (fun q_1 => ?_)
  refine z_astore C dL_setBound_15 (by decide) [(0, .ref (ad 0)), (1, .int (nI b)), (2, .int o), (3, .int x), (4, .ref oa), (5, .ref q_1)] [1, 2, 3, 4, 5, 0] rfl ?_
  refine z_iconst C (v := 1) dL_setBound_17 (by decide) ?_
  exact z_iret C () rfl rfl (by decide) (by decide) dL_setBound_18
set_option maxHeartbeats 4000000 in
set_option maxRecDepth 100000 in
theorem w_setBound_b2a (l : Launch) (hfl : l.stackTraces = false) (sa : Nat → Nat) (D : va_G) (cI cZ cL : ClassId) (ad : Nat → Nat) (acc net tacc tnet flo bnd frm too amt pri wai byp ldr bor due plg clo pap cnd : Nat → Int32) (small price cut proc : Int32) (mk lm le : Nat) (oa : Nat) (og : Nat → Int64) (b : Nat) (o : Nat) (x : Int32) (hb : b < 5) (ho : o < 5) (hft : b = o) : zMi (T := Unit) sa D vwCl (zty cI cZ cL) l yL_setBound wsL_setBound ({ frames := 8, cells := 1, slots := 6, locals := 128 } : Room) [.ref (ad 0), .int (nI b), .int (nI o), .int x, .ref oa] ((wX ad cI cZ acc net tacc tnet flo bnd frm too amt pri wai byp ldr bor due plg clo pap cnd small price cut proc (nI mk) (nI lm) (nI le)) ++ [(oa, .inl (cL, 1, .inr (.inl og)))]) (fun r9 _ => r9 = 2) (fun _ => ((wX ad cI cZ acc net tacc tnet flo bnd frm too amt pri wai byp ldr bor due plg clo pap cnd small price cut proc (nI mk) (nI lm) (nI le)) ++ [(oa, .inl (cL, 1, .inr (.inl og)))])) 1 6 := by
  refine zMi.ofH (ret := (some .int)) (cc := cL_setBound) (nL := 6) (own := RL) (by decide +kernel) rfl [(0, .ref (ad 0)), (1, .int (nI b)), (2, .int (nI o)), (3, .int x), (4, .ref oa)] rfl (Nat.le_of_ble_eq_true rfl) rfl ?_
  intro A p e s m args below meth c C hmn htab
  refine z_aload C dL_setBound_0 4 rfl ?_
  refine z_iconst C (v := 0) dL_setBound_2 (by decide) ?_
  refine z_aload_n C dL_setBound_3 rfl 0 rfl ?_
  refine z_iload_n C dL_setBound_4 rfl 1 rfl ?_
  refine z_iload_n C dL_setBound_5 rfl 2 rfl ?_
  refine z_iload_n C dL_setBound_6 rfl 3 rfl ?_
  refine z_callVx C (As := [.int (nI b), .int (nI o), .int x]) (rest := [.int 0, .ref oa]) (c_X4_setBound_b2a l hfl sa D cI cZ cL ad acc net tacc tnet flo bnd frm too amt pri wai byp ldr bor due plg clo pap cnd small price cut proc mk lm le b o x (by first | assumption | omega) (by first | assumption | omega) (by first | assumption | omega)) (cwV 3 C.2.2.2.2.1 gL_setBound_X4_setBound rfl rfl rfl (by decide +kernel) ⟨Nat.le_of_ble_eq_true rfl, Nat.le_of_ble_eq_true rfl⟩) 0 rfl rfl rfl (zSub.of (wr := [(oa, .inl (cL, 1, .inr (.inl og)))]) [0, 1, 2, 3, 4, 5, 6, 7, 8, 9, 10, 11, 12, 13, 14, 15, 16, 17, 18, 19, 20, 21, 22, 23, 24] [25] [1, 2, 3, 4, 5, 6, 7, 8, 9, 10, 11, 12, 13, 14, 15, 16, 17, 18, 19, 20, 21, 22, 23, 24, 25, 0] rfl rfl rfl rfl (by decide) rfl rfl) rfl (Nat.le_of_ble_eq_true rfl) ⟨Nat.le_of_ble_eq_true rfl, Nat.le_of_ble_eq_true rfl⟩ dL_setBound_7 ?_
  refine z_catch (E := "java/lang/IllegalArgumentException") (name := "java/lang/IllegalArgumentException") C [⟨0, 12, 15, 13⟩] ⟨0, 12, 19, 15⟩ [] htab (fun z hz => (List.mem_cons.mp hz).elim (fun e9 => by subst e9; exact ⟨by decide, "java/lang/IndexOutOfBoundsException", m_L_setBound_c13, by decide⟩) (fun hz => absurd hz List.not_mem_nil)) (by decide) (by decide) m_L_setBound_c15 (by decide) rfl (fun q_1 => ?_)
  refine z_astore C dL_setBound_19 (by decide) [(0, .ref (ad 0)), (1, .int (nI b)), (2, .int (nI o)), (3, .int x), (4, .ref oa), (5, .ref q_1)] [1, 2, 3, 4, 5, 0] rfl ?_
  refine z_iconst C (v := 2) dL_setBound_21 (by decide) ?_
  exact z_iret C () rfl rfl (by decide) (by decide) dL_setBound_22
set_option maxHeartbeats 4000000 in
set_option maxRecDepth 100000 in
theorem w_setBound_b2b (l : Launch) (hfl : l.stackTraces = false) (sa : Nat → Nat) (D : va_G) (cI cZ cL : ClassId) (ad : Nat → Nat) (acc net tacc tnet flo bnd frm too amt pri wai byp ldr bor due plg clo pap cnd : Nat → Int32) (small price cut proc : Int32) (mk lm le : Nat) (oa : Nat) (og : Nat → Int64) (b : Nat) (o : Nat) (x : Int32) (hb : b < 5) (ho : o < 5) (hft : b ≠ o) (hbad : x < 0 ∨ 1000000 < x ∨ x < net (b * 5 + o)) : zMi (T := Unit) sa D vwCl (zty cI cZ cL) l yL_setBound wsL_setBound ({ frames := 8, cells := 1, slots := 6, locals := 129 } : Room) [.ref (ad 0), .int (nI b), .int (nI o), .int x, .ref oa] ((wX ad cI cZ acc net tacc tnet flo bnd frm too amt pri wai byp ldr bor due plg clo pap cnd small price cut proc (nI mk) (nI lm) (nI le)) ++ [(oa, .inl (cL, 1, .inr (.inl og)))]) (fun r9 _ => r9 = 2) (fun _ => ((wX ad cI cZ acc net tacc tnet flo bnd frm too amt pri wai byp ldr bor due plg clo pap cnd small price cut proc (nI mk) (nI lm) (nI le)) ++ [(oa, .inl (cL, 1, .inr (.inl og)))])) 1 6 := by
  refine zMi.ofH (ret := (some .int)) (cc := cL_setBound) (nL := 6) (own := RL) (by decide +kernel) rfl [(0, .ref (ad 0)), (1, .int (nI b)), (2, .int (nI o)), (3, .int x), (4, .ref oa)] rfl (Nat.le_of_ble_eq_true rfl) rfl ?_
  intro A p e s m args below meth c C hmn htab
  refine z_aload C dL_setBound_0 4 rfl ?_
  refine z_iconst C (v := 0) dL_setBound_2 (by decide) ?_
  refine z_aload_n C dL_setBound_3 rfl 0 rfl ?_
  refine z_iload_n C dL_setBound_4 rfl 1 rfl ?_
  refine z_iload_n C dL_setBound_5 rfl 2 rfl ?_
  refine z_iload_n C dL_setBound_6 rfl 3 rfl ?_
  refine z_callVx C (As := [.int (nI b), .int (nI o), .int x]) (rest := [.int 0, .ref oa]) (c_X4_setBound_b2b l hfl sa D cI cZ cL ad acc net tacc tnet flo bnd frm too amt pri wai byp ldr bor due plg clo pap cnd small price cut proc mk lm le b o x (by first | assumption | omega) (by first | assumption | omega) (by first | assumption | omega) (by first | assumption | omega)) (cwV 3 C.2.2.2.2.1 gL_setBound_X4_setBound rfl rfl rfl (by decide +kernel) ⟨Nat.le_of_ble_eq_true rfl, Nat.le_of_ble_eq_true rfl⟩) 0 rfl rfl rfl (zSub.of (wr := [(oa, .inl (cL, 1, .inr (.inl og)))]) [0, 1, 2, 3, 4, 5, 6, 7, 8, 9, 10, 11, 12, 13, 14, 15, 16, 17, 18, 19, 20, 21, 22, 23, 24] [25] [1, 2, 3, 4, 5, 6, 7, 8, 9, 10, 11, 12, 13, 14, 15, 16, 17, 18, 19, 20, 21, 22, 23, 24, 25, 0] rfl rfl rfl rfl (by decide) rfl rfl) rfl (Nat.le_of_ble_eq_true rfl) ⟨Nat.le_of_ble_eq_true rfl, Nat.le_of_ble_eq_true rfl⟩ dL_setBound_7 ?_
  refine z_catch (E := "java/lang/IllegalArgumentException") (name := "java/lang/IllegalArgumentException") C [⟨0, 12, 15, 13⟩] ⟨0, 12, 19, 15⟩ [] htab (fun z hz => (List.mem_cons.mp hz).elim (fun e9 => by subst e9; exact ⟨by decide, "java/lang/IndexOutOfBoundsException", m_L_setBound_c13, by decide⟩) (fun hz => absurd hz List.not_mem_nil)) (by decide) (by decide) m_L_setBound_c15 (by decide) rfl (fun q_1 => ?_)
  refine z_astore C dL_setBound_19 (by decide) [(0, .ref (ad 0)), (1, .int (nI b)), (2, .int (nI o)), (3, .int x), (4, .ref oa), (5, .ref q_1)] [1, 2, 3, 4, 5, 0] rfl ?_
  refine z_iconst C (v := 2) dL_setBound_21 (by decide) ?_
  exact z_iret C () rfl rfl (by decide) (by decide) dL_setBound_22
set_option maxHeartbeats 4000000 in
set_option maxRecDepth 100000 in
theorem w_givePapers_ok (l : Launch) (sa : Nat → Nat) (D : va_G) (cI cZ cL : ClassId) (ad : Nat → Nat) (acc net tacc tnet flo bnd frm too amt pri wai byp ldr bor due plg clo pap cnd : Nat → Int32) (small price cut proc : Int32) (mk lm le : Nat) (oa : Nat) (og : Nat → Int64) (b : Nat) (x : Int32) (hb : b < 5) (h1 : ¬ x < 1) (h2 : ¬ 1000 < x) (hcl : clo b = 0) (h3 : pap b + x ≤ 100000) : zMi (T := Unit) sa D vwCl (zty cI cZ cL) l yL_givePapers wsL_givePapers ({ frames := 8, cells := 0, slots := 0, locals := 126 } : Room) [.ref (ad 0), .int (nI b), .int x, .ref oa] ((wX ad cI cZ acc net tacc tnet flo bnd frm too amt pri wai byp ldr bor due plg clo pap cnd small price cut proc (nI mk) (nI lm) (nI le)) ++ [(oa, .inl (cL, 1, .inr (.inl og)))]) (fun r9 _ => r9 = 0) (fun _ => ((wX ad cI cZ acc net tacc tnet flo bnd frm too amt pri wai byp ldr bor due plg clo (upd pap b (pap b + x)) cnd small price cut proc (nI mk) (nI lm) (nI le)) ++ [(oa, .inl (cL, 1, .inr (.inl (vp_updL og 0 (((pap b + x)).toInt64)))))])) 0 0 := by
  refine zMi.ofH (ret := (some .int)) (cc := cL_givePapers) (nL := 5) (own := RL) (by decide +kernel) rfl [(0, .ref (ad 0)), (1, .int (nI b)), (2, .int x), (3, .ref oa)] rfl (Nat.le_of_ble_eq_true rfl) rfl ?_
  intro A p e s m args below meth c C hmn htab
  refine z_aload_n C dL_givePapers_0 rfl 3 rfl ?_
  refine z_iconst C (v := 0) dL_givePapers_1 (by decide) ?_
  refine z_aload_n C dL_givePapers_2 rfl 0 rfl ?_
  refine z_iload_n C dL_givePapers_3 rfl 1 rfl ?_
  refine z_iload_n C dL_givePapers_4 rfl 2 rfl ?_
  refine z_callVi C (T := Unit) (As := [.int (nI b), .int x]) (rest := [.int 0, .ref oa]) (ws' := fun _ => ((wX ad cI cZ acc net tacc tnet flo bnd frm too amt pri wai byp ldr bor due plg clo (upd pap b (pap b + x)) cnd small price cut proc (nI mk) (nI lm) (nI le)) ++ [(oa, .inl (cL, 1, .inr (.inl og)))])) (c_X4_givePapers_ok l sa D cI cZ cL ad acc net tacc tnet flo bnd frm too amt pri wai byp ldr bor due plg clo pap cnd small price cut proc mk lm le b x (by first | assumption | omega) (by first | assumption | omega) (by first | assumption | omega) (by first | assumption | omega) (by first | assumption | omega)) (cwV 2 C.2.2.2.2.1 gL_givePapers_X4_givePapers rfl rfl rfl (by decide +kernel) ⟨Nat.le_of_ble_eq_true rfl, Nat.le_of_ble_eq_true rfl⟩) 0 rfl rfl rfl (fun _ => (zSub.of (wr := [(oa, .inl (cL, 1, .inr (.inl og)))]) [0, 1, 2, 3, 4, 5, 6, 7, 8, 9, 10, 11, 12, 13, 14, 15, 16, 17, 18, 19, 20, 21, 22, 23, 24] [25] [1, 2, 3, 4, 5, 6, 7, 8, 9, 10, 11, 12, 13, 14, 15, 16, 17, 18, 19, 20, 21, 22, 23, 24, 25, 0] rfl rfl rfl rfl (by decide) rfl rfl)) (zIn.of [0, 1, 2, 3, 4, 5, 6, 7, 8, 9, 10, 11, 12, 13, 14, 15, 16, 17, 18, 19, 20, 21, 22, 23, 24] rfl rfl) rfl (Nat.le_of_ble_eq_true rfl) ⟨Nat.le_of_ble_eq_true rfl, Nat.le_of_ble_eq_true rfl⟩ dL_givePapers_5 (fun r_1 _ h_2 => ?_)
  obtain rfl : r_1 = (pap b + x) := h_2
  refine z_i2l C (v := ((pap b + x)).toInt64) dL_givePapers_8 rfl ?_
  refine z_last C 25 2 rfl rfl 0 (nI_clamp (n := 0) (by decide)) (vp_in_nI (n := 0) (by decide) (by decide)) dL_givePapers_9 ((wX ad cI cZ acc net tacc tnet flo bnd frm too amt pri wai byp ldr bor due plg clo (upd pap b (pap b + x)) cnd small price cut proc (nI mk) (nI lm) (nI le)) ++ [(oa, .inl (cL, 1, .inr (.inl (vp_updL og 0 ((pap b + x)).toInt64))))]) rfl ?_
  refine z_goto C (tgt := 25) dL_givePapers_10 (by decide) ?_
  refine z_iconst C (v := 0) dL_givePapers_25 (by decide) ?_
  exact z_iret C () rfl rfl (by decide) (by decide) dL_givePapers_26
set_option maxHeartbeats 4000000 in
set_option maxRecDepth 100000 in
theorem w_givePapers_b1 (l : Launch) (hfl : l.stackTraces = false) (sa : Nat → Nat) (D : va_G) (cI cZ cL : ClassId) (ad : Nat → Nat) (acc net tacc tnet flo bnd frm too amt pri wai byp ldr bor due plg clo pap cnd : Nat → Int32) (small price cut proc : Int32) (mk lm le : Nat) (oa : Nat) (og : Nat → Int64) (b : Int32) (x : Int32) (hb : b < 0 ∨ 5 ≤ b) : zMi (T := Unit) sa D vwCl (zty cI cZ cL) l yL_givePapers wsL_givePapers ({ frames := 8, cells := 1, slots := 6, locals := 124 } : Room) [.ref (ad 0), .int b, .int x, .ref oa] ((wX ad cI cZ acc net tacc tnet flo bnd frm too amt pri wai byp ldr bor due plg clo pap cnd small price cut proc (nI mk) (nI lm) (nI le)) ++ [(oa, .inl (cL, 1, .inr (.inl og)))]) (fun r9 _ => r9 = 1) (fun _ => ((wX ad cI cZ acc net tacc tnet flo bnd frm too amt pri wai byp ldr bor due plg clo pap cnd small price cut proc (nI mk) (nI lm) (nI le)) ++ [(oa, .inl (cL, 1, .inr (.inl og)))])) 1 6 := by
  refine zMi.ofH (ret := (some .int)) (cc := cL_givePapers) (nL := 5) (own := RL) (by decide +kernel) rfl [(0, .ref (ad 0)), (1, .int b), (2, .int x), (3, .ref oa)] rfl (Nat.le_of_ble_eq_true rfl) rfl ?_
  intro A p e s m args below meth c C hmn htab
  refine z_aload_n C dL_givePapers_0 rfl 3 rfl ?_
  refine z_iconst C (v := 0) dL_givePapers_1 (by decide) ?_
  refine z_aload_n C dL_givePapers_2 rfl 0 rfl ?_
  refine z_iload_n C dL_givePapers_3 rfl 1 rfl ?_
  refine z_iload_n C dL_givePapers_4 rfl 2 rfl ?_
  refine z_callVx C (As := [.int b, .int x]) (rest := [.int 0, .ref oa]) (c_X4_givePapers_b1 l hfl sa D cI cZ cL ad acc net tacc tnet flo bnd frm too amt pri wai byp ldr bor due plg clo pap cnd small price cut proc mk lm le b x (by first | assumption | omega)) (cwV 2 C.2.2.2.2.1 gL_givePapers_X4_givePapers rfl rfl rfl (by decide +kernel) ⟨Nat.le_of_ble_eq_true rfl, Nat.le_of_ble_eq_true rfl⟩) 0 rfl rfl rfl (zSub.of (wr := [(oa, .inl (cL, 1, .inr (.inl og)))]) [0, 1, 2, 3, 4, 5, 6, 7, 8, 9, 10, 11, 12, 13, 14, 15, 16, 17, 18, 19, 20, 21, 22, 23, 24] [25] [1, 2, 3, 4, 5, 6, 7, 8, 9, 10, 11, 12, 13, 14, 15, 16, 17, 18, 19, 20, 21, 22, 23, 24, 25, 0] rfl rfl rfl rfl (by decide) rfl rfl) rfl (Nat.le_of_ble_eq_true rfl) ⟨Nat.le_of_ble_eq_true rfl, Nat.le_of_ble_eq_true rfl⟩ dL_givePapers_5 ?_
  refine z_catch (E := "java/lang/IndexOutOfBoundsException") (name := "java/lang/IndexOutOfBoundsException") C [] ⟨0, 10, 13, 13⟩ [⟨0, 10, 17, 15⟩, ⟨0, 10, 21, 17⟩] htab (fun z hz => absurd hz List.not_mem_nil) (by decide) (by decide) m_L_givePapers_c13 (by decide) rfl (fun q_1 => ?_)
  refine z_astore C dL_givePapers_13 (by decide) [(0, .ref (ad 0)), (1, .int b), (2, .int x), (3, .ref oa), (4, .ref q_1)] [1, 2, 3, 4, 0] rfl ?_
  refine z_iconst C (v := 1) dL_givePapers_15 (by decide) ?_
  exact z_iret C () rfl rfl (by decide) (by decide) dL_givePapers_16
set_option maxHeartbeats 4000000 in
set_option maxRecDepth 100000 in
theorem w_givePapers_b2 (l : Launch) (hfl : l.stackTraces = false) (sa : Nat → Nat) (D : va_G) (cI cZ cL : ClassId) (ad : Nat → Nat) (acc net tacc tnet flo bnd frm too amt pri wai byp ldr bor due plg clo pap cnd : Nat → Int32) (small price cut proc : Int32) (mk lm le : Nat) (oa : Nat) (og : Nat → Int64) (b : Nat) (x : Int32) (hb : b < 5) (hbad : x < 1 ∨ 1000 < x) : zMi (T := Unit) sa D vwCl (zty cI cZ cL) l yL_givePapers wsL_givePapers ({ frames := 8, cells := 1, slots := 6, locals := 126 } : Room) [.ref (ad 0), .int (nI b), .int x, .ref oa] ((wX ad cI cZ acc net tacc tnet flo bnd frm too amt pri wai byp ldr bor due plg clo pap cnd small price cut proc (nI mk) (nI lm) (nI le)) ++ [(oa, .inl (cL, 1, .inr (.inl og)))]) (fun r9 _ => r9 = 2) (fun _ => ((wX ad cI cZ acc net tacc tnet flo bnd frm too amt pri wai byp ldr bor due plg clo pap cnd small price cut proc (nI mk) (nI lm) (nI le)) ++ [(oa, .inl (cL, 1, .inr (.inl og)))])) 1 6 := by
  refine zMi.ofH (ret := (some .int)) (cc := cL_givePapers) (nL := 5) (own := RL) (by decide +kernel) rfl [(0, .ref (ad 0)), (1, .int (nI b)), (2, .int x), (3, .ref oa)] rfl (Nat.le_of_ble_eq_true rfl) rfl ?_
  intro A p e s m args below meth c C hmn htab
  refine z_aload_n C dL_givePapers_0 rfl 3 rfl ?_
  refine z_iconst C (v := 0) dL_givePapers_1 (by decide) ?_
  refine z_aload_n C dL_givePapers_2 rfl 0 rfl ?_
  refine z_iload_n C dL_givePapers_3 rfl 1 rfl ?_
  refine z_iload_n C dL_givePapers_4 rfl 2 rfl ?_
  refine z_callVx C (As := [.int (nI b), .int x]) (rest := [.int 0, .ref oa]) (c_X4_givePapers_b2 l hfl sa D cI cZ cL ad acc net tacc tnet flo bnd frm too amt pri wai byp ldr bor due plg clo pap cnd small price cut proc mk lm le b x (by first | assumption | omega) (by first | assumption | omega)) (cwV 2 C.2.2.2.2.1 gL_givePapers_X4_givePapers rfl rfl rfl (by decide +kernel) ⟨Nat.le_of_ble_eq_true rfl, Nat.le_of_ble_eq_true rfl⟩) 0 rfl rfl rfl (zSub.of (wr := [(oa, .inl (cL, 1, .inr (.inl og)))]) [0, 1, 2, 3, 4, 5, 6, 7, 8, 9, 10, 11, 12, 13, 14, 15, 16, 17, 18, 19, 20, 21, 22, 23, 24] [25] [1, 2, 3, 4, 5, 6, 7, 8, 9, 10, 11, 12, 13, 14, 15, 16, 17, 18, 19, 20, 21, 22, 23, 24, 25, 0] rfl rfl rfl rfl (by decide) rfl rfl) rfl (Nat.le_of_ble_eq_true rfl) ⟨Nat.le_of_ble_eq_true rfl, Nat.le_of_ble_eq_true rfl⟩ dL_givePapers_5 ?_
  refine z_catch (E := "java/lang/IllegalArgumentException") (name := "java/lang/IllegalArgumentException") C [⟨0, 10, 13, 13⟩] ⟨0, 10, 17, 15⟩ [⟨0, 10, 21, 17⟩] htab (fun z hz => (List.mem_cons.mp hz).elim (fun e9 => by subst e9; exact ⟨by decide, "java/lang/IndexOutOfBoundsException", m_L_givePapers_c13, by decide⟩) (fun hz => absurd hz List.not_mem_nil)) (by decide) (by decide) m_L_givePapers_c15 (by decide) rfl (fun q_1 => ?_)
  refine z_astore C dL_givePapers_17 (by decide) [(0, .ref (ad 0)), (1, .int (nI b)), (2, .int x), (3, .ref oa), (4, .ref q_1)] [1, 2, 3, 4, 0] rfl ?_
  refine z_iconst C (v := 2) dL_givePapers_19 (by decide) ?_
  exact z_iret C () rfl rfl (by decide) (by decide) dL_givePapers_20
set_option maxHeartbeats 4000000 in
set_option maxRecDepth 100000 in
theorem w_givePapers_b3 (l : Launch) (hfl : l.stackTraces = false) (sa : Nat → Nat) (D : va_G) (cI cZ cL : ClassId) (ad : Nat → Nat) (acc net tacc tnet flo bnd frm too amt pri wai byp ldr bor due plg clo pap cnd : Nat → Int32) (small price cut proc : Int32) (mk lm le : Nat) (oa : Nat) (og : Nat → Int64) (b : Nat) (x : Int32) (hb : b < 5) (h1 : ¬ x < 1) (h2 : ¬ 1000 < x) (hbad : ¬ (clo b = 0 ∧ pap b + x ≤ 100000)) : zMi (T := Unit) sa D vwCl (zty cI cZ cL) l yL_givePapers wsL_givePapers ({ frames := 8, cells := 1, slots := 6, locals := 126 } : Room) [.ref (ad 0), .int (nI b), .int x, .ref oa] ((wX ad cI cZ acc net tacc tnet flo bnd frm too amt pri wai byp ldr bor due plg clo pap cnd small price cut proc (nI mk) (nI lm) (nI le)) ++ [(oa, .inl (cL, 1, .inr (.inl og)))]) (fun r9 _ => r9 = 3) (fun _ => ((wX ad cI cZ acc net tacc tnet flo bnd frm too amt pri wai byp ldr bor due plg clo pap cnd small price cut proc (nI mk) (nI lm) (nI le)) ++ [(oa, .inl (cL, 1, .inr (.inl og)))])) 1 6 := by
  refine zMi.ofH (ret := (some .int)) (cc := cL_givePapers) (nL := 5) (own := RL) (by decide +kernel) rfl [(0, .ref (ad 0)), (1, .int (nI b)), (2, .int x), (3, .ref oa)] rfl (Nat.le_of_ble_eq_true rfl) rfl ?_
  intro A p e s m args below meth c C hmn htab
  refine z_aload_n C dL_givePapers_0 rfl 3 rfl ?_
  refine z_iconst C (v := 0) dL_givePapers_1 (by decide) ?_
  refine z_aload_n C dL_givePapers_2 rfl 0 rfl ?_
  refine z_iload_n C dL_givePapers_3 rfl 1 rfl ?_
  refine z_iload_n C dL_givePapers_4 rfl 2 rfl ?_
  refine z_callVx C (As := [.int (nI b), .int x]) (rest := [.int 0, .ref oa]) (c_X4_givePapers_b3 l hfl sa D cI cZ cL ad acc net tacc tnet flo bnd frm too amt pri wai byp ldr bor due plg clo pap cnd small price cut proc mk lm le b x (by first | assumption | omega) (by first | assumption | omega) (by first | assumption | omega) (by first | assumption | omega)) (cwV 2 C.2.2.2.2.1 gL_givePapers_X4_givePapers rfl rfl rfl (by decide +kernel) ⟨Nat.le_of_ble_eq_true rfl, Nat.le_of_ble_eq_true rfl⟩) 0 rfl rfl rfl (zSub.of (wr := [(oa, .inl (cL, 1, .inr (.inl og)))]) [0, 1, 2, 3, 4, 5, 6, 7, 8, 9, 10, 11, 12, 13, 14, 15, 16, 17, 18, 19, 20, 21, 22, 23, 24] [25] [1, 2, 3, 4, 5, 6, 7, 8, 9, 10, 11, 12, 13, 14, 15, 16, 17, 18, 19, 20, 21, 22, 23, 24, 25, 0] rfl rfl rfl rfl (by decide) rfl rfl) rfl (Nat.le_of_ble_eq_true rfl) ⟨Nat.le_of_ble_eq_true rfl, Nat.le_of_ble_eq_true rfl⟩ dL_givePapers_5 ?_
  refine z_catch (E := "java/lang/IllegalStateException") (name := "java/lang/IllegalStateException") C [⟨0, 10, 13, 13⟩, ⟨0, 10, 17, 15⟩] ⟨0, 10, 21, 17⟩ [] htab (fun z hz => (List.mem_cons.mp hz).elim (fun e9 => by subst e9; exact ⟨by decide, "java/lang/IndexOutOfBoundsException", m_L_givePapers_c13, by decide⟩) (fun hz => (List.mem_cons.mp hz).elim (fun e9 => by subst e9; exact ⟨by decide, "java/lang/IllegalArgumentException", m_L_givePapers_c15, by decide⟩) (fun hz => absurd hz List.not_mem_nil))) (by decide) (by decide) m_L_givePapers_c17 (by decide) rfl (fun q_1 => ?_)
  refine z_astore C dL_givePapers_21 (by decide) [(0, .ref (ad 0)), (1, .int (nI b)), (2, .int x), (3, .ref oa), (4, .ref q_1)] [1, 2, 3, 4, 0] rfl ?_
  refine z_iconst C (v := 3) dL_givePapers_23 (by decide) ?_
  exact z_iret C () rfl rfl (by decide) (by decide) dL_givePapers_24
set_option maxHeartbeats 4000000 in
set_option maxRecDepth 100000 in
theorem w_account_ok (l : Launch) (sa : Nat → Nat) (D : va_G) (cI cZ cL : ClassId) (ad : Nat → Nat) (acc net tacc tnet flo bnd frm too amt pri wai byp ldr bor due plg clo pap cnd : Nat → Int32) (small price cut proc : Int32) (mk lm le : Nat) (oa : Nat) (og : Nat → Int64) (b : Nat) (hb : b < 5) : zMi (T := Unit) sa D vwCl (zty cI cZ cL) l yL_account wsL_account ({ frames := 8, cells := 0, slots := 0, locals := 123 } : Room) [.ref (ad 0), .int (nI b), .ref oa] ((wX ad cI cZ acc net tacc tnet flo bnd frm too amt pri wai byp ldr bor due plg clo pap cnd small price cut proc (nI mk) (nI lm) (nI le)) ++ [(oa, .inl (cL, 1, .inr (.inl og)))]) (fun r9 _ => r9 = 0) (fun _ => ((wX ad cI cZ acc net tacc tnet flo bnd frm too amt pri wai byp ldr bor due plg clo pap cnd small price cut proc (nI mk) (nI lm) (nI le)) ++ [(oa, .inl (cL, 1, .inr (.inl (vp_updL og 0 (((acc b)).toInt64)))))])) 0 0 := by
  refine zMi.ofH (ret := (some .int)) (cc := cL_account) (nL := 4) (own := RL) (by decide +kernel) rfl [(0, .ref (ad 0)), (1, .int (nI b)), (2, .ref oa)] rfl (Nat.le_of_ble_eq_true rfl) rfl ?_
  intro A p e s m args below meth c C hmn htab
  refine z_aload_n C dL_account_0 rfl 2 rfl ?_
  refine z_iconst C (v := 0) dL_account_1 (by decide) ?_
  refine z_aload_n C dL_account_2 rfl 0 rfl ?_
  refine z_iload_n C dL_account_3 rfl 1 rfl ?_
  refine z_callVi C (T := Unit) (As := [.int (nI b)]) (rest := [.int 0, .ref oa]) (ws' := fun _ => ((wX ad cI cZ acc net tacc tnet flo bnd frm too amt pri wai byp ldr bor due plg clo pap cnd small price cut proc (nI mk) (nI lm) (nI le)) ++ [(oa, .inl (cL, 1, .inr (.inl og)))])) (c_X4_account_ok l sa D cI cZ cL ad acc net tacc tnet flo bnd frm too amt pri wai byp ldr bor due plg clo pap cnd small price cut proc mk lm le b (by first | assumption | omega)) (cwV 1 C.2.2.2.2.1 gL_account_X4_account rfl rfl rfl (by decide +kernel) ⟨Nat.le_of_ble_eq_true rfl, Nat.le_of_ble_eq_true rfl⟩) 0 rfl rfl rfl (fun _ => (zSub.of (wr := [(oa, .inl (cL, 1, .inr (.inl og)))]) [0, 1, 2, 3, 4, 5, 6, 7, 8, 9, 10, 11, 12, 13, 14, 15, 16, 17, 18, 19, 20, 21, 22, 23, 24] [25] [1, 2, 3, 4, 5, 6, 7, 8, 9, 10, 11, 12, 13, 14, 15, 16, 17, 18, 19, 20, 21, 22, 23, 24, 25, 0] rfl rfl rfl rfl (by decide) rfl rfl)) (zIn.of [0, 1, 2, 3, 4, 5, 6, 7, 8, 9, 10, 11, 12, 13, 14, 15, 16, 17, 18, 19, 20, 21, 22, 23, 24] rfl rfl) rfl (Nat.le_of_ble_eq_true rfl) ⟨Nat.le_of_ble_eq_true rfl, Nat.le_of_ble_eq_true rfl⟩ dL_account_4 (fun r_1 _ h_2 => ?_)
  obtain rfl : r_1 = (acc b) := h_2
  refine z_i2l C (v := ((acc b)).toInt64) dL_account_7 rfl ?_
  refine z_last C 25 2 rfl rfl 0 (nI_clamp (n := 0) (by decide)) (vp_in_nI (n := 0) (by decide) (by decide)) dL_account_8 ((wX ad cI cZ acc net tacc tnet flo bnd frm too amt pri wai byp ldr bor due plg clo pap cnd small price cut proc (nI mk) (nI lm) (nI le)) ++ [(oa, .inl (cL, 1, .inr (.inl (vp_updL og 0 ((acc b)).toInt64))))]) rfl ?_
  refine z_goto C (tgt := 15) dL_account_9 (by decide) ?_
  refine z_iconst C (v := 0) dL_account_15 (by decide) ?_
  exact z_iret C () rfl rfl (by decide) (by decide) dL_account_16
set_option maxHeartbeats 4000000 in
set_option maxRecDepth 100000 in
theorem w_account_b1 (l : Launch) (hfl : l.stackTraces = false) (sa : Nat → Nat) (D : va_G) (cI cZ cL : ClassId) (ad : Nat → Nat) (acc net tacc tnet flo bnd frm too amt pri wai byp ldr bor due plg clo pap cnd : Nat → Int32) (small price cut proc : Int32) (mk lm le : Nat) (oa : Nat) (og : Nat → Int64) (b : Int32) (hb : b < 0 ∨ 5 ≤ b) : zMi (T := Unit) sa D vwCl (zty cI cZ cL) l yL_account wsL_account ({ frames := 8, cells := 1, slots := 6, locals := 123 } : Room) [.ref (ad 0), .int b, .ref oa] ((wX ad cI cZ acc net tacc tnet flo bnd frm too amt pri wai byp ldr bor due plg clo pap cnd small price cut proc (nI mk) (nI lm) (nI le)) ++ [(oa, .inl (cL, 1, .inr (.inl og)))]) (fun r9 _ => r9 = 1) (fun _ => ((wX ad cI cZ acc net tacc tnet flo bnd frm too amt pri wai byp ldr bor due plg clo pap cnd small price cut proc (nI mk) (nI lm) (nI le)) ++ [(oa, .inl (cL, 1, .inr (.inl og)))])) 1 6 := by
  refine zMi.ofH (ret := (some .int)) (cc := cL_account) (nL := 4) (own := RL) (by decide +kernel) rfl [(0, .ref (ad 0)), (1, .int b), (2, .ref oa)] rfl (Nat.le_of_ble_eq_true rfl) rfl ?_
  intro A p e s m args below meth c C hmn htab
  refine z_aload_n C dL_account_0 rfl 2 rfl ?_
  refine z_iconst C (v := 0) dL_account_1 (by decide) ?_
  refine z_aload_n C dL_account_2 rfl 0 rfl ?_
  refine z_iload_n C dL_account_3 rfl 1 rfl ?_
  refine z_callVx C (As := [.int b]) (rest := [.int 0, .ref oa]) (c_X4_account_b1 l hfl sa D cI cZ cL ad acc net tacc tnet flo bnd frm too amt pri wai byp ldr bor due plg clo pap cnd small price cut proc mk lm le b (by first | assumption | omega)) (cwV 1 C.2.2.2.2.1 gL_account_X4_account rfl rfl rfl (by decide +kernel) ⟨Nat.le_of_ble_eq_true rfl, Nat.le_of_ble_eq_true rfl⟩) 0 rfl rfl rfl (zSub.of (wr := [(oa, .inl (cL, 1, .inr (.inl og)))]) [0, 1, 2, 3, 4, 5, 6, 7, 8, 9, 10, 11, 12, 13, 14, 15, 16, 17, 18, 19, 20, 21, 22, 23, 24] [25] [1, 2, 3, 4, 5, 6, 7, 8, 9, 10, 11, 12, 13, 14, 15, 16, 17, 18, 19, 20, 21, 22, 23, 24, 25, 0] rfl rfl rfl rfl (by decide) rfl rfl) rfl (Nat.le_of_ble_eq_true rfl) ⟨Nat.le_of_ble_eq_true rfl, Nat.le_of_ble_eq_true rfl⟩ dL_account_4 ?_
  refine z_catch (E := "java/lang/IndexOutOfBoundsException") (name := "java/lang/IndexOutOfBoundsException") C [] ⟨0, 9, 12, 13⟩ [] htab (fun z hz => absurd hz List.not_mem_nil) (by decide) (by decide) m_L_account_c13 (by decide) rfl (fun q_1 => ?_)
  refine z_astore_n C dL_account_12 rfl (by decide) [(0, .ref (ad 0)), (1, .int b), (2, .ref oa), (3, .ref q_1)] [1, 2, 3, 0] rfl ?_
  refine z_iconst C (v := 1) dL_account_13 (by decide) ?_
  exact z_iret C () rfl rfl (by decide) (by decide) dL_account_14
set_option maxHeartbeats 4000000 in
set_option maxRecDepth 100000 in
theorem w_papers_ok (l : Launch) (sa : Nat → Nat) (D : va_G) (cI cZ cL : ClassId) (ad : Nat → Nat) (acc net tacc tnet flo bnd frm too amt pri wai byp ldr bor due plg clo pap cnd : Nat → Int32) (small price cut proc : Int32) (mk lm le : Nat) (oa : Nat) (og : Nat → Int64) (b : Nat) (hb : b < 5) : zMi (T := Unit) sa D vwCl (zty cI cZ cL) l yL_papers wsL_papers ({ frames := 8, cells := 0, slots := 0, locals := 123 } : Room) [.ref (ad 0), .int (nI b), .ref oa] ((wX ad cI cZ acc net tacc tnet flo bnd frm too amt pri wai byp ldr bor due plg clo pap cnd small price cut proc (nI mk) (nI lm) (nI le)) ++ [(oa, .inl (cL, 1, .inr (.inl og)))]) (fun r9 _ => r9 = 0) (fun _ => ((wX ad cI cZ acc net tacc tnet flo bnd frm too amt pri wai byp ldr bor due plg clo pap cnd small price cut proc (nI mk) (nI lm) (nI le)) ++ [(oa, .inl (cL, 1, .inr (.inl (vp_updL og 0 (((pap b)).toInt64)))))])) 0 0 := by
  refine zMi.ofH (ret := (some .int)) (cc := cL_papers) (nL := 4) (own := RL) (by decide +kernel) rfl [(0, .ref (ad 0)), (1, .int (nI b)), (2, .ref oa)] rfl (Nat.le_of_ble_eq_true rfl) rfl ?_
  intro A p e s m args below meth c C hmn htab
  refine z_aload_n C dL_papers_0 rfl 2 rfl ?_
  refine z_iconst C (v := 0) dL_papers_1 (by decide) ?_
  refine z_aload_n C dL_papers_2 rfl 0 rfl ?_
  refine z_iload_n C dL_papers_3 rfl 1 rfl ?_
  refine z_callVi C (T := Unit) (As := [.int (nI b)]) (rest := [.int 0, .ref oa]) (ws' := fun _ => ((wX ad cI cZ acc net tacc tnet flo bnd frm too amt pri wai byp ldr bor due plg clo pap cnd small price cut proc (nI mk) (nI lm) (nI le)) ++ [(oa, .inl (cL, 1, .inr (.inl og)))])) (c_X4_papers_ok l sa D cI cZ cL ad acc net tacc tnet flo bnd frm too amt pri wai byp ldr bor due plg clo pap cnd small price cut proc mk lm le b (by first | assumption | omega)) (cwV 1 C.2.2.2.2.1 gL_papers_X4_papers rfl rfl rfl (by decide +kernel) ⟨Nat.le_of_ble_eq_true rfl, Nat.le_of_ble_eq_true rfl⟩) 0 rfl rfl rfl (fun _ => (zSub.of (wr := [(oa, .inl (cL, 1, .inr (.inl og)))]) [0, 1, 2, 3, 4, 5, 6, 7, 8, 9, 10, 11, 12, 13, 14, 15, 16, 17, 18, 19, 20, 21, 22, 23, 24] [25] [1, 2, 3, 4, 5, 6, 7, 8, 9, 10, 11, 12, 13, 14, 15, 16, 17, 18, 19, 20, 21, 22, 23, 24, 25, 0] rfl rfl rfl rfl (by decide) rfl rfl)) (zIn.of [0, 1, 2, 3, 4, 5, 6, 7, 8, 9, 10, 11, 12, 13, 14, 15, 16, 17, 18, 19, 20, 21, 22, 23, 24] rfl rfl) rfl (Nat.le_of_ble_eq_true rfl) ⟨Nat.le_of_ble_eq_true rfl, Nat.le_of_ble_eq_true rfl⟩ dL_papers_4 (fun r_1 _ h_2 => ?_)
  obtain rfl : r_1 = (pap b) := h_2
  refine z_i2l C (v := ((pap b)).toInt64) dL_papers_7 rfl ?_
  refine z_last C 25 2 rfl rfl 0 (nI_clamp (n := 0) (by decide)) (vp_in_nI (n := 0) (by decide) (by decide)) dL_papers_8 ((wX ad cI cZ acc net tacc tnet flo bnd frm too amt pri wai byp ldr bor due plg clo pap cnd small price cut proc (nI mk) (nI lm) (nI le)) ++ [(oa, .inl (cL, 1, .inr (.inl (vp_updL og 0 ((pap b)).toInt64))))]) rfl ?_
  refine z_goto C (tgt := 15) dL_papers_9 (by decide) ?_
  refine z_iconst C (v := 0) dL_papers_15 (by decide) ?_
  exact z_iret C () rfl rfl (by decide) (by decide) dL_papers_16
set_option maxHeartbeats 4000000 in
set_option maxRecDepth 100000 in
theorem w_papers_b1 (l : Launch) (hfl : l.stackTraces = false) (sa : Nat → Nat) (D : va_G) (cI cZ cL : ClassId) (ad : Nat → Nat) (acc net tacc tnet flo bnd frm too amt pri wai byp ldr bor due plg clo pap cnd : Nat → Int32) (small price cut proc : Int32) (mk lm le : Nat) (oa : Nat) (og : Nat → Int64) (b : Int32) (hb : b < 0 ∨ 5 ≤ b) : zMi (T := Unit) sa D vwCl (zty cI cZ cL) l yL_papers wsL_papers ({ frames := 8, cells := 1, slots := 6, locals := 123 } : Room) [.ref (ad 0), .int b, .ref oa] ((wX ad cI cZ acc net tacc tnet flo bnd frm too amt pri wai byp ldr bor due plg clo pap cnd small price cut proc (nI mk) (nI lm) (nI le)) ++ [(oa, .inl (cL, 1, .inr (.inl og)))]) (fun r9 _ => r9 = 1) (fun _ => ((wX ad cI cZ acc net tacc tnet flo bnd frm too amt pri wai byp ldr bor due plg clo pap cnd small price cut proc (nI mk) (nI lm) (nI le)) ++ [(oa, .inl (cL, 1, .inr (.inl og)))])) 1 6 := by
  refine zMi.ofH (ret := (some .int)) (cc := cL_papers) (nL := 4) (own := RL) (by decide +kernel) rfl [(0, .ref (ad 0)), (1, .int b), (2, .ref oa)] rfl (Nat.le_of_ble_eq_true rfl) rfl ?_
  intro A p e s m args below meth c C hmn htab
  refine z_aload_n C dL_papers_0 rfl 2 rfl ?_
  refine z_iconst C (v := 0) dL_papers_1 (by decide) ?_
  refine z_aload_n C dL_papers_2 rfl 0 rfl ?_
  refine z_iload_n C dL_papers_3 rfl 1 rfl ?_
  refine z_callVx C (As := [.int b]) (rest := [.int 0, .ref oa]) (c_X4_papers_b1 l hfl sa D cI cZ cL ad acc net tacc tnet flo bnd frm too amt pri wai byp ldr bor due plg clo pap cnd small price cut proc mk lm le b (by first | assumption | omega)) (cwV 1 C.2.2.2.2.1 gL_papers_X4_papers rfl rfl rfl (by decide +kernel) ⟨Nat.le_of_ble_eq_true rfl, Nat.le_of_ble_eq_true rfl⟩) 0 rfl rfl rfl (zSub.of (wr := [(oa, .inl (cL, 1, .inr (.inl og)))]) [0, 1, 2, 3, 4, 5, 6, 7, 8, 9, 10, 11, 12, 13, 14, 15, 16, 17, 18, 19, 20, 21, 22, 23, 24] [25] [1, 2, 3, 4, 5, 6, 7, 8, 9, 10, 11, 12, 13, 14, 15, 16, 17, 18, 19, 20, 21, 22, 23, 24, 25, 0] rfl rfl rfl rfl (by decide) rfl rfl) rfl (Nat.le_of_ble_eq_true rfl) ⟨Nat.le_of_ble_eq_true rfl, Nat.le_of_ble_eq_true rfl⟩ dL_papers_4 ?_
  refine z_catch (E := "java/lang/IndexOutOfBoundsException") (name := "java/lang/IndexOutOfBoundsException") C [] ⟨0, 9, 12, 13⟩ [] htab (fun z hz => absurd hz List.not_mem_nil) (by decide) (by decide) m_L_papers_c13 (by decide) rfl (fun q_1 => ?_)
  refine z_astore_n C dL_papers_12 rfl (by decide) [(0, .ref (ad 0)), (1, .int b), (2, .ref oa), (3, .ref q_1)] [1, 2, 3, 0] rfl ?_
  refine z_iconst C (v := 1) dL_papers_13 (by decide) ?_
  exact z_iret C () rfl rfl (by decide) (by decide) dL_papers_14
set_option maxHeartbeats 4000000 in
set_option maxRecDepth 100000 in
theorem w_isOpen_ok (l : Launch) (sa : Nat → Nat) (D : va_G) (cI cZ cL : ClassId) (ad : Nat → Nat) (acc net tacc tnet flo bnd frm too amt pri wai byp ldr bor due plg clo pap cnd : Nat → Int32) (small price cut proc : Int32) (mk lm le : Nat) (oa : Nat) (og : Nat → Int64) (b : Nat) (hb : b < 5) : zMi (T := Unit) sa D vwCl (zty cI cZ cL) l yL_isOpen wsL_isOpen ({ frames := 8, cells := 0, slots := 0, locals := 123 } : Room) [.ref (ad 0), .int (nI b), .ref oa] ((wX ad cI cZ acc net tacc tnet flo bnd frm too amt pri wai byp ldr bor due plg clo pap cnd small price cut proc (nI mk) (nI lm) (nI le)) ++ [(oa, .inl (cL, 1, .inr (.inl og)))]) (fun r9 _ => r9 = 0) (fun _ => ((wX ad cI cZ acc net tacc tnet flo bnd frm too amt pri wai byp ldr bor due plg clo pap cnd small price cut proc (nI mk) (nI lm) (nI le)) ++ [(oa, .inl (cL, 1, .inr (.inl (vp_updL og 0 ((if clo b = 0 then (1 : Int64) else 0))))))])) 0 0 := by
  refine zMi.ofH (ret := (some .int)) (cc := cL_isOpen) (nL := 4) (own := RL) (by decide +kernel) rfl [(0, .ref (ad 0)), (1, .int (nI b)), (2, .ref oa)] rfl (Nat.le_of_ble_eq_true rfl) rfl ?_
  intro A p e s m args below meth c C hmn htab
  refine z_aload_n C dL_isOpen_0 rfl 2 rfl ?_
  refine z_iconst C (v := 0) dL_isOpen_1 (by decide) ?_
  refine z_aload_n C dL_isOpen_2 rfl 0 rfl ?_
  refine z_iload_n C dL_isOpen_3 rfl 1 rfl ?_
  refine z_case (clo b = 0) (fun hp_1 => ?_) (fun hp_1 => ?_)
  · skip
    refine z_callVi C (T := Unit) (As := [.int (nI b)]) (rest := [.int 0, .ref oa]) (ws' := fun _ => ((wX ad cI cZ acc net tacc tnet flo bnd frm too amt pri wai byp ldr bor due plg clo pap cnd small price cut proc (nI mk) (nI lm) (nI le)) ++ [(oa, .inl (cL, 1, .inr (.inl og)))])) (c_X4_isOpen_ok l sa D cI cZ cL ad acc net tacc tnet flo bnd frm too amt pri wai byp ldr bor due plg clo pap cnd small price cut proc mk lm le b (by first | assumption | omega)) (cwV 1 C.2.2.2.2.1 gL_isOpen_X4_isOpen rfl rfl rfl (by decide +kernel) ⟨Nat.le_of_ble_eq_true rfl, Nat.le_of_ble_eq_true rfl⟩) 0 rfl rfl rfl (fun _ => (zSub.of (wr := [(oa, .inl (cL, 1, .inr (.inl og)))]) [0, 1, 2, 3, 4, 5, 6, 7, 8, 9, 10, 11, 12, 13, 14, 15, 16, 17, 18, 19, 20, 21, 22, 23, 24] [25] [1, 2, 3, 4, 5, 6, 7, 8, 9, 10, 11, 12, 13, 14, 15, 16, 17, 18, 19, 20, 21, 22, 23, 24, 25, 0] rfl rfl rfl rfl (by decide) rfl rfl)) (zIn.of [0, 1, 2, 3, 4, 5, 6, 7, 8, 9, 10, 11, 12, 13, 14, 15, 16, 17, 18, 19, 20, 21, 22, 23, 24] rfl rfl) rfl (Nat.le_of_ble_eq_true rfl) ⟨Nat.le_of_ble_eq_true rfl, Nat.le_of_ble_eq_true rfl⟩ dL_isOpen_4 (fun r_2 _ h_3 => ?_)
    obtain rfl : r_2 = 1 := h_3.trans (if_pos hp_1)
    refine z_if_eq C (tgt := 14) dL_isOpen_7 (by decide) (fun h => absurd h (by decide)) (fun _ => ?_)
    refine z_lconst C (v := 1) dL_isOpen_10 (by decide) ?_
    refine z_goto C (tgt := 15) dL_isOpen_11 (by decide) ?_
    refine z_last C 25 2 rfl rfl 0 (nI_clamp (n := 0) (by decide)) (vp_in_nI (n := 0) (by decide) (by decide)) dL_isOpen_15 ((wX ad cI cZ acc net tacc tnet flo bnd frm too amt pri wai byp ldr bor due plg clo pap cnd small price cut proc (nI mk) (nI lm) (nI le)) ++ [(oa, .inl (cL, 1, .inr (.inl (vp_updL og 0 1))))]) rfl ?_
    refine z_goto C (tgt := 22) dL_isOpen_16 (by decide) ?_
    refine z_iconst C (v := 0) dL_isOpen_22 (by decide) ?_
    exact z_iret C () rfl (by first | rw [if_pos hp_1] | rw [if_neg hp_1]) (by decide) (by decide) dL_isOpen_23
  · skip
    refine z_callVi C (T := Unit) (As := [.int (nI b)]) (rest := [.int 0, .ref oa]) (ws' := fun _ => ((wX ad cI cZ acc net tacc tnet flo bnd frm too amt pri wai byp ldr bor due plg clo pap cnd small price cut proc (nI mk) (nI lm) (nI le)) ++ [(oa, .inl (cL, 1, .inr (.inl og)))])) (c_X4_isOpen_ok l sa D cI cZ cL ad acc net tacc tnet flo bnd frm too amt pri wai byp ldr bor due plg clo pap cnd small price cut proc mk lm le b (by first | assumption | omega)) (cwV 1 C.2.2.2.2.1 gL_isOpen_X4_isOpen rfl rfl rfl (by decide +kernel) ⟨Nat.le_of_ble_eq_true rfl, Nat.le_of_ble_eq_true rfl⟩) 0 rfl rfl rfl (fun _ => (zSub.of (wr := [(oa, .inl (cL, 1, .inr (.inl og)))]) [0, 1, 2, 3, 4, 5, 6, 7, 8, 9, 10, 11, 12, 13, 14, 15, 16, 17, 18, 19, 20, 21, 22, 23, 24] [25] [1, 2, 3, 4, 5, 6, 7, 8, 9, 10, 11, 12, 13, 14, 15, 16, 17, 18, 19, 20, 21, 22, 23, 24, 25, 0] rfl rfl rfl rfl (by decide) rfl rfl)) (zIn.of [0, 1, 2, 3, 4, 5, 6, 7, 8, 9, 10, 11, 12, 13, 14, 15, 16, 17, 18, 19, 20, 21, 22, 23, 24] rfl rfl) rfl (Nat.le_of_ble_eq_true rfl) ⟨Nat.le_of_ble_eq_true rfl, Nat.le_of_ble_eq_true rfl⟩ dL_isOpen_4 (fun r_4 _ h_5 => ?_)
    obtain rfl : r_4 = 0 := h_5.trans (if_neg hp_1)
    refine z_if_eq C (tgt := 14) dL_isOpen_7 (by decide) (fun _ => ?_) (fun h => absurd h (by decide))
    refine z_lconst C (v := 0) dL_isOpen_14 (by decide) ?_
    refine z_last C 25 2 rfl rfl 0 (nI_clamp (n := 0) (by decide)) (vp_in_nI (n := 0) (by decide) (by decide)) dL_isOpen_15 ((wX ad cI cZ acc net tacc tnet flo bnd frm too amt pri wai byp ldr bor due plg clo pap cnd small price cut proc (nI mk) (nI lm) (nI le)) ++ [(oa, .inl (cL, 1, .inr (.inl (vp_updL og 0 0))))]) rfl ?_
    refine z_goto C (tgt := 22) dL_isOpen_16 (by decide) ?_
    refine z_iconst C (v := 0) dL_isOpen_22 (by decide) ?_
    exact z_iret C () rfl (by first | rw [if_pos hp_1] | rw [if_neg hp_1]) (by decide) (by decide) dL_isOpen_23
set_option maxHeartbeats 4000000 in
set_option maxRecDepth 100000 in
theorem w_isOpen_b1 (l : Launch) (hfl : l.stackTraces = false) (sa : Nat → Nat) (D : va_G) (cI cZ cL : ClassId) (ad : Nat → Nat) (acc net tacc tnet flo bnd frm too amt pri wai byp ldr bor due plg clo pap cnd : Nat → Int32) (small price cut proc : Int32) (mk lm le : Nat) (oa : Nat) (og : Nat → Int64) (b : Int32) (hb : b < 0 ∨ 5 ≤ b) : zMi (T := Unit) sa D vwCl (zty cI cZ cL) l yL_isOpen wsL_isOpen ({ frames := 8, cells := 1, slots := 6, locals := 123 } : Room) [.ref (ad 0), .int b, .ref oa] ((wX ad cI cZ acc net tacc tnet flo bnd frm too amt pri wai byp ldr bor due plg clo pap cnd small price cut proc (nI mk) (nI lm) (nI le)) ++ [(oa, .inl (cL, 1, .inr (.inl og)))]) (fun r9 _ => r9 = 1) (fun _ => ((wX ad cI cZ acc net tacc tnet flo bnd frm too amt pri wai byp ldr bor due plg clo pap cnd small price cut proc (nI mk) (nI lm) (nI le)) ++ [(oa, .inl (cL, 1, .inr (.inl og)))])) 1 6 := by
  refine zMi.ofH (ret := (some .int)) (cc := cL_isOpen) (nL := 4) (own := RL) (by decide +kernel) rfl [(0, .ref (ad 0)), (1, .int b), (2, .ref oa)] rfl (Nat.le_of_ble_eq_true rfl) rfl ?_
  intro A p e s m args below meth c C hmn htab
  refine z_aload_n C dL_isOpen_0 rfl 2 rfl ?_
  refine z_iconst C (v := 0) dL_isOpen_1 (by decide) ?_
  refine z_aload_n C dL_isOpen_2 rfl 0 rfl ?_
  refine z_iload_n C dL_isOpen_3 rfl 1 rfl ?_
  refine z_callVx C (As := [.int b]) (rest := [.int 0, .ref oa]) (c_X4_isOpen_b1 l hfl sa D cI cZ cL ad acc net tacc tnet flo bnd frm too amt pri wai byp ldr bor due plg clo pap cnd small price cut proc mk lm le b (by first | assumption | omega)) (cwV 1 C.2.2.2.2.1 gL_isOpen_X4_isOpen rfl rfl rfl (by decide +kernel) ⟨Nat.le_of_ble_eq_true rfl, Nat.le_of_ble_eq_true rfl⟩) 0 rfl rfl rfl (zSub.of (wr := [(oa, .inl (cL, 1, .inr (.inl og)))]) [0, 1, 2, 3, 4, 5, 6, 7, 8, 9, 10, 11, 12, 13, 14, 15, 16, 17, 18, 19, 20, 21, 22, 23, 24] [25] [1, 2, 3, 4, 5, 6, 7, 8, 9, 10, 11, 12, 13, 14, 15, 16, 17, 18, 19, 20, 21, 22, 23, 24, 25, 0] rfl rfl rfl rfl (by decide) rfl rfl) rfl (Nat.le_of_ble_eq_true rfl) ⟨Nat.le_of_ble_eq_true rfl, Nat.le_of_ble_eq_true rfl⟩ dL_isOpen_4 ?_
  refine z_catch (E := "java/lang/IndexOutOfBoundsException") (name := "java/lang/IndexOutOfBoundsException") C [] ⟨0, 16, 19, 13⟩ [] htab (fun z hz => absurd hz List.not_mem_nil) (by decide) (by decide) m_L_isOpen_c13 (by decide) rfl (fun q_1 => ?_)
  refine z_astore_n C dL_isOpen_19 rfl (by decide) [(0, .ref (ad 0)), (1, .int b), (2, .ref oa), (3, .ref q_1)] [1, 2, 3, 0] rfl ?_
  refine z_iconst C (v := 1) dL_isOpen_20 (by decide) ?_
  exact z_iret C () rfl rfl (by decide) (by decide) dL_isOpen_21
set_option maxHeartbeats 4000000 in
set_option maxRecDepth 100000 in
theorem w_paid_ok (l : Launch) (sa : Nat → Nat) (D : va_G) (cI cZ cL : ClassId) (ad : Nat → Nat) (acc net tacc tnet flo bnd frm too amt pri wai byp ldr bor due plg clo pap cnd : Nat → Int32) (small price cut proc : Int32) (mk lm le : Nat) (oa : Nat) (og : Nat → Int64) (b : Nat) (o : Nat) (hb : b < 5) (ho : o < 5) : zMi (T := Unit) sa D vwCl (zty cI cZ cL) l yL_paid wsL_paid ({ frames := 8, cells := 0, slots := 0, locals := 124 } : Room) [.ref (ad 0), .int (nI b), .int (nI o), .ref oa] ((wX ad cI cZ acc net tacc tnet flo bnd frm too amt pri wai byp ldr bor due plg clo pap cnd small price cut proc (nI mk) (nI lm) (nI le)) ++ [(oa, .inl (cL, 1, .inr (.inl og)))]) (fun r9 _ => r9 = 0) (fun _ => ((wX ad cI cZ acc net tacc tnet flo bnd frm too amt pri wai byp ldr bor due plg clo pap cnd small price cut proc (nI mk) (nI lm) (nI le)) ++ [(oa, .inl (cL, 1, .inr (.inl (vp_updL og 0 (((net (b * 5 + o))).toInt64)))))])) 0 0 := by
  refine zMi.ofH (ret := (some .int)) (cc := cL_paid) (nL := 5) (own := RL) (by decide +kernel) rfl [(0, .ref (ad 0)), (1, .int (nI b)), (2, .int (nI o)), (3, .ref oa)] rfl (Nat.le_of_ble_eq_true rfl) rfl ?_
  intro A p e s m args below meth c C hmn htab
  refine z_aload_n C dL_paid_0 rfl 3 rfl ?_
  refine z_iconst C (v := 0) dL_paid_1 (by decide) ?_
  refine z_aload_n C dL_paid_2 rfl 0 rfl ?_
  refine z_iload_n C dL_paid_3 rfl 1 rfl ?_
  refine z_iload_n C dL_paid_4 rfl 2 rfl ?_
  refine z_callVi C (T := Unit) (As := [.int (nI b), .int (nI o)]) (rest := [.int 0, .ref oa]) (ws' := fun _ => ((wX ad cI cZ acc net tacc tnet flo bnd frm too amt pri wai byp ldr bor due plg clo pap cnd small price cut proc (nI mk) (nI lm) (nI le)) ++ [(oa, .inl (cL, 1, .inr (.inl og)))])) (c_X4_paid_ok l sa D cI cZ cL ad acc net tacc tnet flo bnd frm too amt pri wai byp ldr bor due plg clo pap cnd small price cut proc mk lm le b o (by first | assumption | omega) (by first | assumption | omega)) (cwV 2 C.2.2.2.2.1 gL_paid_X4_paid rfl rfl rfl (by decide +kernel) ⟨Nat.le_of_ble_eq_true rfl, Nat.le_of_ble_eq_true rfl⟩) 0 rfl rfl rfl (fun _ => (zSub.of (wr := [(oa, .inl (cL, 1, .inr (.inl og)))]) [0, 1, 2, 3, 4, 5, 6, 7, 8, 9, 10, 11, 12, 13, 14, 15, 16, 17, 18, 19, 20, 21, 22, 23, 24] [25] [1, 2, 3, 4, 5, 6, 7, 8, 9, 10, 11, 12, 13, 14, 15, 16, 17, 18, 19, 20, 21, 22, 23, 24, 25, 0] rfl rfl rfl rfl (by decide) rfl rfl)) (zIn.of [0, 1, 2, 3, 4, 5, 6, 7, 8, 9, 10, 11, 12, 13, 14, 15, 16, 17, 18, 19, 20, 21, 22, 23, 24] rfl rfl) rfl (Nat.le_of_ble_eq_true rfl) ⟨Nat.le_of_ble_eq_true rfl, Nat.le_of_ble_eq_true rfl⟩ dL_paid_5 (fun r_1 _ h_2 => ?_)
  obtain rfl : r_1 = (net (b * 5 + o)) := h_2
  refine z_i2l C (v := ((net (b * 5 + o))).toInt64) dL_paid_8 rfl ?_
  refine z_last C 25 2 rfl rfl 0 (nI_clamp (n := 0) (by decide)) (vp_in_nI (n := 0) (by decide) (by decide)) dL_paid_9 ((wX ad cI cZ acc net tacc tnet flo bnd frm too amt pri wai byp ldr bor due plg clo pap cnd small price cut proc (nI mk) (nI lm) (nI le)) ++ [(oa, .inl (cL, 1, .inr (.inl (vp_updL og 0 ((net (b * 5 + o))).toInt64))))]) rfl ?_
  refine z_goto C (tgt := 17) dL_paid_10 (by decide) ?_
  refine z_iconst C (v := 0) dL_paid_17 (by decide) ?_
  exact z_iret C () rfl rfl (by decide) (by decide) dL_paid_18
set_option maxHeartbeats 4000000 in
set_option maxRecDepth 100000 in
theorem w_paid_b1 (l : Launch) (hfl : l.stackTraces = false) (sa : Nat → Nat) (D : va_G) (cI cZ cL : ClassId) (ad : Nat → Nat) (acc net tacc tnet flo bnd frm too amt pri wai byp ldr bor due plg clo pap cnd : Nat → Int32) (small price cut proc : Int32) (mk lm le : Nat) (oa : Nat) (og : Nat → Int64) (b : Int32) (o : Int32) (hb : b < 0 ∨ 5 ≤ b) : zMi (T := Unit) sa D vwCl (zty cI cZ cL) l yL_paid wsL_paid ({ frames := 8, cells := 1, slots := 6, locals := 124 } : Room) [.ref (ad 0), .int b, .int o, .ref oa] ((wX ad cI cZ acc net tacc tnet flo bnd frm too amt pri wai byp ldr bor due plg clo pap cnd small price cut proc (nI mk) (nI lm) (nI le)) ++ [(oa, .inl (cL, 1, .inr (.inl og)))]) (fun r9 _ => r9 = 1) (fun _ => ((wX ad cI cZ acc net tacc tnet flo bnd frm too amt pri wai byp ldr bor due plg clo pap cnd small price cut proc (nI mk) (nI lm) (nI le)) ++ [(oa, .inl (cL, 1, .inr (.inl og)))])) 1 6 := by
  refine zMi.ofH (ret := (some .int)) (cc := cL_paid) (nL := 5) (own := RL) (by decide +kernel) rfl [(0, .ref (ad 0)), (1, .int b), (2, .int o), (3, .ref oa)] rfl (Nat.le_of_ble_eq_true rfl) rfl ?_
  intro A p e s m args below meth c C hmn htab
  refine z_aload_n C dL_paid_0 rfl 3 rfl ?_
  refine z_iconst C (v := 0) dL_paid_1 (by decide) ?_
  refine z_aload_n C dL_paid_2 rfl 0 rfl ?_
  refine z_iload_n C dL_paid_3 rfl 1 rfl ?_
  refine z_iload_n C dL_paid_4 rfl 2 rfl ?_
  refine z_callVx C (As := [.int b, .int o]) (rest := [.int 0, .ref oa]) (c_X4_paid_b1 l hfl sa D cI cZ cL ad acc net tacc tnet flo bnd frm too amt pri wai byp ldr bor due plg clo pap cnd small price cut proc mk lm le b o (by first | assumption | omega)) (cwV 2 C.2.2.2.2.1 gL_paid_X4_paid rfl rfl rfl (by decide +kernel) ⟨Nat.le_of_ble_eq_true rfl, Nat.le_of_ble_eq_true rfl⟩) 0 rfl rfl rfl (zSub.of (wr := [(oa, .inl (cL, 1, .inr (.inl og)))]) [0, 1, 2, 3, 4, 5, 6, 7, 8, 9, 10, 11, 12, 13, 14, 15, 16, 17, 18, 19, 20, 21, 22, 23, 24] [25] [1, 2, 3, 4, 5, 6, 7, 8, 9, 10, 11, 12, 13, 14, 15, 16, 17, 18, 19, 20, 21, 22, 23, 24, 25, 0] rfl rfl rfl rfl (by decide) rfl rfl) rfl (Nat.le_of_ble_eq_true rfl) ⟨Nat.le_of_ble_eq_true rfl, Nat.le_of_ble_eq_true rfl⟩ dL_paid_5 ?_
  refine z_catch (E := "java/lang/IndexOutOfBoundsException") (name := "java/lang/IndexOutOfBoundsException") C [] ⟨0, 10, 13, 13⟩ [] htab (fun z hz => absurd hz List.not_mem_nil) (by decide) (by decide) m_L_paid_c13 (by decide) rfl (fun q_1 => ?_)
  refine z_astore C dL_paid_13 (by decide) [(0, .ref (ad 0)), (1, .int b), (2, .int o), (3, .ref oa), (4, .ref q_1)] [1, 2, 3, 4, 0] rfl ?_
  refine z_iconst C (v := 1) dL_paid_15 (by decide) ?_
  exact z_iret C () rfl rfl (by decide) (by decide) dL_paid_16
set_option maxHeartbeats 4000000 in
set_option maxRecDepth 100000 in
theorem w_paid_b1b (l : Launch) (hfl : l.stackTraces = false) (sa : Nat → Nat) (D : va_G) (cI cZ cL : ClassId) (ad : Nat → Nat) (acc net tacc tnet flo bnd frm too amt pri wai byp ldr bor due plg clo pap cnd : Nat → Int32) (small price cut proc : Int32) (mk lm le : Nat) (oa : Nat) (og : Nat → Int64) (b : Nat) (o : Int32) (hb : b < 5) (ho : o < 0 ∨ 5 ≤ o) : zMi (T := Unit) sa D vwCl (zty cI cZ cL) l yL_paid wsL_paid ({ frames := 8, cells := 1, slots := 6, locals := 124 } : Room) [.ref (ad 0), .int (nI b), .int o, .ref oa] ((wX ad cI cZ acc net tacc tnet flo bnd frm too amt pri wai byp ldr bor due plg clo pap cnd small price cut proc (nI mk) (nI lm) (nI le)) ++ [(oa, .inl (cL, 1, .inr (.inl og)))]) (fun r9 _ => r9 = 1) (fun _ => ((wX ad cI cZ acc net tacc tnet flo bnd frm too amt pri wai byp ldr bor due plg clo pap cnd small price cut proc (nI mk) (nI lm) (nI le)) ++ [(oa, .inl (cL, 1, .inr (.inl og)))])) 1 6 := by
  refine zMi.ofH (ret := (some .int)) (cc := cL_paid) (nL := 5) (own := RL) (by decide +kernel) rfl [(0, .ref (ad 0)), (1, .int (nI b)), (2, .int o), (3, .ref oa)] rfl (Nat.le_of_ble_eq_true rfl) rfl ?_
  intro A p e s m args below meth c C hmn htab
  refine z_aload_n C dL_paid_0 rfl 3 rfl ?_
  refine z_iconst C (v := 0) dL_paid_1 (by decide) ?_
  refine z_aload_n C dL_paid_2 rfl 0 rfl ?_
  refine z_iload_n C dL_paid_3 rfl 1 rfl ?_
  refine z_iload_n C dL_paid_4 rfl 2 rfl ?_
  refine z_callVx C (As := [.int (nI b), .int o]) (rest := [.int 0, .ref oa]) (c_X4_paid_b1b l hfl sa D cI cZ cL ad acc net tacc tnet flo bnd frm too amt pri wai byp ldr bor due plg clo pap cnd small price cut proc mk lm le b o (by first | assumption | omega) (by first | assumption | omega)) (cwV 2 C.2.2.2.2.1 gL_paid_X4_paid rfl rfl rfl (by decide +kernel) ⟨Nat.le_of_ble_eq_true rfl, Nat.le_of_ble_eq_true rfl⟩) 0 rfl rfl rfl (zSub.of (wr := [(oa, .inl (cL, 1, .inr (.inl og)))]) [0, 1, 2, 3, 4, 5, 6, 7, 8, 9, 10, 11, 12, 13, 14, 15, 16, 17, 18, 19, 20, 21, 22, 23, 24] [25] [1, 2, 3, 4, 5, 6, 7, 8, 9, 10, 11, 12, 13, 14, 15, 16, 17, 18, 19, 20, 21, 22, 23, 24, 25, 0] rfl rfl rfl rfl (by decide) rfl rfl) rfl (Nat.le_of_ble_eq_true rfl) ⟨Nat.le_of_ble_eq_true rfl, Nat.le_of_ble_eq_true rfl⟩ dL_paid_5 ?_
  refine z_catch (E := "java/lang/IndexOutOfBoundsException") (name := "java/lang/IndexOutOfBoundsException") C [] ⟨0, 10, 13, 13⟩ [] htab (fun z hz => absurd hz List.not_mem_nil) (by decide) (by decide) m_L_paid_c13 (by decide) rfl (fun q_1 => ?_)
  refine z_astore C dL_paid_13 (by decide) [(0, .ref (ad 0)), (1, .int (nI b)), (2, .int o), (3, .ref oa), (4, .ref q_1)] [1, 2, 3, 4, 0] rfl ?_
  refine z_iconst C (v := 1) dL_paid_15 (by decide) ?_
  exact z_iret C () rfl rfl (by decide) (by decide) dL_paid_16
set_option maxHeartbeats 4000000 in
set_option maxRecDepth 100000 in
theorem w_pay_ok (l : Launch) (sa : Nat → Nat) (D : va_G) (cI cZ cL : ClassId) (ad : Nat → Nat) (acc net tacc tnet flo bnd frm too amt pri wai byp ldr bor due plg clo pap cnd : Nat → Int32) (small price cut proc : Int32) (mk lm le : Nat) (oa : Nat) (og : Nat → Int64) (b : Nat) (o : Nat) (x : Int32) (r : Nat) (hb : b < 5) (ho : o < 5) (hft : b ≠ o) (h1 : ¬ x < 1) (h2 : ¬ 100000 < x) (hr : r < 3) (hcb : clo b = 0) (hco : clo o = 0) (hmk : mk < 60) (hpri : wf3 mk pri) (hbyp : bypOK byp pri mk) : zMi (T := Nat → Int32) sa D vwCl (zty cI cZ cL) l yL_pay wsL_pay ({ frames := 8, cells := 0, slots := 0, locals := 128 } : Room) [.ref (ad 0), .int (nI b), .int (nI o), .int x, .int (nI r), .ref oa] ((wX ad cI cZ acc net tacc tnet flo bnd frm too amt pri wai byp ldr bor due plg clo pap cnd small price cut proc (nI mk) (nI lm) (nI le)) ++ [(oa, .inl (cL, 1, .inr (.inl og)))]) (fun r9 u => r9 = 0 ∧ bypOK u (upd pri mk (nI r)) (mk + 1)) (fun u => ((wX ad cI cZ acc net tacc tnet flo bnd (upd frm mk (nI b)) (upd too mk (nI o)) (upd amt mk x) (upd pri mk (nI r)) (upd wai mk 1) u ldr bor due plg clo pap cnd small price cut proc (nI (mk + 1)) (nI lm) (nI le)) ++ [(oa, .inl (cL, 1, .inr (.inl (vp_updL og 0 (((nI mk)).toInt64)))))])) 0 0 := by
  refine zMi.ofH (ret := (some .int)) (cc := cL_pay) (nL := 7) (own := RL) (by decide +kernel) rfl [(0, .ref (ad 0)), (1, .int (nI b)), (2, .int (nI o)), (3, .int x), (4, .int (nI r)), (5, .ref oa)] rfl (Nat.le_of_ble_eq_true rfl) rfl ?_
  intro A p e s m args below meth c C hmn htab
  refine z_aload C dL_pay_0 5 rfl ?_
  refine z_iconst C (v := 0) dL_pay_2 (by decide) ?_
  refine z_aload_n C dL_pay_3 rfl 0 rfl ?_
  refine z_iload_n C dL_pay_4 rfl 1 rfl ?_
  refine z_iload_n C dL_pay_5 rfl 2 rfl ?_
  refine z_iload_n C dL_pay_6 rfl 3 rfl ?_
  refine z_iload C dL_pay_7 4 rfl ?_
  refine z_callVi C (As := [.int (nI b), .int (nI o), .int x, .int (nI r)]) (rest := [.int 0, .ref oa]) (ws' := fun u_1 => ((wX ad cI cZ acc net tacc tnet flo bnd (upd frm mk (nI b)) (upd too mk (nI o)) (upd amt mk x) (upd pri mk (nI r)) (upd wai mk 1) u_1 ldr bor due plg clo pap cnd small price cut proc (nI (mk + 1)) (nI lm) (nI le)) ++ [(oa, .inl (cL, 1, .inr (.inl og)))])) (c_X4_pay_ok l sa D cI cZ cL ad acc net tacc tnet flo bnd frm too amt pri wai byp ldr bor due plg clo pap cnd small price cut proc mk lm le b o x r (by first | assumption | omega) (by first | assumption | omega) (by first | assumption | omega) (by first | assumption | omega) (by first | assumption | omega) (by first | assumption | omega) (by first | assumption | omega) (by first | assumption | omega) (by first | assumption | omega) (by first | assumption | omega) (by first | assumption | omega)) (cwV 4 C.2.2.2.2.1 gL_pay_X4_pay rfl rfl rfl (by decide +kernel) ⟨Nat.le_of_ble_eq_true rfl, Nat.le_of_ble_eq_true rfl⟩) 0 rfl rfl rfl (fun _ => (zSub.of (wr := [(oa, .inl (cL, 1, .inr (.inl og)))]) [0, 1, 2, 3, 4, 5, 6, 7, 8, 9, 10, 11, 12, 13, 14, 15, 16, 17, 18, 19, 20, 21, 22, 23, 24] [25] [1, 2, 3, 4, 5, 6, 7, 8, 9, 10, 11, 12, 13, 14, 15, 16, 17, 18, 19, 20, 21, 22, 23, 24, 25, 0] rfl rfl rfl rfl (by decide) rfl rfl)) (zIn.of [0, 1, 2, 3, 4, 5, 6, 7, 8, 9, 10, 11, 12, 13, 14, 15, 16, 17, 18, 19, 20, 21, 22, 23, 24] rfl rfl) rfl (Nat.le_of_ble_eq_true rfl) ⟨Nat.le_of_ble_eq_true rfl, Nat.le_of_ble_eq_true rfl⟩ dL_pay_9 (fun r_2 u_1 h_3 => ?_)
  obtain ⟨h_3, hx_4⟩ := h_3
  obtain rfl : r_2 = (nI mk) := h_3
  refine z_i2l C (v := ((nI mk)).toInt64) dL_pay_12 rfl ?_
  refine z_last C 25 2 rfl rfl 0 (nI_clamp (n := 0) (by decide)) (vp_in_nI (n := 0) (by decide) (by decide)) dL_pay_13 ((wX ad cI cZ acc net tacc tnet flo bnd (upd frm mk (nI b)) (upd too mk (nI o)) (upd amt mk x) (upd pri mk (nI r)) (upd wai mk 1) u_1 ldr bor due plg clo pap cnd small price cut proc (nI (mk + 1)) (nI lm) (nI le)) ++ [(oa, .inl (cL, 1, .inr (.inl (vp_updL og 0 ((nI mk)).toInt64))))]) rfl ?_
  refine z_goto C (tgt := 29) dL_pay_14 (by decide) ?_
  refine z_iconst C (v := 0) dL_pay_29 (by decide) ?_
  exact z_iret C u_1 (by exact ⟨rfl, hx_4⟩) rfl (by decide) (by decide) dL_pay_30
set_option maxHeartbeats 4000000 in
set_option maxRecDepth 100000 in
theorem w_pay_b1 (l : Launch) (hfl : l.stackTraces = false) (sa : Nat → Nat) (D : va_G) (cI cZ cL : ClassId) (ad : Nat → Nat) (acc net tacc tnet flo bnd frm too amt pri wai byp ldr bor due plg clo pap cnd : Nat → Int32) (small price cut proc : Int32) (mk lm le : Nat) (oa : Nat) (og : Nat → Int64) (b : Int32) (o : Int32) (x : Int32) (r : Int32) (hb : b < 0 ∨ 5 ≤ b) : zMi (T := Unit) sa D vwCl (zty cI cZ cL) l yL_pay wsL_pay ({ frames := 8, cells := 1, slots := 6, locals := 126 } : Room) [.ref (ad 0), .int b, .int o, .int x, .int r, .ref oa] ((wX ad cI cZ acc net tacc tnet flo bnd frm too amt pri wai byp ldr bor due plg clo pap cnd small price cut proc (nI mk) (nI lm) (nI le)) ++ [(oa, .inl (cL, 1, .inr (.inl og)))]) (fun r9 _ => r9 = 1) (fun _ => ((wX ad cI cZ acc net tacc tnet flo bnd frm too amt pri wai byp ldr bor due plg clo pap cnd small price cut proc (nI mk) (nI lm) (nI le)) ++ [(oa, .inl (cL, 1, .inr (.inl og)))])) 1 6 := by
  refine zMi.ofH (ret := (some .int)) (cc := cL_pay) (nL := 7) (own := RL) (by decide +kernel) rfl [(0, .ref (ad 0)), (1, .int b), (2, .int o), (3, .int x), (4, .int r), (5, .ref oa)] rfl (Nat.le_of_ble_eq_true rfl) rfl ?_
  intro A p e s m args below meth c C hmn htab
  refine z_aload C dL_pay_0 5 rfl ?_
  refine z_iconst C (v := 0) dL_pay_2 (by decide) ?_
  refine z_aload_n C dL_pay_3 rfl 0 rfl ?_
  refine z_iload_n C dL_pay_4 rfl 1 rfl ?_
  refine z_iload_n C dL_pay_5 rfl 2 rfl ?_
  refine z_iload_n C dL_pay_6 rfl 3 rfl ?_
  refine z_iload C dL_pay_7 4 rfl ?_
  refine z_callVx C (As := [.int b, .int o, .int x, .int r]) (rest := [.int 0, .ref oa]) (c_X4_pay_b1 l hfl sa D cI cZ cL ad acc net tacc tnet flo bnd frm too amt pri wai byp ldr bor due plg clo pap cnd small price cut proc mk lm le b o x r (by first | assumption | omega)) (cwV 4 C.2.2.2.2.1 gL_pay_X4_pay rfl rfl rfl (by decide +kernel) ⟨Nat.le_of_ble_eq_true rfl, Nat.le_of_ble_eq_true rfl⟩) 0 rfl rfl rfl (zSub.of (wr := [(oa, .inl (cL, 1, .inr (.inl og)))]) [0, 1, 2, 3, 4, 5, 6, 7, 8, 9, 10, 11, 12, 13, 14, 15, 16, 17, 18, 19, 20, 21, 22, 23, 24] [25] [1, 2, 3, 4, 5, 6, 7, 8, 9, 10, 11, 12, 13, 14, 15, 16, 17, 18, 19, 20, 21, 22, 23, 24, 25, 0] rfl rfl rfl rfl (by decide) rfl rfl) rfl (Nat.le_of_ble_eq_true rfl) ⟨Nat.le_of_ble_eq_true rfl, Nat.le_of_ble_eq_true rfl⟩ dL_pay_9 ?_
  refine z_catch (E := "java/lang/IndexOutOfBoundsException") (name := "java/lang/IndexOutOfBoundsException") C [] ⟨0, 14, 17, 13⟩ [⟨0, 14, 21, 15⟩, ⟨0, 14, 25, 17⟩] htab (fun z hz => absurd hz List.not_mem_nil) (by decide) (by decide) m_L_pay_c13 (by decide) rfl (fun q_1 => ?_)
  refine z_astore C dL_pay_17 (by decide) [(0, .ref (ad 0)), (1, .int b), (2, .int o), (3, .int x), (4, .int r), (5, .ref oa), (6, .ref q_1)] [1, 2, 3, 4, 5, 6, 0] rfl ?_
  refine z_iconst C (v := 1) dL_pay_19 (by decide) ?_
  exact z_iret C () rfl rfl (by decide) (by decide) dL_pay_20
set_option maxHeartbeats 4000000 in
set_option maxRecDepth 100000 in
theorem w_pay_b1b (l : Launch) (hfl : l.stackTraces = false) (sa : Nat → Nat) (D : va_G) (cI cZ cL : ClassId) (ad : Nat → Nat) (acc net tacc tnet flo bnd frm too amt pri wai byp ldr bor due plg clo pap cnd : Nat → Int32) (small price cut proc : Int32) (mk lm le : Nat) (oa : Nat) (og : Nat → Int64) (b : Nat) (o : Int32) (x : Int32) (r : Int32) (hb : b < 5) (ho : o < 0 ∨ 5 ≤ o) : zMi (T := Unit) sa D vwCl (zty cI cZ cL) l yL_pay wsL_pay ({ frames := 8, cells := 1, slots := 6, locals := 126 } : Room) [.ref (ad 0), .int (nI b), .int o, .int x, .int r, .ref oa] ((wX ad cI cZ acc net tacc tnet flo bnd frm too amt pri wai byp ldr bor due plg clo pap cnd small price cut proc (nI mk) (nI lm) (nI le)) ++ [(oa, .inl (cL, 1, .inr (.inl og)))]) (fun r9 _ => r9 = 1) (fun _ => ((wX ad cI cZ acc net tacc tnet flo bnd frm too amt pri wai byp ldr bor due plg clo pap cnd small price cut proc (nI mk) (nI lm) (nI le)) ++ [(oa, .inl (cL, 1, .inr (.inl og)))])) 1 6 := by
  refine zMi.ofH (ret := (some .int)) (cc := cL_pay) (nL := 7) (own := RL) (by decide +kernel) rfl [(0, .ref (ad 0)), (1, .int (nI b)), (2, .int o), (3, .int x), (4, .int r), (5, .ref oa)] rfl (Nat.le_of_ble_eq_true rfl) rfl ?_
  intro A p e s m args below meth c C hmn htab
  refine z_aload C dL_pay_0 5 rfl ?_
  refine z_iconst C (v := 0) dL_pay_2 (by decide) ?_
  refine z_aload_n C dL_pay_3 rfl 0 rfl ?_
  refine z_iload_n C dL_pay_4 rfl 1 rfl ?_
  refine z_iload_n C dL_pay_5 rfl 2 rfl ?_
  refine z_iload_n C dL_pay_6 rfl 3 rfl ?_
  refine z_iload C dL_pay_7 4 rfl ?_
  refine z_callVx C (As := [.int (nI b), .int o, .int x, .int r]) (rest := [.int 0, .ref oa]) (c_X4_pay_b1b l hfl sa D cI cZ cL ad acc net tacc tnet flo bnd frm too amt pri wai byp ldr bor due plg clo pap cnd small price cut proc mk lm le b o x r (by first | assumption | omega) (by first | assumption | omega)) (cwV 4 C.2.2.2.2.1 gL_pay_X4_pay rfl rfl rfl (by decide +kernel) ⟨Nat.le_of_ble_eq_true rfl, Nat.le_of_ble_eq_true rfl⟩) 0 rfl rfl rfl (zSub.of (wr := [(oa, .inl (cL, 1, .inr (.inl og)))]) [0, 1, 2, 3, 4, 5, 6, 7, 8, 9, 10, 11, 12, 13, 14, 15, 16, 17, 18, 19, 20, 21, 22, 23, 24] [25] [1, 2, 3, 4, 5, 6, 7, 8, 9, 10, 11, 12, 13, 14, 15, 16, 17, 18, 19, 20, 21, 22, 23, 24, 25, 0] rfl rfl rfl rfl (by decide) rfl rfl) rfl (Nat.le_of_ble_eq_true rfl) ⟨Nat.le_of_ble_eq_true rfl, Nat.le_of_ble_eq_true rfl⟩ dL_pay_9 ?_
  refine z_catch (E := "java/lang/IndexOutOfBoundsException") (name := "java/lang/IndexOutOfBoundsException") C [] ⟨0, 14, 17, 13⟩ [⟨0, 14, 21, 15⟩, ⟨0, 14, 25, 17⟩] htab (fun z hz => absurd hz List.not_mem_nil) (by decide) (by decide) m_L_pay_c13 (by decide) rfl (fun q_1 => ?_)
  refine z_astore C dL_pay_17 (by decide) [(0, .ref (ad 0)), (1, .int (nI b)), (2, .int o), (3, .int x), (4, .int r), (5, .ref oa), (6, .ref q_1)] [1, 2, 3, 4, 5, 6, 0] rfl ?_
  refine z_iconst C (v := 1) dL_pay_19 (by decide) ?_
  exact z_iret C () rfl rfl (by decide) (by decide) dL_pay_20
set_option maxHeartbeats 4000000 in
set_option maxRecDepth 100000 in
theorem w_pay_b2a (l : Launch) (hfl : l.stackTraces = false) (sa : Nat → Nat) (D : va_G) (cI cZ cL : ClassId) (ad : Nat → Nat) (acc net tacc tnet flo bnd frm too amt pri wai byp ldr bor due plg clo pap cnd : Nat → Int32) (small price cut proc : Int32) (mk lm le : Nat) (oa : Nat) (og : Nat → Int64) (b : Nat) (o : Nat) (x : Int32) (r : Int32) (hb : b < 5) (ho : o < 5) (hft : b = o) : zMi (T := Unit) sa D vwCl (zty cI cZ cL) l yL_pay wsL_pay ({ frames := 8, cells := 1, slots := 6, locals := 127 } : Room) [.ref (ad 0), .int (nI b), .int (nI o), .int x, .int r, .ref oa] ((wX ad cI cZ acc net tacc tnet flo bnd frm too amt pri wai byp ldr bor due plg clo pap cnd small price cut proc (nI mk) (nI lm) (nI le)) ++ [(oa, .inl (cL, 1, .inr (.inl og)))]) (fun r9 _ => r9 = 2) (fun _ => ((wX ad cI cZ acc net tacc tnet flo bnd frm too amt pri wai byp ldr bor due plg clo pap cnd small price cut proc (nI mk) (nI lm) (nI le)) ++ [(oa, .inl (cL, 1, .inr (.inl og)))])) 1 6 := by
  refine zMi.ofH (ret := (some .int)) (cc := cL_pay) (nL := 7) (own := RL) (by decide +kernel) rfl [(0, .ref (ad 0)), (1, .int (nI b)), (2, .int (nI o)), (3, .int x), (4, .int r), (5, .ref oa)] rfl (Nat.le_of_ble_eq_true rfl) rfl ?_
  intro A p e s m args below meth c C hmn htab
  refine z_aload C dL_pay_0 5 rfl ?_
  refine z_iconst C (v := 0) dL_pay_2 (by decide) ?_
  refine z_aload_n C dL_pay_3 rfl 0 rfl ?_
  refine z_iload_n C dL_pay_4 rfl 1 rfl ?_
  refine z_iload_n C dL_pay_5 rfl 2 rfl ?_
  refine z_iload_n C dL_pay_6 rfl 3 rfl ?_
  refine z_iload C dL_pay_7 4 rfl ?_
  refine z_callVx C (As := [.int (nI b), .int (nI o), .int x, .int r]) (rest := [.int 0, .ref oa]) (c_X4_pay_b2a l hfl sa D cI cZ cL ad acc net tacc tnet flo bnd frm too amt pri wai byp ldr bor due plg clo pap cnd small price cut proc mk lm le b o x r (by first | assumption | omega) (by first | assumption | omega) (by first | assumption | omega)) (cwV 4 C.2.2.2.2.1 gL_pay_X4_pay rfl rfl rfl (by decide +kernel) ⟨Nat.le_of_ble_eq_true rfl, Nat.le_of_ble_eq_true rfl⟩) 0 rfl rfl rfl (zSub.of (wr := [(oa, .inl (cL, 1, .inr (.inl og)))]) [0, 1, 2, 3, 4, 5, 6, 7, 8, 9, 10, 11, 12, 13, 14, 15, 16, 17, 18, 19, 20, 21, 22, 23, 24] [25] [1, 2, 3, 4, 5, 6, 7, 8, 9, 10, 11, 12, 13, 14, 15, 16, 17, 18, 19, 20, 21, 22, 23, 24, 25, 0] rfl rfl rfl rfl (by decide) rfl rfl) rfl (Nat.le_of_ble_eq_true rfl) ⟨Nat.le_of_ble_eq_true rfl, Nat.le_of_ble_eq_true rfl⟩ dL_pay_9 ?_
  refine z_catch (E := "java/lang/IllegalArgumentException") (name := "java/lang/IllegalArgumentException") C [⟨0, 14, 17, 13⟩] ⟨0, 14, 21, 15⟩ [⟨0, 14, 25, 17⟩] htab (fun z hz => (List.mem_cons.mp hz).elim (fun e9 => by subst e9; exact ⟨by decide, "java/lang/IndexOutOfBoundsException", m_L_pay_c13, by decide⟩) (fun hz => absurd hz List.not_mem_nil)) (by decide) (by decide) m_L_pay_c15 (by decide) rfl (fun q_1 => ?_)
  refine z_astore C dL_pay_21 (by decide) [(0, .ref (ad 0)), (1, .int (nI b)), (2, .int (nI o)), (3, .int x), (4, .int r), (5, .ref oa), (6, .ref q_1)] [1, 2, 3, 4, 5, 6, 0] rfl ?_
  refine z_iconst C (v := 2) dL_pay_23 (by decide) ?_
  exact z_iret C () rfl rfl (by decide) (by decide) dL_pay_24
set_option maxHeartbeats 4000000 in
set_option maxRecDepth 100000 in
theorem w_pay_b2b (l : Launch) (hfl : l.stackTraces = false) (sa : Nat → Nat) (D : va_G) (cI cZ cL : ClassId) (ad : Nat → Nat) (acc net tacc tnet flo bnd frm too amt pri wai byp ldr bor due plg clo pap cnd : Nat → Int32) (small price cut proc : Int32) (mk lm le : Nat) (oa : Nat) (og : Nat → Int64) (b : Nat) (o : Nat) (x : Int32) (r : Int32) (hb : b < 5) (ho : o < 5) (hft : b ≠ o) (hbad : x < 1 ∨ 100000 < x ∨ r < 0 ∨ 2 < r) : zMi (T := Unit) sa D vwCl (zty cI cZ cL) l yL_pay wsL_pay ({ frames := 8, cells := 1, slots := 6, locals := 128 } : Room) [.ref (ad 0), .int (nI b), .int (nI o), .int x, .int r, .ref oa] ((wX ad cI cZ acc net tacc tnet flo bnd frm too amt pri wai byp ldr bor due plg clo pap cnd small price cut proc (nI mk) (nI lm) (nI le)) ++ [(oa, .inl (cL, 1, .inr (.inl og)))]) (fun r9 _ => r9 = 2) (fun _ => ((wX ad cI cZ acc net tacc tnet flo bnd frm too amt pri wai byp ldr bor due plg clo pap cnd small price cut proc (nI mk) (nI lm) (nI le)) ++ [(oa, .inl (cL, 1, .inr (.inl og)))])) 1 6 := by
  refine zMi.ofH (ret := (some .int)) (cc := cL_pay) (nL := 7) (own := RL) (by decide +kernel) rfl [(0, .ref (ad 0)), (1, .int (nI b)), (2, .int (nI o)), (3, .int x), (4, .int r), (5, .ref oa)] rfl (Nat.le_of_ble_eq_true rfl) rfl ?_
  intro A p e s m args below meth c C hmn htab
  refine z_aload C dL_pay_0 5 rfl ?_
  refine z_iconst C (v := 0) dL_pay_2 (by decide) ?_
  refine z_aload_n C dL_pay_3 rfl 0 rfl ?_
  refine z_iload_n C dL_pay_4 rfl 1 rfl ?_
  refine z_iload_n C dL_pay_5 rfl 2 rfl ?_
  refine z_iload_n C dL_pay_6 rfl 3 rfl ?_
  refine z_iload C dL_pay_7 4 rfl ?_
  refine z_callVx C (As := [.int (nI b), .int (nI o), .int x, .int r]) (rest := [.int 0, .ref oa]) (c_X4_pay_b2b l hfl sa D cI cZ cL ad acc net tacc tnet flo bnd frm too amt pri wai byp ldr bor due plg clo pap cnd small price cut proc mk lm le b o x r (by first | assumption | omega) (by first | assumption | omega) (by first | assumption | omega) (by first | assumption | omega)) (cwV 4 C.2.2.2.2.1 gL_pay_X4_pay rfl rfl rfl (by decide +kernel) ⟨Nat.le_of_ble_eq_true rfl, Nat.le_of_ble_eq_true rfl⟩) 0 rfl rfl rfl (zSub.of (wr := [(oa, .inl (cL, 1, .inr (.inl og)))]) [0, 1, 2, 3, 4, 5, 6, 7, 8, 9, 10, 11, 12, 13, 14, 15, 16, 17, 18, 19, 20, 21, 22, 23, 24] [25] [1, 2, 3, 4, 5, 6, 7, 8, 9, 10, 11, 12, 13, 14, 15, 16, 17, 18, 19, 20, 21, 22, 23, 24, 25, 0] rfl rfl rfl rfl (by decide) rfl rfl) rfl (Nat.le_of_ble_eq_true rfl) ⟨Nat.le_of_ble_eq_true rfl, Nat.le_of_ble_eq_true rfl⟩ dL_pay_9 ?_
  refine z_catch (E := "java/lang/IllegalArgumentException") (name := "java/lang/IllegalArgumentException") C [⟨0, 14, 17, 13⟩] ⟨0, 14, 21, 15⟩ [⟨0, 14, 25, 17⟩] htab (fun z hz => (List.mem_cons.mp hz).elim (fun e9 => by subst e9; exact ⟨by decide, "java/lang/IndexOutOfBoundsException", m_L_pay_c13, by decide⟩) (fun hz => absurd hz List.not_mem_nil)) (by decide) (by decide) m_L_pay_c15 (by decide) rfl (fun q_1 => ?_)
  refine z_astore C dL_pay_21 (by decide) [(0, .ref (ad 0)), (1, .int (nI b)), (2, .int (nI o)), (3, .int x), (4, .int r), (5, .ref oa), (6, .ref q_1)] [1, 2, 3, 4, 5, 6, 0] rfl ?_
  refine z_iconst C (v := 2) dL_pay_23 (by decide) ?_
  exact z_iret C () rfl rfl (by decide) (by decide) dL_pay_24
set_option maxHeartbeats 4000000 in
set_option maxRecDepth 100000 in
theorem w_pay_b3 (l : Launch) (hfl : l.stackTraces = false) (sa : Nat → Nat) (D : va_G) (cI cZ cL : ClassId) (ad : Nat → Nat) (acc net tacc tnet flo bnd frm too amt pri wai byp ldr bor due plg clo pap cnd : Nat → Int32) (small price cut proc : Int32) (mk lm le : Nat) (oa : Nat) (og : Nat → Int64) (b : Nat) (o : Nat) (x : Int32) (r : Nat) (hb : b < 5) (ho : o < 5) (hft : b ≠ o) (h1 : ¬ x < 1) (h2 : ¬ 100000 < x) (hr : r < 3) (hbad : ¬ (clo b = 0 ∧ clo o = 0 ∧ mk < 60)) (hmk : mk ≤ 60) : zMi (T := Unit) sa D vwCl (zty cI cZ cL) l yL_pay wsL_pay ({ frames := 8, cells := 1, slots := 6, locals := 128 } : Room) [.ref (ad 0), .int (nI b), .int (nI o), .int x, .int (nI r), .ref oa] ((wX ad cI cZ acc net tacc tnet flo bnd frm too amt pri wai byp ldr bor due plg clo pap cnd small price cut proc (nI mk) (nI lm) (nI le)) ++ [(oa, .inl (cL, 1, .inr (.inl og)))]) (fun r9 _ => r9 = 3) (fun _ => ((wX ad cI cZ acc net tacc tnet flo bnd frm too amt pri wai byp ldr bor due plg clo pap cnd small price cut proc (nI mk) (nI lm) (nI le)) ++ [(oa, .inl (cL, 1, .inr (.inl og)))])) 1 6 := by
  refine zMi.ofH (ret := (some .int)) (cc := cL_pay) (nL := 7) (own := RL) (by decide +kernel) rfl [(0, .ref (ad 0)), (1, .int (nI b)), (2, .int (nI o)), (3, .int x), (4, .int (nI r)), (5, .ref oa)] rfl (Nat.le_of_ble_eq_true rfl) rfl ?_
  intro A p e s m args below meth c C hmn htab
  refine z_aload C dL_pay_0 5 rfl ?_
  refine z_iconst C (v := 0) dL_pay_2 (by decide) ?_
  refine z_aload_n C dL_pay_3 rfl 0 rfl ?_
  refine z_iload_n C dL_pay_4 rfl 1 rfl ?_
  refine z_iload_n C dL_pay_5 rfl 2 rfl ?_
  refine z_iload_n C dL_pay_6 rfl 3 rfl ?_
  refine z_iload C dL_pay_7 4 rfl ?_
  refine z_callVx C (As := [.int (nI b), .int (nI o), .int x, .int (nI r)]) (rest := [.int 0, .ref oa]) (c_X4_pay_b3 l hfl sa D cI cZ cL ad acc net tacc tnet flo bnd frm too amt pri wai byp ldr bor due plg clo pap cnd small price cut proc mk lm le b o x r (by first | assumption | omega) (by first | assumption | omega) (by first | assumption | omega) (by first | assumption | omega) (by first | assumption | omega) (by first | assumption | omega) (by first | assumption | omega) (by first | assumption | omega)) (cwV 4 C.2.2.2.2.1 gL_pay_X4_pay rfl rfl rfl (by decide +kernel) ⟨Nat.le_of_ble_eq_true rfl, Nat.le_of_ble_eq_true rfl⟩) 0 rfl rfl rfl (zSub.of (wr := [(oa, .inl (cL, 1, .inr (.inl og)))]) [0, 1, 2, 3, 4, 5, 6, 7, 8, 9, 10, 11, 12, 13, 14, 15, 16, 17, 18, 19, 20, 21, 22, 23, 24] [25] [1, 2, 3, 4, 5, 6, 7, 8, 9, 10, 11, 12, 13, 14, 15, 16, 17, 18, 19, 20, 21, 22, 23, 24, 25, 0] rfl rfl rfl rfl (by decide) rfl rfl) rfl (Nat.le_of_ble_eq_true rfl) ⟨Nat.le_of_ble_eq_true rfl, Nat.le_of_ble_eq_true rfl⟩ dL_pay_9 ?_
  refine z_catch (E := "java/lang/IllegalStateException") (name := "java/lang/IllegalStateException") C [⟨0, 14, 17, 13⟩, ⟨0, 14, 21, 15⟩] ⟨0, 14, 25, 17⟩ [] htab (fun z hz => (List.mem_cons.mp hz).elim (fun e9 => by subst e9; exact ⟨by decide, "java/lang/IndexOutOfBoundsException", m_L_pay_c13, by decide⟩) (fun hz => (List.mem_cons.mp hz).elim (fun e9 => by subst e9; exact ⟨by decide, "java/lang/IllegalArgumentException", m_L_pay_c15, by decide⟩) (fun hz => absurd hz List.not_mem_nil))) (by decide) (by decide) m_L_pay_c17 (by decide) rfl (fun q_1 => ?_)
  refine z_astore C dL_pay_25 (by decide) [(0, .ref (ad 0)), (1, .int (nI b)), (2, .int (nI o)), (3, .int x), (4, .int (nI r)), (5, .ref oa), (6, .ref q_1)] [1, 2, 3, 4, 5, 6, 0] rfl ?_
  refine z_iconst C (v := 3) dL_pay_27 (by decide) ?_
  exact z_iret C () rfl rfl (by decide) (by decide) dL_pay_28
set_option maxHeartbeats 4000000 in
set_option maxRecDepth 100000 in
theorem w_drop_ok (l : Launch) (sa : Nat → Nat) (D : va_G) (cI cZ cL : ClassId) (ad : Nat → Nat) (acc net tacc tnet flo bnd frm too amt pri wai byp ldr bor due plg clo pap cnd : Nat → Int32) (small price cut proc : Int32) (mk lm le : Nat) (oa : Nat) (og : Nat → Int64) (p9 : Nat) (hp : p9 < mk) (hmk : mk ≤ 60) (hw : ¬ wai p9 = 0) : zMi (T := Unit) sa D vwCl (zty cI cZ cL) l yL_drop wsL_drop ({ frames := 8, cells := 0, slots := 0, locals := 124 } : Room) [.ref (ad 0), .int (nI p9), .ref oa] ((wX ad cI cZ acc net tacc tnet flo bnd frm too amt pri wai byp ldr bor due plg clo pap cnd small price cut proc (nI mk) (nI lm) (nI le)) ++ [(oa, .inl (cL, 1, .inr (.inl og)))]) (fun r9 _ => r9 = 0) (fun _ => ((wX ad cI cZ acc net tacc tnet flo bnd frm too amt pri (upd wai p9 0) byp ldr bor due plg clo pap cnd small price cut proc (nI mk) (nI lm) (nI le)) ++ [(oa, .inl (cL, 1, .inr (.inl (vp_updL og 0 (((nI (cntW (upd wai p9 0) mk))).toInt64)))))])) 0 0 := by
  refine zMi.ofH (ret := (some .int)) (cc := cL_drop) (nL := 4) (own := RL) (by decide +kernel) rfl [(0, .ref (ad 0)), (1, .int (nI p9)), (2, .ref oa)] rfl (Nat.le_of_ble_eq_true rfl) rfl ?_
  intro A p e s m args below meth c C hmn htab
  refine z_aload_n C dL_drop_0 rfl 2 rfl ?_
  refine z_iconst C (v := 0) dL_drop_1 (by decide) ?_
  refine z_aload_n C dL_drop_2 rfl 0 rfl ?_
  refine z_iload_n C dL_drop_3 rfl 1 rfl ?_
  refine z_callVi C (T := Unit) (As := [.int (nI p9)]) (rest := [.int 0, .ref oa]) (ws' := fun _ => ((wX ad cI cZ acc net tacc tnet flo bnd frm too amt pri (upd wai p9 0) byp ldr bor due plg clo pap cnd small price cut proc (nI mk) (nI lm) (nI le)) ++ [(oa, .inl (cL, 1, .inr (.inl og)))])) (c_X4_drop_ok l sa D cI cZ cL ad acc net tacc tnet flo bnd frm too amt pri wai byp ldr bor due plg clo pap cnd small price cut proc mk lm le p9 (by first | assumption | omega) (by first | assumption | omega) (by first | assumption | omega)) (cwV 1 C.2.2.2.2.1 gL_drop_X4_drop rfl rfl rfl (by decide +kernel) ⟨Nat.le_of_ble_eq_true rfl, Nat.le_of_ble_eq_true rfl⟩) 0 rfl rfl rfl (fun _ => (zSub.of (wr := [(oa, .inl (cL, 1, .inr (.inl og)))]) [0, 1, 2, 3, 4, 5, 6, 7, 8, 9, 10, 11, 12, 13, 14, 15, 16, 17, 18, 19, 20, 21, 22, 23, 24] [25] [1, 2, 3, 4, 5, 6, 7, 8, 9, 10, 11, 12, 13, 14, 15, 16, 17, 18, 19, 20, 21, 22, 23, 24, 25, 0] rfl rfl rfl rfl (by decide) rfl rfl)) (zIn.of [0, 1, 2, 3, 4, 5, 6, 7, 8, 9, 10, 11, 12, 13, 14, 15, 16, 17, 18, 19, 20, 21, 22, 23, 24] rfl rfl) rfl (Nat.le_of_ble_eq_true rfl) ⟨Nat.le_of_ble_eq_true rfl, Nat.le_of_ble_eq_true rfl⟩ dL_drop_4 (fun r_1 _ h_2 => ?_)
  obtain rfl : r_1 = (nI (cntW (upd wai p9 0) mk)) := h_2
  refine z_i2l C (v := ((nI (cntW (upd wai p9 0) mk))).toInt64) dL_drop_7 rfl ?_
  refine z_last C 25 2 rfl rfl 0 (nI_clamp (n := 0) (by decide)) (vp_in_nI (n := 0) (by decide) (by decide)) dL_drop_8 ((wX ad cI cZ acc net tacc tnet flo bnd frm too amt pri (upd wai p9 0) byp ldr bor due plg clo pap cnd small price cut proc (nI mk) (nI lm) (nI le)) ++ [(oa, .inl (cL, 1, .inr (.inl (vp_updL og 0 ((nI (cntW (upd wai p9 0) mk))).toInt64))))]) rfl ?_
  refine z_goto C (tgt := 18) dL_drop_9 (by decide) ?_
  refine z_iconst C (v := 0) dL_drop_18 (by decide) ?_
  exact z_iret C () rfl rfl (by decide) (by decide) dL_drop_19
set_option maxHeartbeats 4000000 in
set_option maxRecDepth 100000 in
theorem w_drop_b1 (l : Launch) (hfl : l.stackTraces = false) (sa : Nat → Nat) (D : va_G) (cI cZ cL : ClassId) (ad : Nat → Nat) (acc net tacc tnet flo bnd frm too amt pri wai byp ldr bor due plg clo pap cnd : Nat → Int32) (small price cut proc : Int32) (mk lm le : Nat) (oa : Nat) (og : Nat → Int64) (p9 : Int32) (hp : p9 < 0 ∨ nI mk ≤ p9) : zMi (T := Unit) sa D vwCl (zty cI cZ cL) l yL_drop wsL_drop ({ frames := 8, cells := 1, slots := 6, locals := 124 } : Room) [.ref (ad 0), .int p9, .ref oa] ((wX ad cI cZ acc net tacc tnet flo bnd frm too amt pri wai byp ldr bor due plg clo pap cnd small price cut proc (nI mk) (nI lm) (nI le)) ++ [(oa, .inl (cL, 1, .inr (.inl og)))]) (fun r9 _ => r9 = 1) (fun _ => ((wX ad cI cZ acc net tacc tnet flo bnd frm too amt pri wai byp ldr bor due plg clo pap cnd small price cut proc (nI mk) (nI lm) (nI le)) ++ [(oa, .inl (cL, 1, .inr (.inl og)))])) 1 6 := by
  refine zMi.ofH (ret := (some .int)) (cc := cL_drop) (nL := 4) (own := RL) (by decide +kernel) rfl [(0, .ref (ad 0)), (1, .int p9), (2, .ref oa)] rfl (Nat.le_of_ble_eq_true rfl) rfl ?_
  intro A p e s m args below meth c C hmn htab
  refine z_aload_n C dL_drop_0 rfl 2 rfl ?_
  refine z_iconst C (v := 0) dL_drop_1 (by decide) ?_
  refine z_aload_n C dL_drop_2 rfl 0 rfl ?_
  refine z_iload_n C dL_drop_3 rfl 1 rfl ?_
  refine z_callVx C (As := [.int p9]) (rest := [.int 0, .ref oa]) (c_X4_drop_b1 l hfl sa D cI cZ cL ad acc net tacc tnet flo bnd frm too amt pri wai byp ldr bor due plg clo pap cnd small price cut proc mk lm le p9 (by first | assumption | omega)) (cwV 1 C.2.2.2.2.1 gL_drop_X4_drop rfl rfl rfl (by decide +kernel) ⟨Nat.le_of_ble_eq_true rfl, Nat.le_of_ble_eq_true rfl⟩) 0 rfl rfl rfl (zSub.of (wr := [(oa, .inl (cL, 1, .inr (.inl og)))]) [0, 1, 2, 3, 4, 5, 6, 7, 8, 9, 10, 11, 12, 13, 14, 15, 16, 17, 18, 19, 20, 21, 22, 23, 24] [25] [1, 2, 3, 4, 5, 6, 7, 8, 9, 10, 11, 12, 13, 14, 15, 16, 17, 18, 19, 20, 21, 22, 23, 24, 25, 0] rfl rfl rfl rfl (by decide) rfl rfl) rfl (Nat.le_of_ble_eq_true rfl) ⟨Nat.le_of_ble_eq_true rfl, Nat.le_of_ble_eq_true rfl⟩ dL_drop_4 ?_
  refine z_catch (E := "java/lang/IndexOutOfBoundsException") (name := "java/lang/IndexOutOfBoundsException") C [] ⟨0, 9, 12, 13⟩ [⟨0, 9, 15, 17⟩] htab (fun z hz => absurd hz List.not_mem_nil) (by decide) (by decide) m_L_drop_c13 (by decide) rfl (fun q_1 => ?_)
  refine z_astore_n C dL_drop_12 rfl (by decide) [(0, .ref (ad 0)), (1, .int p9), (2, .ref oa), (3, .ref q_1)] [1, 2, 3, 0] rfl ?_
  refine z_iconst C (v := 1) dL_drop_13 (by decide) ?_
  exact z_iret C () rfl rfl (by decide) (by decide) dL_drop_14
set_option maxHeartbeats 4000000 in
set_option maxRecDepth 100000 in
theorem w_drop_b2 (l : Launch) (hfl : l.stackTraces = false) (sa : Nat → Nat) (D : va_G) (cI cZ cL : ClassId) (ad : Nat → Nat) (acc net tacc tnet flo bnd frm too amt pri wai byp ldr bor due plg clo pap cnd : Nat → Int32) (small price cut proc : Int32) (mk lm le : Nat) (oa : Nat) (og : Nat → Int64) (p9 : Nat) (hp : p9 < mk) (hmk : mk ≤ 60) (hw : wai p9 = 0) : zMi (T := Unit) sa D vwCl (zty cI cZ cL) l yL_drop wsL_drop ({ frames := 8, cells := 1, slots := 6, locals := 124 } : Room) [.ref (ad 0), .int (nI p9), .ref oa] ((wX ad cI cZ acc net tacc tnet flo bnd frm too amt pri wai byp ldr bor due plg clo pap cnd small price cut proc (nI mk) (nI lm) (nI le)) ++ [(oa, .inl (cL, 1, .inr (.inl og)))]) (fun r9 _ => r9 = 2) (fun _ => ((wX ad cI cZ acc net tacc tnet flo bnd frm too amt pri wai byp ldr bor due plg clo pap cnd small price cut proc (nI mk) (nI lm) (nI le)) ++ [(oa, .inl (cL, 1, .inr (.inl og)))])) 1 6 := by
  refine zMi.ofH (ret := (some .int)) (cc := cL_drop) (nL := 4) (own := RL) (by decide +kernel) rfl [(0, .ref (ad 0)), (1, .int (nI p9)), (2, .ref oa)] rfl (Nat.le_of_ble_eq_true rfl) rfl ?_
  intro A p e s m args below meth c C hmn htab
  refine z_aload_n C dL_drop_0 rfl 2 rfl ?_
  refine z_iconst C (v := 0) dL_drop_1 (by decide) ?_
  refine z_aload_n C dL_drop_2 rfl 0 rfl ?_
  refine z_iload_n C dL_drop_3 rfl 1 rfl ?_
  refine z_callVx C (As := [.int (nI p9)]) (rest := [.int 0, .ref oa]) (c_X4_drop_b2 l hfl sa D cI cZ cL ad acc net tacc tnet flo bnd frm too amt pri wai byp ldr bor due plg clo pap cnd small price cut proc mk lm le p9 (by first | assumption | omega) (by first | assumption | omega) (by first | assumption | omega)) (cwV 1 C.2.2.2.2.1 gL_drop_X4_drop rfl rfl rfl (by decide +kernel) ⟨Nat.le_of_ble_eq_true rfl, Nat.le_of_ble_eq_true rfl⟩) 0 rfl rfl rfl (zSub.of (wr := [(oa, .inl (cL, 1, .inr (.inl og)))]) [0, 1, 2, 3, 4, 5, 6, 7, 8, 9, 10, 11, 12, 13, 14, 15, 16, 17, 18, 19, 20, 21, 22, 23, 24] [25] [1, 2, 3, 4, 5, 6, 7, 8, 9, 10, 11, 12, 13, 14, 15, 16, 17, 18, 19, 20, 21, 22, 23, 24, 25, 0] rfl rfl rfl rfl (by decide) rfl rfl) rfl (Nat.le_of_ble_eq_true rfl) ⟨Nat.le_of_ble_eq_true rfl, Nat.le_of_ble_eq_true rfl⟩ dL_drop_4 ?_
  refine z_catch (E := "java/lang/IllegalStateException") (name := "java/lang/IllegalStateException") C [⟨0, 9, 12, 13⟩] ⟨0, 9, 15, 17⟩ [] htab (fun z hz => (List.mem_cons.mp hz).elim (fun e9 => by subst e9; exact ⟨by decide, "java/lang/IndexOutOfBoundsException", m_L_drop_c13, by decide⟩) (fun hz => absurd hz List.not_mem_nil)) (by decide) (by decide) m_L_drop_c17 (by decide) rfl (fun q_1 => ?_)
  refine z_astore_n C dL_drop_15 rfl (by decide) [(0, .ref (ad 0)), (1, .int (nI p9)), (2, .ref oa), (3, .ref q_1)] [1, 2, 3, 0] rfl ?_
  refine z_iconst C (v := 2) dL_drop_16 (by decide) ?_
  exact z_iret C () rfl rfl (by decide) (by decide) dL_drop_17
set_option maxHeartbeats 4000000 in
set_option maxRecDepth 100000 in
theorem w_setSmall_ok (l : Launch) (sa : Nat → Nat) (D : va_G) (cI cZ cL : ClassId) (ad : Nat → Nat) (acc net tacc tnet flo bnd frm too amt pri wai byp ldr bor due plg clo pap cnd : Nat → Int32) (small price cut proc : Int32) (mk lm le : Nat) (oa : Nat) (og : Nat → Int64) (x : Int32) (h1 : ¬ x < 0) (h2 : ¬ 100000 < x) : zMi (T := Unit) sa D vwCl (zty cI cZ cL) l yL_setSmall wsL_setSmall ({ frames := 8, cells := 0, slots := 0, locals := 126 } : Room) [.ref (ad 0), .int x, .ref oa] ((wX ad cI cZ acc net tacc tnet flo bnd frm too amt pri wai byp ldr bor due plg clo pap cnd small price cut proc (nI mk) (nI lm) (nI le)) ++ [(oa, .inl (cL, 1, .inr (.inl og)))]) (fun r9 _ => r9 = 0) (fun _ => ((wX ad cI cZ acc net tacc tnet flo bnd frm too amt pri wai byp ldr bor due plg clo pap cnd x price cut proc (nI mk) (nI lm) (nI le)) ++ [(oa, .inl (cL, 1, .inr (.inl (vp_updL og 0 ((small).toInt64)))))])) 0 0 := by
  refine zMi.ofH (ret := (some .int)) (cc := cL_setSmall) (nL := 4) (own := RL) (by decide +kernel) rfl [(0, .ref (ad 0)), (1, .int x), (2, .ref oa)] rfl (Nat.le_of_ble_eq_true rfl) rfl ?_
  intro A p e s m args below meth c C hmn htab
  refine z_aload_n C dL_setSmall_0 rfl 2 rfl ?_
  refine z_iconst C (v := 0) dL_setSmall_1 (by decide) ?_
  refine z_aload_n C dL_setSmall_2 rfl 0 rfl ?_
  refine z_iload_n C dL_setSmall_3 rfl 1 rfl ?_
  refine z_callVi C (T := Unit) (As := [.int x]) (rest := [.int 0, .ref oa]) (ws' := fun _ => ((wX ad cI cZ acc net tacc tnet flo bnd frm too amt pri wai byp ldr bor due plg clo pap cnd x price cut proc (nI mk) (nI lm) (nI le)) ++ [(oa, .inl (cL, 1, .inr (.inl og)))])) (c_X4_setSmall_ok l sa D cI cZ cL ad acc net tacc tnet flo bnd frm too amt pri wai byp ldr bor due plg clo pap cnd small price cut proc mk lm le x (by first | assumption | omega) (by first | assumption | omega)) (cwV 1 C.2.2.2.2.1 gL_setSmall_X4_setSmall rfl rfl rfl (by decide +kernel) ⟨Nat.le_of_ble_eq_true rfl, Nat.le_of_ble_eq_true rfl⟩) 0 rfl rfl rfl (fun _ => (zSub.of (wr := [(oa, .inl (cL, 1, .inr (.inl og)))]) [0, 1, 2, 3, 4, 5, 6, 7, 8, 9, 10, 11, 12, 13, 14, 15, 16, 17, 18, 19, 20, 21, 22, 23, 24] [25] [1, 2, 3, 4, 5, 6, 7, 8, 9, 10, 11, 12, 13, 14, 15, 16, 17, 18, 19, 20, 21, 22, 23, 24, 25, 0] rfl rfl rfl rfl (by decide) rfl rfl)) (zIn.of [0, 1, 2, 3, 4, 5, 6, 7, 8, 9, 10, 11, 12, 13, 14, 15, 16, 17, 18, 19, 20, 21, 22, 23, 24] rfl rfl) rfl (Nat.le_of_ble_eq_true rfl) ⟨Nat.le_of_ble_eq_true rfl, Nat.le_of_ble_eq_true rfl⟩ dL_setSmall_4 (fun r_1 _ h_2 => ?_)
  obtain rfl : small = r_1 := h_2.symm
  refine z_i2l C (v := (small).toInt64) dL_setSmall_7 rfl ?_
  refine z_last C 25 2 rfl rfl 0 (nI_clamp (n := 0) (by decide)) (vp_in_nI (n := 0) (by decide) (by decide)) dL_setSmall_8 ((wX ad cI cZ acc net tacc tnet flo bnd frm too amt pri wai byp ldr bor due plg clo pap cnd x price cut proc (nI mk) (nI lm) (nI le)) ++ [(oa, .inl (cL, 1, .inr (.inl (vp_updL og 0 (small).toInt64))))]) rfl ?_
  refine z_goto C (tgt := 15) dL_setSmall_9 (by decide) ?_
  refine z_iconst C (v := 0) dL_setSmall_15 (by decide) ?_
  exact z_iret C () rfl rfl (by decide) (by decide) dL_setSmall_16
set_option maxHeartbeats 4000000 in
set_option maxRecDepth 100000 in
theorem w_setSmall_b1 (l : Launch) (hfl : l.stackTraces = false) (sa : Nat → Nat) (D : va_G) (cI cZ cL : ClassId) (ad : Nat → Nat) (acc net tacc tnet flo bnd frm too amt pri wai byp ldr bor due plg clo pap cnd : Nat → Int32) (small price cut proc : Int32) (mk lm le : Nat) (oa : Nat) (og : Nat → Int64) (x : Int32) (hbad : x < 0 ∨ 100000 < x) : zMi (T := Unit) sa D vwCl (zty cI cZ cL) l yL_setSmall wsL_setSmall ({ frames := 8, cells := 1, slots := 6, locals := 126 } : Room) [.ref (ad 0), .int x, .ref oa] ((wX ad cI cZ acc net tacc tnet flo bnd frm too amt pri wai byp ldr bor due plg clo pap cnd small price cut proc (nI mk) (nI lm) (nI le)) ++ [(oa, .inl (cL, 1, .inr (.inl og)))]) (fun r9 _ => r9 = 1) (fun _ => ((wX ad cI cZ acc net tacc tnet flo bnd frm too amt pri wai byp ldr bor due plg clo pap cnd small price cut proc (nI mk) (nI lm) (nI le)) ++ [(oa, .inl (cL, 1, .inr (.inl og)))])) 1 6 := by
  refine zMi.ofH (ret := (some .int)) (cc := cL_setSmall) (nL := 4) (own := RL) (by decide +kernel) rfl [(0, .ref (ad 0)), (1, .int x), (2, .ref oa)] rfl (Nat.le_of_ble_eq_true rfl) rfl ?_
  intro A p e s m args below meth c C hmn htab
  refine z_aload_n C dL_setSmall_0 rfl 2 rfl ?_
  refine z_iconst C (v := 0) dL_setSmall_1 (by decide) ?_
  refine z_aload_n C dL_setSmall_2 rfl 0 rfl ?_
  refine z_iload_n C dL_setSmall_3 rfl 1 rfl ?_
  refine z_callVx C (As := [.int x]) (rest := [.int 0, .ref oa]) (c_X4_setSmall_b1 l hfl sa D cI cZ cL ad acc net tacc tnet flo bnd frm too amt pri wai byp ldr bor due plg clo pap cnd small price cut proc mk lm le x (by first | assumption | omega)) (cwV 1 C.2.2.2.2.1 gL_setSmall_X4_setSmall rfl rfl rfl (by decide +kernel) ⟨Nat.le_of_ble_eq_true rfl, Nat.le_of_ble_eq_true rfl⟩) 0 rfl rfl rfl (zSub.of (wr := [(oa, .inl (cL, 1, .inr (.inl og)))]) [0, 1, 2, 3, 4, 5, 6, 7, 8, 9, 10, 11, 12, 13, 14, 15, 16, 17, 18, 19, 20, 21, 22, 23, 24] [25] [1, 2, 3, 4, 5, 6, 7, 8, 9, 10, 11, 12, 13, 14, 15, 16, 17, 18, 19, 20, 21, 22, 23, 24, 25, 0] rfl rfl rfl rfl (by decide) rfl rfl) rfl (Nat.le_of_ble_eq_true rfl) ⟨Nat.le_of_ble_eq_true rfl, Nat.le_of_ble_eq_true rfl⟩ dL_setSmall_4 ?_
  refine z_catch (E := "java/lang/IllegalArgumentException") (name := "java/lang/IllegalArgumentException") C [] ⟨0, 9, 12, 15⟩ [] htab (fun z hz => absurd hz List.not_mem_nil) (by decide) (by decide) m_L_setSmall_c15 (by decide) rfl (fun q_1 => ?_)
  refine z_astore_n C dL_setSmall_12 rfl (by decide) [(0, .ref (ad 0)), (1, .int x), (2, .ref oa), (3, .ref q_1)] [1, 2, 3, 0] rfl ?_
  refine z_iconst C (v := 1) dL_setSmall_13 (by decide) ?_
  exact z_iret C () rfl rfl (by decide) (by decide) dL_setSmall_14
set_option maxHeartbeats 4000000 in
set_option maxRecDepth 100000 in
theorem w_queued_ok (l : Launch) (sa : Nat → Nat) (D : va_G) (cI cZ cL : ClassId) (ad : Nat → Nat) (acc net tacc tnet flo bnd frm too amt pri wai byp ldr bor due plg clo pap cnd : Nat → Int32) (small price cut proc : Int32) (mk lm le : Nat) (oa : Nat) (og : Nat → Int64) (b : Nat) (k : Nat) (hb : b < 5) (hk : k < 2147483648) (hmk : mk ≤ 60) (hfrm : wf5 mk frm) (htoo : wf5 mk too) (hbyp : bypOK byp pri mk) : zMi (T := Unit) sa D vwCl (zty cI cZ cL) l yL_queued wsL_queued ({ frames := 8, cells := 0, slots := 0, locals := 124 } : Room) [.ref (ad 0), .int (nI b), .int (nI k), .ref oa] ((wX ad cI cZ acc net tacc tnet flo bnd frm too amt pri wai byp ldr bor due plg clo pap cnd small price cut proc (nI mk) (nI lm) (nI le)) ++ [(oa, .inl (cL, 1, .inr (.inl og)))]) (fun r9 _ => r9 = 0) (fun _ => ((wX ad cI cZ acc net tacc tnet flo bnd frm too amt pri wai byp ldr bor due plg clo pap cnd small price cut proc (nI mk) (nI lm) (nI le)) ++ [(oa, .inl (cL, 1, .inr (.inl (vp_updL og 0 ((oI (atQ (ordL pri mk) (isq wai frm b) k)).toInt64)))))])) 0 0 := by
  refine zMi.ofH (ret := (some .int)) (cc := cL_queued) (nL := 5) (own := RL) (by decide +kernel) rfl [(0, .ref (ad 0)), (1, .int (nI b)), (2, .int (nI k)), (3, .ref oa)] rfl (Nat.le_of_ble_eq_true rfl) rfl ?_
  intro A p e s m args below meth c C hmn htab
  refine z_aload_n C dL_queued_0 rfl 3 rfl ?_
  refine z_iconst C (v := 0) dL_queued_1 (by decide) ?_
  refine z_aload_n C dL_queued_2 rfl 0 rfl ?_
  refine z_iload_n C dL_queued_3 rfl 1 rfl ?_
  refine z_iload_n C dL_queued_4 rfl 2 rfl ?_
  refine z_callVi C (T := Unit) (As := [.int (nI b), .int (nI k)]) (rest := [.int 0, .ref oa]) (ws' := fun _ => ((wX ad cI cZ acc net tacc tnet flo bnd frm too amt pri wai byp ldr bor due plg clo pap cnd small price cut proc (nI mk) (nI lm) (nI le)) ++ [(oa, .inl (cL, 1, .inr (.inl og)))])) (c_X4_queued_ok l sa D cI cZ cL ad acc net tacc tnet flo bnd frm too amt pri wai byp ldr bor due plg clo pap cnd small price cut proc mk lm le b k (by first | assumption | omega) (by first | assumption | omega) (by first | assumption | omega) (by first | assumption | omega) (by first | assumption | omega) (by first | assumption | omega)) (cwV 2 C.2.2.2.2.1 gL_queued_X4_queued rfl rfl rfl (by decide +kernel) ⟨Nat.le_of_ble_eq_true rfl, Nat.le_of_ble_eq_true rfl⟩) 0 rfl rfl rfl (fun _ => (zSub.of (wr := [(oa, .inl (cL, 1, .inr (.inl og)))]) [0, 1, 2, 3, 4, 5, 6, 7, 8, 9, 10, 11, 12, 13, 14, 15, 16, 17, 18, 19, 20, 21, 22, 23, 24] [25] [1, 2, 3, 4, 5, 6, 7, 8, 9, 10, 11, 12, 13, 14, 15, 16, 17, 18, 19, 20, 21, 22, 23, 24, 25, 0] rfl rfl rfl rfl (by decide) rfl rfl)) (zIn.of [0, 1, 2, 3, 4, 5, 6, 7, 8, 9, 10, 11, 12, 13, 14, 15, 16, 17, 18, 19, 20, 21, 22, 23, 24] rfl rfl) rfl (Nat.le_of_ble_eq_true rfl) ⟨Nat.le_of_ble_eq_true rfl, Nat.le_of_ble_eq_true rfl⟩ dL_queued_5 (fun r_1 _ h_2 => ?_)
  obtain rfl : r_1 = (oI (atQ (ordL pri mk) (isq wai frm b) k)) := h_2
  refine z_i2l C (v := ((oI (atQ (ordL pri mk) (isq wai frm b) k))).toInt64) dL_queued_8 rfl ?_
  refine z_last C 25 2 rfl rfl 0 (nI_clamp (n := 0) (by decide)) (vp_in_nI (n := 0) (by decide) (by decide)) dL_queued_9 ((wX ad cI cZ acc net tacc tnet flo bnd frm too amt pri wai byp ldr bor due plg clo pap cnd small price cut proc (nI mk) (nI lm) (nI le)) ++ [(oa, .inl (cL, 1, .inr (.inl (vp_updL og 0 ((oI (atQ (ordL pri mk) (isq wai frm b) k))).toInt64))))]) rfl ?_
  refine z_goto C (tgt := 17) dL_queued_10 (by decide) ?_
  refine z_iconst C (v := 0) dL_queued_17 (by decide) ?_
  exact z_iret C () rfl rfl (by decide) (by decide) dL_queued_18
set_option maxHeartbeats 4000000 in
set_option maxRecDepth 100000 in
theorem w_queued_b1 (l : Launch) (hfl : l.stackTraces = false) (sa : Nat → Nat) (D : va_G) (cI cZ cL : ClassId) (ad : Nat → Nat) (acc net tacc tnet flo bnd frm too amt pri wai byp ldr bor due plg clo pap cnd : Nat → Int32) (small price cut proc : Int32) (mk lm le : Nat) (oa : Nat) (og : Nat → Int64) (b : Int32) (k : Int32) (hb : b < 0 ∨ 5 ≤ b) : zMi (T := Unit) sa D vwCl (zty cI cZ cL) l yL_queued wsL_queued ({ frames := 8, cells := 1, slots := 6, locals := 124 } : Room) [.ref (ad 0), .int b, .int k, .ref oa] ((wX ad cI cZ acc net tacc tnet flo bnd frm too amt pri wai byp ldr bor due plg clo pap cnd small price cut proc (nI mk) (nI lm) (nI le)) ++ [(oa, .inl (cL, 1, .inr (.inl og)))]) (fun r9 _ => r9 = 1) (fun _ => ((wX ad cI cZ acc net tacc tnet flo bnd frm too amt pri wai byp ldr bor due plg clo pap cnd small price cut proc (nI mk) (nI lm) (nI le)) ++ [(oa, .inl (cL, 1, .inr (.inl og)))])) 1 6 := by
  refine zMi.ofH (ret := (some .int)) (cc := cL_queued) (nL := 5) (own := RL) (by decide +kernel) rfl [(0, .ref (ad 0)), (1, .int b), (2, .int k), (3, .ref oa)] rfl (Nat.le_of_ble_eq_true rfl) rfl ?_
  intro A p e s m args below meth c C hmn htab
  refine z_aload_n C dL_queued_0 rfl 3 rfl ?_
  refine z_iconst C (v := 0) dL_queued_1 (by decide) ?_
  refine z_aload_n C dL_queued_2 rfl 0 rfl ?_
  refine z_iload_n C dL_queued_3 rfl 1 rfl ?_
  refine z_iload_n C dL_queued_4 rfl 2 rfl ?_
  refine z_callVx C (As := [.int b, .int k]) (rest := [.int 0, .ref oa]) (c_X4_queued_b1 l hfl sa D cI cZ cL ad acc net tacc tnet flo bnd frm too amt pri wai byp ldr bor due plg clo pap cnd small price cut proc mk lm le b k (by first | assumption | omega)) (cwV 2 C.2.2.2.2.1 gL_queued_X4_queued rfl rfl rfl (by decide +kernel) ⟨Nat.le_of_ble_eq_true rfl, Nat.le_of_ble_eq_true rfl⟩) 0 rfl rfl rfl (zSub.of (wr := [(oa, .inl (cL, 1, .inr (.inl og)))]) [0, 1, 2, 3, 4, 5, 6, 7, 8, 9, 10, 11, 12, 13, 14, 15, 16, 17, 18, 19, 20, 21, 22, 23, 24] [25] [1, 2, 3, 4, 5, 6, 7, 8, 9, 10, 11, 12, 13, 14, 15, 16, 17, 18, 19, 20, 21, 22, 23, 24, 25, 0] rfl rfl rfl rfl (by decide) rfl rfl) rfl (Nat.le_of_ble_eq_true rfl) ⟨Nat.le_of_ble_eq_true rfl, Nat.le_of_ble_eq_true rfl⟩ dL_queued_5 ?_
  refine z_catch (E := "java/lang/IndexOutOfBoundsException") (name := "java/lang/IndexOutOfBoundsException") C [] ⟨0, 10, 13, 13⟩ [] htab (fun z hz => absurd hz List.not_mem_nil) (by decide) (by decide) m_L_queued_c13 (by decide) rfl (fun q_1 => ?_)
  refine z_astore C dL_queued_13 (by decide) [(0, .ref (ad 0)), (1, .int b), (2, .int k), (3, .ref oa), (4, .ref q_1)] [1, 2, 3, 4, 0] rfl ?_
  refine z_iconst C (v := 1) dL_queued_15 (by decide) ?_
  exact z_iret C () rfl rfl (by decide) (by decide) dL_queued_16
set_option maxHeartbeats 4000000 in
set_option maxRecDepth 100000 in
theorem w_queued_b2 (l : Launch) (hfl : l.stackTraces = false) (sa : Nat → Nat) (D : va_G) (cI cZ cL : ClassId) (ad : Nat → Nat) (acc net tacc tnet flo bnd frm too amt pri wai byp ldr bor due plg clo pap cnd : Nat → Int32) (small price cut proc : Int32) (mk lm le : Nat) (oa : Nat) (og : Nat → Int64) (b : Nat) (k : Int32) (hb : b < 5) (hk : k < 0) : zMi (T := Unit) sa D vwCl (zty cI cZ cL) l yL_queued wsL_queued ({ frames := 8, cells := 1, slots := 6, locals := 124 } : Room) [.ref (ad 0), .int (nI b), .int k, .ref oa] ((wX ad cI cZ acc net tacc tnet flo bnd frm too amt pri wai byp ldr bor due plg clo pap cnd small price cut proc (nI mk) (nI lm) (nI le)) ++ [(oa, .inl (cL, 1, .inr (.inl og)))]) (fun r9 _ => r9 = 1) (fun _ => ((wX ad cI cZ acc net tacc tnet flo bnd frm too amt pri wai byp ldr bor due plg clo pap cnd small price cut proc (nI mk) (nI lm) (nI le)) ++ [(oa, .inl (cL, 1, .inr (.inl og)))])) 1 6 := by
  refine zMi.ofH (ret := (some .int)) (cc := cL_queued) (nL := 5) (own := RL) (by decide +kernel) rfl [(0, .ref (ad 0)), (1, .int (nI b)), (2, .int k), (3, .ref oa)] rfl (Nat.le_of_ble_eq_true rfl) rfl ?_
  intro A p e s m args below meth c C hmn htab
  refine z_aload_n C dL_queued_0 rfl 3 rfl ?_
  refine z_iconst C (v := 0) dL_queued_1 (by decide) ?_
  refine z_aload_n C dL_queued_2 rfl 0 rfl ?_
  refine z_iload_n C dL_queued_3 rfl 1 rfl ?_
  refine z_iload_n C dL_queued_4 rfl 2 rfl ?_
  refine z_callVx C (As := [.int (nI b), .int k]) (rest := [.int 0, .ref oa]) (c_X4_queued_b2 l hfl sa D cI cZ cL ad acc net tacc tnet flo bnd frm too amt pri wai byp ldr bor due plg clo pap cnd small price cut proc mk lm le b k (by first | assumption | omega) (by first | assumption | omega)) (cwV 2 C.2.2.2.2.1 gL_queued_X4_queued rfl rfl rfl (by decide +kernel) ⟨Nat.le_of_ble_eq_true rfl, Nat.le_of_ble_eq_true rfl⟩) 0 rfl rfl rfl (zSub.of (wr := [(oa, .inl (cL, 1, .inr (.inl og)))]) [0, 1, 2, 3, 4, 5, 6, 7, 8, 9, 10, 11, 12, 13, 14, 15, 16, 17, 18, 19, 20, 21, 22, 23, 24] [25] [1, 2, 3, 4, 5, 6, 7, 8, 9, 10, 11, 12, 13, 14, 15, 16, 17, 18, 19, 20, 21, 22, 23, 24, 25, 0] rfl rfl rfl rfl (by decide) rfl rfl) rfl (Nat.le_of_ble_eq_true rfl) ⟨Nat.le_of_ble_eq_true rfl, Nat.le_of_ble_eq_true rfl⟩ dL_queued_5 ?_
  refine z_catch (E := "java/lang/IndexOutOfBoundsException") (name := "java/lang/IndexOutOfBoundsException") C [] ⟨0, 10, 13, 13⟩ [] htab (fun z hz => absurd hz List.not_mem_nil) (by decide) (by decide) m_L_queued_c13 (by decide) rfl (fun q_1 => ?_)
  refine z_astore C dL_queued_13 (by decide) [(0, .ref (ad 0)), (1, .int (nI b)), (2, .int k), (3, .ref oa), (4, .ref q_1)] [1, 2, 3, 4, 0] rfl ?_
  refine z_iconst C (v := 1) dL_queued_15 (by decide) ?_
  exact z_iret C () rfl rfl (by decide) (by decide) dL_queued_16
set_option maxHeartbeats 4000000 in
set_option maxRecDepth 100000 in
theorem w_why_ok (l : Launch) (sa : Nat → Nat) (D : va_G) (cI cZ cL : ClassId) (ad : Nat → Nat) (acc net tacc tnet flo bnd frm too amt pri wai byp ldr bor due plg clo pap cnd : Nat → Int32) (small price cut proc : Int32) (mk lm le : Nat) (oa : Nat) (og : Nat → Int64) (p9 : Nat) (hp : p9 < mk) (hmk : mk ≤ 60) (hfrm : wf5 mk frm) (htoo : wf5 mk too) : zMi (T := Unit) sa D vwCl (zty cI cZ cL) l yL_why wsL_why ({ frames := 8, cells := 0, slots := 0, locals := 124 } : Room) [.ref (ad 0), .int (nI p9), .ref oa] ((wX ad cI cZ acc net tacc tnet flo bnd frm too amt pri wai byp ldr bor due plg clo pap cnd small price cut proc (nI mk) (nI lm) (nI le)) ++ [(oa, .inl (cL, 1, .inr (.inl og)))]) (fun r9 _ => r9 = 0) (fun _ => ((wX ad cI cZ acc net tacc tnet flo bnd frm too amt pri wai byp ldr bor due plg clo pap cnd small price cut proc (nI mk) (nI lm) (nI le)) ++ [(oa, .inl (cL, 1, .inr (.inl (vp_updL og 0 (((obs acc net flo bnd frm too amt wai p9)).toInt64)))))])) 0 0 := by
  refine zMi.ofH (ret := (some .int)) (cc := cL_why) (nL := 4) (own := RL) (by decide +kernel) rfl [(0, .ref (ad 0)), (1, .int (nI p9)), (2, .ref oa)] rfl (Nat.le_of_ble_eq_true rfl) rfl ?_
  intro A p e s m args below meth c C hmn htab
  refine z_aload_n C dL_why_0 rfl 2 rfl ?_
  refine z_iconst C (v := 0) dL_why_1 (by decide) ?_
  refine z_aload_n C dL_why_2 rfl 0 rfl ?_
  refine z_iload_n C dL_why_3 rfl 1 rfl ?_
  refine z_callVi C (T := Unit) (As := [.int (nI p9)]) (rest := [.int 0, .ref oa]) (ws' := fun _ => ((wX ad cI cZ acc net tacc tnet flo bnd frm too amt pri wai byp ldr bor due plg clo pap cnd small price cut proc (nI mk) (nI lm) (nI le)) ++ [(oa, .inl (cL, 1, .inr (.inl og)))])) (c_X4_why_ok l sa D cI cZ cL ad acc net tacc tnet flo bnd frm too amt pri wai byp ldr bor due plg clo pap cnd small price cut proc mk lm le p9 (by first | assumption | omega) (by first | assumption | omega) (by first | assumption | omega) (by first | assumption | omega)) (cwV 1 C.2.2.2.2.1 gL_why_X4_why rfl rfl rfl (by decide +kernel) ⟨Nat.le_of_ble_eq_true rfl, Nat.le_of_ble_eq_true rfl⟩) 0 rfl rfl rfl (fun _ => (zSub.of (wr := [(oa, .inl (cL, 1, .inr (.inl og)))]) [0, 1, 2, 3, 4, 5, 6, 7, 8, 9, 10, 11, 12, 13, 14, 15, 16, 17, 18, 19, 20, 21, 22, 23, 24] [25] [1, 2, 3, 4, 5, 6, 7, 8, 9, 10, 11, 12, 13, 14, 15, 16, 17, 18, 19, 20, 21, 22, 23, 24, 25, 0] rfl rfl rfl rfl (by decide) rfl rfl)) (zIn.of [0, 1, 2, 3, 4, 5, 6, 7, 8, 9, 10, 11, 12, 13, 14, 15, 16, 17, 18, 19, 20, 21, 22, 23, 24] rfl rfl) rfl (Nat.le_of_ble_eq_true rfl) ⟨Nat.le_of_ble_eq_true rfl, Nat.le_of_ble_eq_true rfl⟩ dL_why_4 (fun r_1 _ h_2 => ?_)
  obtain rfl : r_1 = (obs acc net flo bnd frm too amt wai p9) := h_2
  refine z_i2l C (v := ((obs acc net flo bnd frm too amt wai p9)).toInt64) dL_why_7 rfl ?_
  refine z_last C 25 2 rfl rfl 0 (nI_clamp (n := 0) (by decide)) (vp_in_nI (n := 0) (by decide) (by decide)) dL_why_8 ((wX ad cI cZ acc net tacc tnet flo bnd frm too amt pri wai byp ldr bor due plg clo pap cnd small price cut proc (nI mk) (nI lm) (nI le)) ++ [(oa, .inl (cL, 1, .inr (.inl (vp_updL og 0 ((obs acc net flo bnd frm too amt wai p9)).toInt64))))]) rfl ?_
  refine z_goto C (tgt := 15) dL_why_9 (by decide) ?_
  refine z_iconst C (v := 0) dL_why_15 (by decide) ?_
  exact z_iret C () rfl rfl (by decide) (by decide) dL_why_16
set_option maxHeartbeats 4000000 in
set_option maxRecDepth 100000 in
theorem w_why_b1 (l : Launch) (hfl : l.stackTraces = false) (sa : Nat → Nat) (D : va_G) (cI cZ cL : ClassId) (ad : Nat → Nat) (acc net tacc tnet flo bnd frm too amt pri wai byp ldr bor due plg clo pap cnd : Nat → Int32) (small price cut proc : Int32) (mk lm le : Nat) (oa : Nat) (og : Nat → Int64) (p9 : Int32) (hp : p9 < 0 ∨ nI mk ≤ p9) : zMi (T := Unit) sa D vwCl (zty cI cZ cL) l yL_why wsL_why ({ frames := 8, cells := 1, slots := 6, locals := 124 } : Room) [.ref (ad 0), .int p9, .ref oa] ((wX ad cI cZ acc net tacc tnet flo bnd frm too amt pri wai byp ldr bor due plg clo pap cnd small price cut proc (nI mk) (nI lm) (nI le)) ++ [(oa, .inl (cL, 1, .inr (.inl og)))]) (fun r9 _ => r9 = 1) (fun _ => ((wX ad cI cZ acc net tacc tnet flo bnd frm too amt pri wai byp ldr bor due plg clo pap cnd small price cut proc (nI mk) (nI lm) (nI le)) ++ [(oa, .inl (cL, 1, .inr (.inl og)))])) 1 6 := by
  refine zMi.ofH (ret := (some .int)) (cc := cL_why) (nL := 4) (own := RL) (by decide +kernel) rfl [(0, .ref (ad 0)), (1, .int p9), (2, .ref oa)] rfl (Nat.le_of_ble_eq_true rfl) rfl ?_
  intro A p e s m args below meth c C hmn htab
  refine z_aload_n C dL_why_0 rfl 2 rfl ?_
  refine z_iconst C (v := 0) dL_why_1 (by decide) ?_
  refine z_aload_n C dL_why_2 rfl 0 rfl ?_
  refine z_iload_n C dL_why_3 rfl 1 rfl ?_
  refine z_callVx C (As := [.int p9]) (rest := [.int 0, .ref oa]) (c_X4_why_b1 l hfl sa D cI cZ cL ad acc net tacc tnet flo bnd frm too amt pri wai byp ldr bor due plg clo pap cnd small price cut proc mk lm le p9 (by first | assumption | omega)) (cwV 1 C.2.2.2.2.1 gL_why_X4_why rfl rfl rfl (by decide +kernel) ⟨Nat.le_of_ble_eq_true rfl, Nat.le_of_ble_eq_true rfl⟩) 0 rfl rfl rfl (zSub.of (wr := [(oa, .inl (cL, 1, .inr (.inl og)))]) [0, 1, 2, 3, 4, 5, 6, 7, 8, 9, 10, 11, 12, 13, 14, 15, 16, 17, 18, 19, 20, 21, 22, 23, 24] [25] [1, 2, 3, 4, 5, 6, 7, 8, 9, 10, 11, 12, 13, 14, 15, 16, 17, 18, 19, 20, 21, 22, 23, 24, 25, 0] rfl rfl rfl rfl (by decide) rfl rfl) rfl (Nat.le_of_ble_eq_true rfl) ⟨Nat.le_of_ble_eq_true rfl, Nat.le_of_ble_eq_true rfl⟩ dL_why_4 ?_
  refine z_catch (E := "java/lang/IndexOutOfBoundsException") (name := "java/lang/IndexOutOfBoundsException") C [] ⟨0, 9, 12, 13⟩ [] htab (fun z hz => absurd hz List.not_mem_nil) (by decide) (by decide) m_L_why_c13 (by decide) rfl (fun q_1 => ?_)
  refine z_astore_n C dL_why_12 rfl (by decide) [(0, .ref (ad 0)), (1, .int p9), (2, .ref oa), (3, .ref q_1)] [1, 2, 3, 0] rfl ?_
  refine z_iconst C (v := 1) dL_why_13 (by decide) ?_
  exact z_iret C () rfl rfl (by decide) (by decide) dL_why_14
set_option maxHeartbeats 4000000 in
set_option maxRecDepth 100000 in
theorem w_canAny_ok (l : Launch) (sa : Nat → Nat) (D : va_G) (cI cZ cL : ClassId) (ad : Nat → Nat) (acc net tacc tnet flo bnd frm too amt pri wai byp ldr bor due plg clo pap cnd : Nat → Int32) (small price cut proc : Int32) (mk lm le : Nat) (oa : Nat) (og : Nat → Int64)  (hmk : mk ≤ 60) (hfrm : wf5 mk frm) (htoo : wf5 mk too) (hc10 : cntW wai mk ≤ 10) : zMi (T := (Nat → Int32) × (Nat → Int32) × (Nat → Int32)) sa D vwCl (zty cI cZ cL) l yL_canAny wsL_canAny ({ frames := 7, cells := 0, slots := 0, locals := 111 } : Room) [.ref (ad 0), .ref oa] ((wX ad cI cZ acc net tacc tnet flo bnd frm too amt pri wai byp ldr bor due plg clo pap cnd small price cut proc (nI mk) (nI lm) (nI le)) ++ [(oa, .inl (cL, 1, .inr (.inl og)))]) (fun r9 u => r9 = 0) (fun u => ((wX ad cI cZ acc net u.2.1 u.2.2 flo bnd frm too amt pri wai byp ldr bor due plg clo pap u.1 small price cut proc (nI mk) (nI lm) (nI le)) ++ [(oa, .inl (cL, 1, .inr (.inl (vp_updL og 0 ((if anyB (okS frm too amt flo bnd (fun k => (wlL wai mk)[k]?) (wlL wai mk).length acc net) (2 ^ (wlL wai mk).length) = true then (1 : Int64) else 0))))))])) 0 0 := by
  refine zMi.ofH (ret := (some .int)) (cc := cL_canAny) (nL := 3) (own := RL) (by decide +kernel) rfl [(0, .ref (ad 0)), (1, .ref oa)] rfl (Nat.le_of_ble_eq_true rfl) rfl ?_
  intro A p e s m args below meth c C hmn htab
  refine z_aload_n C dL_canAny_0 rfl 1 rfl ?_
  refine z_iconst C (v := 0) dL_canAny_1 (by decide) ?_
  refine z_aload_n C dL_canAny_2 rfl 0 rfl ?_
  refine z_case (anyB (okS frm too amt flo bnd (fun k => (wlL wai mk)[k]?) (wlL wai mk).length acc net) (2 ^ (wlL wai mk).length) = true) (fun hp_1 => ?_) (fun hp_1 => ?_)
  · skip
    refine z_callVi C (As := []) (rest := [.int 0, .ref oa]) (ws' := fun u_2 => ((wX ad cI cZ acc net u_2.2.1 u_2.2.2 flo bnd frm too amt pri wai byp ldr bor due plg clo pap u_2.1 small price cut proc (nI mk) (nI lm) (nI le)) ++ [(oa, .inl (cL, 1, .inr (.inl og)))])) (c_X4_canAny_ok l sa D cI cZ cL ad acc net tacc tnet flo bnd frm too amt pri wai byp ldr bor due plg clo pap cnd small price cut proc mk lm le  (by first | assumption | omega) (by first | assumption | omega) (by first | assumption | omega) (by first | assumption | omega)) (cwV 0 C.2.2.2.2.1 gL_canAny_X4_canAny rfl rfl rfl (by decide +kernel) ⟨Nat.le_of_ble_eq_true rfl, Nat.le_of_ble_eq_true rfl⟩) 0 rfl rfl rfl (fun _ => (zSub.of (wr := [(oa, .inl (cL, 1, .inr (.inl og)))]) [0, 1, 2, 3, 4, 5, 6, 7, 8, 9, 10, 11, 12, 13, 14, 15, 16, 17, 18, 19, 20, 21, 22, 23, 24] [25] [1, 2, 3, 4, 5, 6, 7, 8, 9, 10, 11, 12, 13, 14, 15, 16, 17, 18, 19, 20, 21, 22, 23, 24, 25, 0] rfl rfl rfl rfl (by decide) rfl rfl)) (zIn.of [0, 1, 2, 3, 4, 5, 6, 7, 8, 9, 10, 11, 12, 13, 14, 15, 16, 17, 18, 19, 20, 21, 22, 23, 24] rfl rfl) rfl (Nat.le_of_ble_eq_true rfl) ⟨Nat.le_of_ble_eq_true rfl, Nat.le_of_ble_eq_true rfl⟩ dL_canAny_3 (fun r_3 u_2 h_4 => ?_)
    obtain rfl : r_3 = 1 := h_4.trans (if_pos hp_1)
    refine z_if_eq C (tgt := 13) dL_canAny_6 (by decide) (fun h => absurd h (by decide)) (fun _ => ?_)
    refine z_lconst C (v := 1) dL_canAny_9 (by decide) ?_
    refine z_goto C (tgt := 14) dL_canAny_10 (by decide) ?_
    refine z_last C 25 2 rfl rfl 0 (nI_clamp (n := 0) (by decide)) (vp_in_nI (n := 0) (by decide) (by decide)) dL_canAny_14 ((wX ad cI cZ acc net u_2.2.1 u_2.2.2 flo bnd frm too amt pri wai byp ldr bor due plg clo pap u_2.1 small price cut proc (nI mk) (nI lm) (nI le)) ++ [(oa, .inl (cL, 1, .inr (.inl (vp_updL og 0 1))))]) rfl ?_
    refine z_goto C (tgt := 21) dL_canAny_15 (by decide) ?_
    refine z_iconst C (v := 0) dL_canAny_21 (by decide) ?_
    exact z_iret C u_2 rfl (by first | rw [if_pos hp_1] | rw [if_neg hp_1]) (by decide) (by decide) dL_canAny_22
  · skip
    refine z_callVi C (As := []) (rest := [.int 0, .ref oa]) (ws' := fun u_5 => ((wX ad cI cZ acc net u_5.2.1 u_5.2.2 flo bnd frm too amt pri wai byp ldr bor due plg clo pap u_5.1 small price cut proc (nI mk) (nI lm) (nI le)) ++ [(oa, .inl (cL, 1, .inr (.inl og)))])) (c_X4_canAny_ok l sa D cI cZ cL ad acc net tacc tnet flo bnd frm too amt pri wai byp ldr bor due plg clo pap cnd small price cut proc mk lm le  (by first | assumption | omega) (by first | assumption | omega) (by first | assumption | omega) (by first | assumption | omega)) (cwV 0 C.2.2.2.2.1 gL_canAny_X4_canAny rfl rfl rfl (by decide +kernel) ⟨Nat.le_of_ble_eq_true rfl, Nat.le_of_ble_eq_true rfl⟩) 0 rfl rfl rfl (fun _ => (zSub.of (wr := [(oa, .inl (cL, 1, .inr (.inl og)))]) [0, 1, 2, 3, 4, 5, 6, 7, 8, 9, 10, 11, 12, 13, 14, 15, 16, 17, 18, 19, 20, 21, 22, 23, 24] [25] [1, 2, 3, 4, 5, 6, 7, 8, 9, 10, 11, 12, 13, 14, 15, 16, 17, 18, 19, 20, 21, 22, 23, 24, 25, 0] rfl rfl rfl rfl (by decide) rfl rfl)) (zIn.of [0, 1, 2, 3, 4, 5, 6, 7, 8, 9, 10, 11, 12, 13, 14, 15, 16, 17, 18, 19, 20, 21, 22, 23, 24] rfl rfl) rfl (Nat.le_of_ble_eq_true rfl) ⟨Nat.le_of_ble_eq_true rfl, Nat.le_of_ble_eq_true rfl⟩ dL_canAny_3 (fun r_6 u_5 h_7 => ?_)
    obtain rfl : r_6 = 0 := h_7.trans (if_neg hp_1)
    refine z_if_eq C (tgt := 13) dL_canAny_6 (by decide) (fun _ => ?_) (fun h => absurd h (by decide))
    refine z_lconst C (v := 0) dL_canAny_13 (by decide) ?_
    refine z_last C 25 2 rfl rfl 0 (nI_clamp (n := 0) (by decide)) (vp_in_nI (n := 0) (by decide) (by decide)) dL_canAny_14 ((wX ad cI cZ acc net u_5.2.1 u_5.2.2 flo bnd frm too amt pri wai byp ldr bor due plg clo pap u_5.1 small price cut proc (nI mk) (nI lm) (nI le)) ++ [(oa, .inl (cL, 1, .inr (.inl (vp_updL og 0 0))))]) rfl ?_
    refine z_goto C (tgt := 21) dL_canAny_15 (by decide) ?_
    refine z_iconst C (v := 0) dL_canAny_21 (by decide) ?_
    exact z_iret C u_5 rfl (by first | rw [if_pos hp_1] | rw [if_neg hp_1]) (by decide) (by decide) dL_canAny_22
set_option maxHeartbeats 4000000 in
set_option maxRecDepth 100000 in
theorem w_canAny_b1 (l : Launch) (hfl : l.stackTraces = false) (sa : Nat → Nat) (D : va_G) (cI cZ cL : ClassId) (ad : Nat → Nat) (acc net tacc tnet flo bnd frm too amt pri wai byp ldr bor due plg clo pap cnd : Nat → Int32) (small price cut proc : Int32) (mk lm le : Nat) (oa : Nat) (og : Nat → Int64)  (hmk : mk ≤ 60) (hc10 : 10 < cntW wai mk) : zMi (T := Unit) sa D vwCl (zty cI cZ cL) l yL_canAny wsL_canAny ({ frames := 7, cells := 1, slots := 6, locals := 104 } : Room) [.ref (ad 0), .ref oa] ((wX ad cI cZ acc net tacc tnet flo bnd frm too amt pri wai byp ldr bor due plg clo pap cnd small price cut proc (nI mk) (nI lm) (nI le)) ++ [(oa, .inl (cL, 1, .inr (.inl og)))]) (fun r9 _ => r9 = 1) (fun _ => ((wX ad cI cZ acc net tacc tnet flo bnd frm too amt pri wai byp ldr bor due plg clo pap cnd small price cut proc (nI mk) (nI lm) (nI le)) ++ [(oa, .inl (cL, 1, .inr (.inl og)))])) 1 6 := by
  refine zMi.ofH (ret := (some .int)) (cc := cL_canAny) (nL := 3) (own := RL) (by decide +kernel) rfl [(0, .ref (ad 0)), (1, .ref oa)] rfl (Nat.le_of_ble_eq_true rfl) rfl ?_
  intro A p e s m args below meth c C hmn htab
  refine z_aload_n C dL_canAny_0 rfl 1 rfl ?_
  refine z_iconst C (v := 0) dL_canAny_1 (by decide) ?_
  refine z_aload_n C dL_canAny_2 rfl 0 rfl ?_
  refine z_callVx C (As := []) (rest := [.int 0, .ref oa]) (c_X4_canAny_b1 l hfl sa D cI cZ cL ad acc net tacc tnet flo bnd frm too amt pri wai byp ldr bor due plg clo pap cnd small price cut proc mk lm le  (by first | assumption | omega) (by first | assumption | omega)) (cwV 0 C.2.2.2.2.1 gL_canAny_X4_canAny rfl rfl rfl (by decide +kernel) ⟨Nat.le_of_ble_eq_true rfl, Nat.le_of_ble_eq_true rfl⟩) 0 rfl rfl rfl (zSub.of (wr := [(oa, .inl (cL, 1, .inr (.inl og)))]) [0, 1, 2, 3, 4, 5, 6, 7, 8, 9, 10, 11, 12, 13, 14, 15, 16, 17, 18, 19, 20, 21, 22, 23, 24] [25] [1, 2, 3, 4, 5, 6, 7, 8, 9, 10, 11, 12, 13, 14, 15, 16, 17, 18, 19, 20, 21, 22, 23, 24, 25, 0] rfl rfl rfl rfl (by decide) rfl rfl) rfl (Nat.le_of_ble_eq_true rfl) ⟨Nat.le_of_ble_eq_true rfl, Nat.le_of_ble_eq_true rfl⟩ dL_canAny_3 ?_
  refine z_catch (E := "java/lang/IllegalStateException") (name := "java/lang/IllegalStateException") C [] ⟨0, 15, 18, 17⟩ [] htab (fun z hz => absurd hz List.not_mem_nil) (by decide) (by decide) m_L_canAny_c17 (by decide) rfl (fun q_1 => ?_)
  refine z_astore_n C dL_canAny_18 rfl (by decide) [(0, .ref (ad 0)), (1, .ref oa), (2, .ref q_1)] [1, 2, 0] rfl ?_
  refine z_iconst C (v := 1) dL_canAny_19 (by decide) ?_
  exact z_iret C () rfl rfl (by decide) (by decide) dL_canAny_20
set_option maxHeartbeats 4000000 in
set_option maxRecDepth 100000 in
theorem w_setPrice_ok (l : Launch) (sa : Nat → Nat) (D : va_G) (cI cZ cL : ClassId) (ad : Nat → Nat) (acc net tacc tnet flo bnd frm too amt pri wai byp ldr bor due plg clo pap cnd : Nat → Int32) (small price cut proc : Int32) (mk lm le : Nat) (oa : Nat) (og : Nat → Int64) (p9 : Int32) (c9 : Int32) (h1 : ¬ p9 < 1) (h2 : ¬ 1000 < p9) (h3 : ¬ c9 < 0) (h4 : ¬ 1000 < c9) : zMi (T := Unit) sa D vwCl (zty cI cZ cL) l yL_setPrice wsL_setPrice ({ frames := 8, cells := 0, slots := 0, locals := 126 } : Room) [.ref (ad 0), .int p9, .int c9] ((wX ad cI cZ acc net tacc tnet flo bnd frm too amt pri wai byp ldr bor due plg clo pap cnd small price cut proc (nI mk) (nI lm) (nI le)) ++ [(oa, .inl (cL, 1, .inr (.inl og)))]) (fun r9 _ => r9 = 0) (fun _ => ((wX ad cI cZ acc net tacc tnet flo bnd frm too amt pri wai byp ldr bor due plg clo pap cnd small p9 c9 proc (nI mk) (nI lm) (nI le)) ++ [(oa, .inl (cL, 1, .inr (.inl og)))])) 0 0 := by
  refine zMi.ofH (ret := (some .int)) (cc := cL_setPrice) (nL := 4) (own := RL) (by decide +kernel) rfl [(0, .ref (ad 0)), (1, .int p9), (2, .int c9)] rfl (Nat.le_of_ble_eq_true rfl) rfl ?_
  intro A p e s m args below meth c C hmn htab
  refine z_aload_n C dL_setPrice_0 rfl 0 rfl ?_
  refine z_iload_n C dL_setPrice_1 rfl 1 rfl ?_
  refine z_iload_n C dL_setPrice_2 rfl 2 rfl ?_
  refine z_callVv C (T := Unit) (As := [.int p9, .int c9]) (rest := []) (ws' := fun _ => ((wX ad cI cZ acc net tacc tnet flo bnd frm too amt pri wai byp ldr bor due plg clo pap cnd small p9 c9 proc (nI mk) (nI lm) (nI le)) ++ [(oa, .inl (cL, 1, .inr (.inl og)))])) (c_X4_setPrice_ok l sa D cI cZ cL ad acc net tacc tnet flo bnd frm too amt pri wai byp ldr bor due plg clo pap cnd small price cut proc mk lm le p9 c9 (by first | assumption | omega) (by first | assumption | omega) (by first | assumption | omega) (by first | assumption | omega)) (cwV 2 C.2.2.2.2.1 gL_setPrice_X4_setPrice rfl rfl rfl (by decide +kernel) ⟨Nat.le_of_ble_eq_true rfl, Nat.le_of_ble_eq_true rfl⟩) 0 rfl rfl rfl (fun _ => (zSub.of (wr := [(oa, .inl (cL, 1, .inr (.inl og)))]) [0, 1, 2, 3, 4, 5, 6, 7, 8, 9, 10, 11, 12, 13, 14, 15, 16, 17, 18, 19, 20, 21, 22, 23, 24] [25] [1, 2, 3, 4, 5, 6, 7, 8, 9, 10, 11, 12, 13, 14, 15, 16, 17, 18, 19, 20, 21, 22, 23, 24, 25, 0] rfl rfl rfl rfl (by decide) rfl rfl)) (zIn.of [0, 1, 2, 3, 4, 5, 6, 7, 8, 9, 10, 11, 12, 13, 14, 15, 16, 17, 18, 19, 20, 21, 22, 23, 24] rfl rfl) rfl (Nat.le_of_ble_eq_true rfl) ⟨Nat.le_of_ble_eq_true rfl, Nat.le_of_ble_eq_true rfl⟩ dL_setPrice_3 (fun _ _ => ?_)
  refine z_goto C (tgt := 12) dL_setPrice_6 (by decide) ?_
  refine z_iconst C (v := 0) dL_setPrice_12 (by decide) ?_
  exact z_iret C () rfl rfl (by decide) (by decide) dL_setPrice_13
set_option maxHeartbeats 4000000 in
set_option maxRecDepth 100000 in
theorem w_setPrice_b1 (l : Launch) (hfl : l.stackTraces = false) (sa : Nat → Nat) (D : va_G) (cI cZ cL : ClassId) (ad : Nat → Nat) (acc net tacc tnet flo bnd frm too amt pri wai byp ldr bor due plg clo pap cnd : Nat → Int32) (small price cut proc : Int32) (mk lm le : Nat) (oa : Nat) (og : Nat → Int64) (p9 : Int32) (c9 : Int32) (hbad : p9 < 1 ∨ 1000 < p9 ∨ c9 < 0 ∨ 1000 < c9) : zMi (T := Unit) sa D vwCl (zty cI cZ cL) l yL_setPrice wsL_setPrice ({ frames := 8, cells := 1, slots := 6, locals := 126 } : Room) [.ref (ad 0), .int p9, .int c9] ((wX ad cI cZ acc net tacc tnet flo bnd frm too amt pri wai byp ldr bor due plg clo pap cnd small price cut proc (nI mk) (nI lm) (nI le)) ++ [(oa, .inl (cL, 1, .inr (.inl og)))]) (fun r9 _ => r9 = 1) (fun _ => ((wX ad cI cZ acc net tacc tnet flo bnd frm too amt pri wai byp ldr bor due plg clo pap cnd small price cut proc (nI mk) (nI lm) (nI le)) ++ [(oa, .inl (cL, 1, .inr (.inl og)))])) 1 6 := by
  refine zMi.ofH (ret := (some .int)) (cc := cL_setPrice) (nL := 4) (own := RL) (by decide +kernel) rfl [(0, .ref (ad 0)), (1, .int p9), (2, .int c9)] rfl (Nat.le_of_ble_eq_true rfl) rfl ?_
  intro A p e s m args below meth c C hmn htab
  refine z_aload_n C dL_setPrice_0 rfl 0 rfl ?_
  refine z_iload_n C dL_setPrice_1 rfl 1 rfl ?_
  refine z_iload_n C dL_setPrice_2 rfl 2 rfl ?_
  refine z_callVx C (As := [.int p9, .int c9]) (rest := []) (c_X4_setPrice_b1 l hfl sa D cI cZ cL ad acc net tacc tnet flo bnd frm too amt pri wai byp ldr bor due plg clo pap cnd small price cut proc mk lm le p9 c9 (by first | assumption | omega)) (cwV 2 C.2.2.2.2.1 gL_setPrice_X4_setPrice rfl rfl rfl (by decide +kernel) ⟨Nat.le_of_ble_eq_true rfl, Nat.le_of_ble_eq_true rfl⟩) 0 rfl rfl rfl (zSub.of (wr := [(oa, .inl (cL, 1, .inr (.inl og)))]) [0, 1, 2, 3, 4, 5, 6, 7, 8, 9, 10, 11, 12, 13, 14, 15, 16, 17, 18, 19, 20, 21, 22, 23, 24] [25] [1, 2, 3, 4, 5, 6, 7, 8, 9, 10, 11, 12, 13, 14, 15, 16, 17, 18, 19, 20, 21, 22, 23, 24, 25, 0] rfl rfl rfl rfl (by decide) rfl rfl) rfl (Nat.le_of_ble_eq_true rfl) ⟨Nat.le_of_ble_eq_true rfl, Nat.le_of_ble_eq_true rfl⟩ dL_setPrice_3 ?_
  refine z_catch (E := "java/lang/IllegalArgumentException") (name := "java/lang/IllegalArgumentException") C [] ⟨0, 6, 9, 15⟩ [] htab (fun z hz => absurd hz List.not_mem_nil) (by decide) (by decide) m_L_setPrice_c15 (by decide) rfl (fun q_1 => ?_)
  refine z_astore_n C dL_setPrice_9 rfl (by decide) [(0, .ref (ad 0)), (1, .int p9), (2, .int c9), (3, .ref q_1)] [1, 2, 3, 0] rfl ?_
  refine z_iconst C (v := 1) dL_setPrice_10 (by decide) ?_
  exact z_iret C () rfl rfl (by decide) (by decide) dL_setPrice_11
set_option maxHeartbeats 4000000 in
set_option maxRecDepth 100000 in
theorem w_lend_ok (l : Launch) (sa : Nat → Nat) (D : va_G) (cI cZ cL : ClassId) (ad : Nat → Nat) (acc net tacc tnet flo bnd frm too amt pri wai byp ldr bor due plg clo pap cnd : Nat → Int32) (small price cut proc : Int32) (mk lm le : Nat) (oa : Nat) (og : Nat → Int64) (b : Nat) (o : Nat) (am : Int32) (rt : Int32) (x : Int32) (hb : b < 5) (ho : o < 5) (hft : b ≠ o) (g1 : ¬ am < 1) (g2 : ¬ 100000 < am) (g3 : ¬ rt < 0) (g4 : ¬ 200 < rt) (g5 : ¬ x < 0) (g6 : ¬ 1000 < x) (hcb : clo b = 0) (hco : clo o = 0) (hlm : lm < 40) (k1 : ¬ pap o < x) (k2 : ¬ x * price * (1000 - cut) / 1000 < am) (k3 : ¬ acc b - am < flo b) : zMi (T := Unit) sa D vwCl (zty cI cZ cL) l yL_lend wsL_lend ({ frames := 8, cells := 0, slots := 0, locals := 131 } : Room) [.ref (ad 0), .int (nI b), .int (nI o), .int am, .int rt, .int x, .ref oa] ((wX ad cI cZ acc net tacc tnet flo bnd frm too amt pri wai byp ldr bor due plg clo pap cnd small price cut proc (nI mk) (nI lm) (nI le)) ++ [(oa, .inl (cL, 1, .inr (.inl og)))]) (fun r9 _ => r9 = 0) (fun _ => ((wX ad cI cZ (mvA b o am acc) net tacc tnet flo bnd frm too amt pri wai byp (upd ldr lm (nI b)) (upd bor lm (nI o)) (upd due lm (am + am * rt / 1000)) (upd plg lm x) clo (upd pap o (pap o - x)) cnd small price cut proc (nI mk) (nI (lm + 1)) (nI le)) ++ [(oa, .inl (cL, 1, .inr (.inl (vp_updL og 0 (((nI lm)).toInt64)))))])) 0 0 := by
  refine zMi.ofH (ret := (some .int)) (cc := cL_lend) (nL := 8) (own := RL) (by decide +kernel) rfl [(0, .ref (ad 0)), (1, .int (nI b)), (2, .int (nI o)), (3, .int am), (4, .int rt), (5, .int x), (6, .ref oa)] rfl (Nat.le_of_ble_eq_true rfl) rfl ?_
  intro A p e s m args below meth c C hmn htab
  refine z_aload C dL_lend_0 6 rfl ?_
  refine z_iconst C (v := 0) dL_lend_2 (by decide) ?_
  refine z_aload_n C dL_lend_3 rfl 0 rfl ?_
  refine z_iload_n C dL_lend_4 rfl 1 rfl ?_
  refine z_iload_n C dL_lend_5 rfl 2 rfl ?_
  refine z_iload_n C dL_lend_6 rfl 3 rfl ?_
  refine z_iload C dL_lend_7 4 rfl ?_
  refine z_iload C dL_lend_9 5 rfl ?_
  refine z_callVi C (T := Unit) (As := [.int (nI b), .int (nI o), .int am, .int rt, .int x]) (rest := [.int 0, .ref oa]) (ws' := fun _ => ((wX ad cI cZ (mvA b o am acc) net tacc tnet flo bnd frm too amt pri wai byp (upd ldr lm (nI b)) (upd bor lm (nI o)) (upd due lm (am + am * rt / 1000)) (upd plg lm x) clo (upd pap o (pap o - x)) cnd small price cut proc (nI mk) (nI (lm + 1)) (nI le)) ++ [(oa, .inl (cL, 1, .inr (.inl og)))])) (c_X4_lend_ok l sa D cI cZ cL ad acc net tacc tnet flo bnd frm too amt pri wai byp ldr bor due plg clo pap cnd small price cut proc mk lm le b o am rt x (by first | assumption | omega) (by first | assumption | omega) (by first | assumption | omega) (by first | assumption | omega) (by first | assumption | omega) (by first | assumption | omega) (by first | assumption | omega) (by first | assumption | omega) (by first | assumption | omega) (by first | assumption | omega) (by first | assumption | omega) (by first | assumption | omega) (by first | assumption | omega) (by first | assumption | omega) (by first | assumption | omega)) (cwV 5 C.2.2.2.2.1 gL_lend_X4_lend rfl rfl rfl (by decide +kernel) ⟨Nat.le_of_ble_eq_true rfl, Nat.le_of_ble_eq_true rfl⟩) 0 rfl rfl rfl (fun _ => (zSub.of (wr := [(oa, .inl (cL, 1, .inr (.inl og)))]) [0, 1, 2, 3, 4, 5, 6, 7, 8, 9, 10, 11, 12, 13, 14, 15, 16, 17, 18, 19, 20, 21, 22, 23, 24] [25] [1, 2, 3, 4, 5, 6, 7, 8, 9, 10, 11, 12, 13, 14, 15, 16, 17, 18, 19, 20, 21, 22, 23, 24, 25, 0] rfl rfl rfl rfl (by decide) rfl rfl)) (zIn.of [0, 1, 2, 3, 4, 5, 6, 7, 8, 9, 10, 11, 12, 13, 14, 15, 16, 17, 18, 19, 20, 21, 22, 23, 24] rfl rfl) rfl (Nat.le_of_ble_eq_true rfl) ⟨Nat.le_of_ble_eq_true rfl, Nat.le_of_ble_eq_true rfl⟩ dL_lend_11 (fun r_1 _ h_2 => ?_)
  obtain rfl : r_1 = (nI lm) := h_2
  refine z_i2l C (v := ((nI lm)).toInt64) dL_lend_14 rfl ?_
  refine z_last C 25 2 rfl rfl 0 (nI_clamp (n := 0) (by decide)) (vp_in_nI (n := 0) (by decide) (by decide)) dL_lend_15 ((wX ad cI cZ (mvA b o am acc) net tacc tnet flo bnd frm too amt pri wai byp (upd ldr lm (nI b)) (upd bor lm (nI o)) (upd due lm (am + am * rt / 1000)) (upd plg lm x) clo (upd pap o (pap o - x)) cnd small price cut proc (nI mk) (nI (lm + 1)) (nI le)) ++ [(oa, .inl (cL, 1, .inr (.inl (vp_updL og 0 ((nI lm)).toInt64))))]) rfl ?_
  refine z_goto C (tgt := 31) dL_lend_16 (by decide) ?_
  refine z_iconst C (v := 0) dL_lend_31 (by decide) ?_
  exact z_iret C () rfl rfl (by decide) (by decide) dL_lend_32
set_option maxHeartbeats 4000000 in
set_option maxRecDepth 100000 in
theorem w_lend_b1 (l : Launch) (hfl : l.stackTraces = false) (sa : Nat → Nat) (D : va_G) (cI cZ cL : ClassId) (ad : Nat → Nat) (acc net tacc tnet flo bnd frm too amt pri wai byp ldr bor due plg clo pap cnd : Nat → Int32) (small price cut proc : Int32) (mk lm le : Nat) (oa : Nat) (og : Nat → Int64) (b : Int32) (o : Int32) (am : Int32) (rt : Int32) (x : Int32) (hb : b < 0 ∨ 5 ≤ b) : zMi (T := Unit) sa D vwCl (zty cI cZ cL) l yL_lend wsL_lend ({ frames := 8, cells := 1, slots := 6, locals := 127 } : Room) [.ref (ad 0), .int b, .int o, .int am, .int rt, .int x, .ref oa] ((wX ad cI cZ acc net tacc tnet flo bnd frm too amt pri wai byp ldr bor due plg clo pap cnd small price cut proc (nI mk) (nI lm) (nI le)) ++ [(oa, .inl (cL, 1, .inr (.inl og)))]) (fun r9 _ => r9 = 1) (fun _ => ((wX ad cI cZ acc net tacc tnet flo bnd frm too amt pri wai byp ldr bor due plg clo pap cnd small price cut proc (nI mk) (nI lm) (nI le)) ++ [(oa, .inl (cL, 1, .inr (.inl og)))])) 1 6 := by
  refine zMi.ofH (ret := (some .int)) (cc := cL_lend) (nL := 8) (own := RL) (by decide +kernel) rfl [(0, .ref (ad 0)), (1, .int b), (2, .int o), (3, .int am), (4, .int rt), (5, .int x), (6, .ref oa)] rfl (Nat.le_of_ble_eq_true rfl) rfl ?_
  intro A p e s m args below meth c C hmn htab
  refine z_aload C dL_lend_0 6 rfl ?_
  refine z_iconst C (v := 0) dL_lend_2 (by decide) ?_
  refine z_aload_n C dL_lend_3 rfl 0 rfl ?_
  refine z_iload_n C dL_lend_4 rfl 1 rfl ?_
  refine z_iload_n C dL_lend_5 rfl 2 rfl ?_
  refine z_iload_n C dL_lend_6 rfl 3 rfl ?_
  refine z_iload C dL_lend_7 4 rfl ?_
  refine z_iload C dL_lend_9 5 rfl ?_
  refine z_callVx C (As := [.int b, .int o, .int am, .int rt, .int x]) (rest := [.int 0, .ref oa]) (c_X4_lend_b1 l hfl sa D cI cZ cL ad acc net tacc tnet flo bnd frm too amt pri wai byp ldr bor due plg clo pap cnd small price cut proc mk lm le b o am rt x (by first | assumption | omega)) (cwV 5 C.2.2.2.2.1 gL_lend_X4_lend rfl rfl rfl (by decide +kernel) ⟨Nat.le_of_ble_eq_true rfl, Nat.le_of_ble_eq_true rfl⟩) 0 rfl rfl rfl (zSub.of (wr := [(oa, .inl (cL, 1, .inr (.inl og)))]) [0, 1, 2, 3, 4, 5, 6, 7, 8, 9, 10, 11, 12, 13, 14, 15, 16, 17, 18, 19, 20, 21, 22, 23, 24] [25] [1, 2, 3, 4, 5, 6, 7, 8, 9, 10, 11, 12, 13, 14, 15, 16, 17, 18, 19, 20, 21, 22, 23, 24, 25, 0] rfl rfl rfl rfl (by decide) rfl rfl) rfl (Nat.le_of_ble_eq_true rfl) ⟨Nat.le_of_ble_eq_true rfl, Nat.le_of_ble_eq_true rfl⟩ dL_lend_11 ?_
  refine z_catch (E := "java/lang/IndexOutOfBoundsException") (name := "java/lang/IndexOutOfBoundsException") C [] ⟨0, 16, 19, 13⟩ [⟨0, 16, 23, 15⟩, ⟨0, 16, 27, 17⟩] htab (fun z hz => absurd hz List.not_mem_nil) (by decide) (by decide) m_L_lend_c13 (by decide) rfl (fun q_1 => ?_)
  refine z_astore C dL_lend_19 (by decide) [(0, .ref (ad 0)), (1, .int b), (2, .int o), (3, .int am), (4, .int rt), (5, .int x), (6, .ref oa), (7, .ref q_1)] [1, 2, 3, 4, 5, 6, 7, 0] rfl ?_
  refine z_iconst C (v := 1) dL_lend_21 (by decide) ?_
  exact z_iret C () rfl rfl (by decide) (by decide) dL_lend_22
set_option maxHeartbeats 4000000 in
set_option maxRecDepth 100000 in
theorem w_lend_b1b (l : Launch) (hfl : l.stackTraces = false) (sa : Nat → Nat) (D : va_G) (cI cZ cL : ClassId) (ad : Nat → Nat) (acc net tacc tnet flo bnd frm too amt pri wai byp ldr bor due plg clo pap cnd : Nat → Int32) (small price cut proc : Int32) (mk lm le : Nat) (oa : Nat) (og : Nat → Int64) (b : Nat) (o : Int32) (am : Int32) (rt : Int32) (x : Int32) (hb : b < 5) (ho : o < 0 ∨ 5 ≤ o) : zMi (T := Unit) sa D vwCl (zty cI cZ cL) l yL_lend wsL_lend ({ frames := 8, cells := 1, slots := 6, locals := 127 } : Room) [.ref (ad 0), .int (nI b), .int o, .int am, .int rt, .int x, .ref oa] ((wX ad cI cZ acc net tacc tnet flo bnd frm too amt pri wai byp ldr bor due plg clo pap cnd small price cut proc (nI mk) (nI lm) (nI le)) ++ [(oa, .inl (cL, 1, .inr (.inl og)))]) (fun r9 _ => r9 = 1) (fun _ => ((wX ad cI cZ acc net tacc tnet flo bnd frm too amt pri wai byp ldr bor due plg clo pap cnd small price cut proc (nI mk) (nI lm) (nI le)) ++ [(oa, .inl (cL, 1, .inr (.inl og)))])) 1 6 := by
  refine zMi.ofH (ret := (some .int)) (cc := cL_lend) (nL := 8) (own := RL) (by decide +kernel) rfl [(0, .ref (ad 0)), (1, .int (nI b)), (2, .int o), (3, .int am), (4, .int rt), (5, .int x), (6, .ref oa)] rfl (Nat.le_of_ble_eq_true rfl) rfl ?_
  intro A p e s m args below meth c C hmn htab
  refine z_aload C dL_lend_0 6 rfl ?_
  refine z_iconst C (v := 0) dL_lend_2 (by decide) ?_
  refine z_aload_n C dL_lend_3 rfl 0 rfl ?_
  refine z_iload_n C dL_lend_4 rfl 1 rfl ?_
  refine z_iload_n C dL_lend_5 rfl 2 rfl ?_
  refine z_iload_n C dL_lend_6 rfl 3 rfl ?_
  refine z_iload C dL_lend_7 4 rfl ?_
  refine z_iload C dL_lend_9 5 rfl ?_
  refine z_callVx C (As := [.int (nI b), .int o, .int am, .int rt, .int x]) (rest := [.int 0, .ref oa]) (c_X4_lend_b1b l hfl sa D cI cZ cL ad acc net tacc tnet flo bnd frm too amt pri wai byp ldr bor due plg clo pap cnd small price cut proc mk lm le b o am rt x (by first | assumption | omega) (by first | assumption | omega)) (cwV 5 C.2.2.2.2.1 gL_lend_X4_lend rfl rfl rfl (by decide +kernel) ⟨Nat.le_of_ble_eq_true rfl, Nat.le_of_ble_eq_true rfl⟩) 0 rfl rfl rfl (zSub.of (wr := [(oa, .inl (cL, 1, .inr (.inl og)))]) [0, 1, 2, 3, 4, 5, 6, 7, 8, 9, 10, 11, 12, 13, 14, 15, 16, 17, 18, 19, 20, 21, 22, 23, 24] [25] [1, 2, 3, 4, 5, 6, 7, 8, 9, 10, 11, 12, 13, 14, 15, 16, 17, 18, 19, 20, 21, 22, 23, 24, 25, 0] rfl rfl rfl rfl (by decide) rfl rfl) rfl (Nat.le_of_ble_eq_true rfl) ⟨Nat.le_of_ble_eq_true rfl, Nat.le_of_ble_eq_true rfl⟩ dL_lend_11 ?_
  refine z_catch (E := "java/lang/IndexOutOfBoundsException") (name := "java/lang/IndexOutOfBoundsException") C [] ⟨0, 16, 19, 13⟩ [⟨0, 16, 23, 15⟩, ⟨0, 16, 27, 17⟩] htab (fun z hz => absurd hz List.not_mem_nil) (by decide) (by decide) m_L_lend_c13 (by decide) rfl (fun q_1 => ?_)
  refine z_astore C dL_lend_19 (by decide) [(0, .ref (ad 0)), (1, .int (nI b)), (2, .int o), (3, .int am), (4, .int rt), (5, .int x), (6, .ref oa), (7, .ref q_1)] [1, 2, 3, 4, 5, 6, 7, 0] rfl ?_
  refine z_iconst C (v := 1) dL_lend_21 (by decide) ?_
  exact z_iret C () rfl rfl (by decide) (by decide) dL_lend_22
set_option maxHeartbeats 4000000 in
set_option maxRecDepth 100000 in
theorem w_lend_b2a (l : Launch) (hfl : l.stackTraces = false) (sa : Nat → Nat) (D : va_G) (cI cZ cL : ClassId) (ad : Nat → Nat) (acc net tacc tnet flo bnd frm too amt pri wai byp ldr bor due plg clo pap cnd : Nat → Int32) (small price cut proc : Int32) (mk lm le : Nat) (oa : Nat) (og : Nat → Int64) (b : Nat) (o : Nat) (am : Int32) (rt : Int32) (x : Int32) (hb : b < 5) (ho : o < 5) (hft : b = o) : zMi (T := Unit) sa D vwCl (zty cI cZ cL) l yL_lend wsL_lend ({ frames := 8, cells := 1, slots := 6, locals := 128 } : Room) [.ref (ad 0), .int (nI b), .int (nI o), .int am, .int rt, .int x, .ref oa] ((wX ad cI cZ acc net tacc tnet flo bnd frm too amt pri wai byp ldr bor due plg clo pap cnd small price cut proc (nI mk) (nI lm) (nI le)) ++ [(oa, .inl (cL, 1, .inr (.inl og)))]) (fun r9 _ => r9 = 2) (fun _ => ((wX ad cI cZ acc net tacc tnet flo bnd frm too amt pri wai byp ldr bor due plg clo pap cnd small price cut proc (nI mk) (nI lm) (nI le)) ++ [(oa, .inl (cL, 1, .inr (.inl og)))])) 1 6 := by
  refine zMi.ofH (ret := (some .int)) (cc := cL_lend) (nL := 8) (own := RL) (by decide +kernel) rfl [(0, .ref (ad 0)), (1, .int (nI b)), (2, .int (nI o)), (3, .int am), (4, .int rt), (5, .int x), (6, .ref oa)] rfl (Nat.le_of_ble_eq_true rfl) rfl ?_
  intro A p e s m args below meth c C hmn htab
  refine z_aload C dL_lend_0 6 rfl ?_
  refine z_iconst C (v := 0) dL_lend_2 (by decide) ?_
  refine z_aload_n C dL_lend_3 rfl 0 rfl ?_
  refine z_iload_n C dL_lend_4 rfl 1 rfl ?_
  refine z_iload_n C dL_lend_5 rfl 2 rfl ?_
  refine z_iload_n C dL_lend_6 rfl 3 rfl ?_
  refine z_iload C dL_lend_7 4 rfl ?_
  refine z_iload C dL_lend_9 5 rfl ?_
  refine z_callVx C (As := [.int (nI b), .int (nI o), .int am, .int rt, .int x]) (rest := [.int 0, .ref oa]) (c_X4_lend_b2a l hfl sa D cI cZ cL ad acc net tacc tnet flo bnd frm too amt pri wai byp ldr bor due plg clo pap cnd small price cut proc mk lm le b o am rt x (by first | assumption | omega) (by first | assumption | omega) (by first | assumption | omega)) (cwV 5 C.2.2.2.2.1 gL_lend_X4_lend rfl rfl rfl (by decide +kernel) ⟨Nat.le_of_ble_eq_true rfl, Nat.le_of_ble_eq_true rfl⟩) 0 rfl rfl rfl (zSub.of (wr := [(oa, .inl (cL, 1, .inr (.inl og)))]) [0, 1, 2, 3, 4, 5, 6, 7, 8, 9, 10, 11, 12, 13, 14, 15, 16, 17, 18, 19, 20, 21, 22, 23, 24] [25] [1, 2, 3, 4, 5, 6, 7, 8, 9, 10, 11, 12, 13, 14, 15, 16, 17, 18, 19, 20, 21, 22, 23, 24, 25, 0] rfl rfl rfl rfl (by decide) rfl rfl) rfl (Nat.le_of_ble_eq_true rfl) ⟨Nat.le_of_ble_eq_true rfl, Nat.le_of_ble_eq_true rfl⟩ dL_lend_11 ?_
  refine z_catch (E := "java/lang/IllegalArgumentException") (name := "java/lang/IllegalArgumentException") C [⟨0, 16, 19, 13⟩] ⟨0, 16, 23, 15⟩ [⟨0, 16, 27, 17⟩] htab (fun z hz => (List.mem_cons.mp hz).elim (fun e9 => by subst e9; exact ⟨by decide, "java/lang/IndexOutOfBoundsException", m_L_lend_c13, by decide⟩) (fun hz => absurd hz List.not_mem_nil)) (by decide) (by decide) m_L_lend_c15 (by decide) rfl (fun q_1 => ?_)
  refine z_astore C dL_lend_23 (by decide) [(0, .ref (ad 0)), (1, .int (nI b)), (2, .int (nI o)), (3, .int am), (4, .int rt), (5, .int x), (6, .ref oa), (7, .ref q_1)] [1, 2, 3, 4, 5, 6, 7, 0] rfl ?_
  refine z_iconst C (v := 2) dL_lend_25 (by decide) ?_
  exact z_iret C () rfl rfl (by decide) (by decide) dL_lend_26
set_option maxHeartbeats 4000000 in
set_option maxRecDepth 100000 in
theorem w_lend_b2b (l : Launch) (hfl : l.stackTraces = false) (sa : Nat → Nat) (D : va_G) (cI cZ cL : ClassId) (ad : Nat → Nat) (acc net tacc tnet flo bnd frm too amt pri wai byp ldr bor due plg clo pap cnd : Nat → Int32) (small price cut proc : Int32) (mk lm le : Nat) (oa : Nat) (og : Nat → Int64) (b : Nat) (o : Nat) (am : Int32) (rt : Int32) (x : Int32) (hb : b < 5) (ho : o < 5) (hft : b ≠ o) (hbad : am < 1 ∨ 100000 < am ∨ rt < 0 ∨ 200 < rt ∨ x < 0 ∨ 1000 < x) : zMi (T := Unit) sa D vwCl (zty cI cZ cL) l yL_lend wsL_lend ({ frames := 8, cells := 1, slots := 6, locals := 129 } : Room) [.ref (ad 0), .int (nI b), .int (nI o), .int am, .int rt, .int x, .ref oa] ((wX ad cI cZ acc net tacc tnet flo bnd frm too amt pri wai byp ldr bor due plg clo pap cnd small price cut proc (nI mk) (nI lm) (nI le)) ++ [(oa, .inl (cL, 1, .inr (.inl og)))]) (fun r9 _ => r9 = 2) (fun _ => ((wX ad cI cZ acc net tacc tnet flo bnd frm too amt pri wai byp ldr bor due plg clo pap cnd small price cut proc (nI mk) (nI lm) (nI le)) ++ [(oa, .inl (cL, 1, .inr (.inl og)))])) 1 6 := by
  refine zMi.ofH (ret := (some .int)) (cc := cL_lend) (nL := 8) (own := RL) (by decide +kernel) rfl [(0, .ref (ad 0)), (1, .int (nI b)), (2, .int (nI o)), (3, .int am), (4, .int rt), (5, .int x), (6, .ref oa)] rfl (Nat.le_of_ble_eq_true rfl) rfl ?_
  intro A p e s m args below meth c C hmn htab
  refine z_aload C dL_lend_0 6 rfl ?_
  refine z_iconst C (v := 0) dL_lend_2 (by decide) ?_
  refine z_aload_n C dL_lend_3 rfl 0 rfl ?_
  refine z_iload_n C dL_lend_4 rfl 1 rfl ?_
  refine z_iload_n C dL_lend_5 rfl 2 rfl ?_
  refine z_iload_n C dL_lend_6 rfl 3 rfl ?_
  refine z_iload C dL_lend_7 4 rfl ?_
  refine z_iload C dL_lend_9 5 rfl ?_
  refine z_callVx C (As := [.int (nI b), .int (nI o), .int am, .int rt, .int x]) (rest := [.int 0, .ref oa]) (c_X4_lend_b2b l hfl sa D cI cZ cL ad acc net tacc tnet flo bnd frm too amt pri wai byp ldr bor due plg clo pap cnd small price cut proc mk lm le b o am rt x (by first | assumption | omega) (by first | assumption | omega) (by first | assumption | omega) (by first | assumption | omega)) (cwV 5 C.2.2.2.2.1 gL_lend_X4_lend rfl rfl rfl (by decide +kernel) ⟨Nat.le_of_ble_eq_true rfl, Nat.le_of_ble_eq_true rfl⟩) 0 rfl rfl rfl (zSub.of (wr := [(oa, .inl (cL, 1, .inr (.inl og)))]) [0, 1, 2, 3, 4, 5, 6, 7, 8, 9, 10, 11, 12, 13, 14, 15, 16, 17, 18, 19, 20, 21, 22, 23, 24] [25] [1, 2, 3, 4, 5, 6, 7, 8, 9, 10, 11, 12, 13, 14, 15, 16, 17, 18, 19, 20, 21, 22, 23, 24, 25, 0] rfl rfl rfl rfl (by decide) rfl rfl) rfl (Nat.le_of_ble_eq_true rfl) ⟨Nat.le_of_ble_eq_true rfl, Nat.le_of_ble_eq_true rfl⟩ dL_lend_11 ?_
  refine z_catch (E := "java/lang/IllegalArgumentException") (name := "java/lang/IllegalArgumentException") C [⟨0, 16, 19, 13⟩] ⟨0, 16, 23, 15⟩ [⟨0, 16, 27, 17⟩] htab (fun z hz => (List.mem_cons.mp hz).elim (fun e9 => by subst e9; exact ⟨by decide, "java/lang/IndexOutOfBoundsException", m_L_lend_c13, by decide⟩) (fun hz => absurd hz List.not_mem_nil)) (by decide) (by decide) m_L_lend_c15 (by decide) rfl (fun q_1 => ?_)
  refine z_astore C dL_lend_23 (by decide) [(0, .ref (ad 0)), (1, .int (nI b)), (2, .int (nI o)), (3, .int am), (4, .int rt), (5, .int x), (6, .ref oa), (7, .ref q_1)] [1, 2, 3, 4, 5, 6, 7, 0] rfl ?_
  refine z_iconst C (v := 2) dL_lend_25 (by decide) ?_
  exact z_iret C () rfl rfl (by decide) (by decide) dL_lend_26
set_option maxHeartbeats 4000000 in
set_option maxRecDepth 100000 in
theorem w_lend_b3 (l : Launch) (hfl : l.stackTraces = false) (sa : Nat → Nat) (D : va_G) (cI cZ cL : ClassId) (ad : Nat → Nat) (acc net tacc tnet flo bnd frm too amt pri wai byp ldr bor due plg clo pap cnd : Nat → Int32) (small price cut proc : Int32) (mk lm le : Nat) (oa : Nat) (og : Nat → Int64) (b : Nat) (o : Nat) (am : Int32) (rt : Int32) (x : Int32) (hb : b < 5) (ho : o < 5) (hft : b ≠ o) (g1 : ¬ am < 1) (g2 : ¬ 100000 < am) (g3 : ¬ rt < 0) (g4 : ¬ 200 < rt) (g5 : ¬ x < 0) (g6 : ¬ 1000 < x) (hlm : lm ≤ 40) (hbad : ¬ (clo b = 0 ∧ clo o = 0 ∧ lm < 40 ∧ ¬ pap o < x ∧ ¬ x * price * (1000 - cut) / 1000 < am ∧ ¬ acc b - am < flo b)) : zMi (T := Unit) sa D vwCl (zty cI cZ cL) l yL_lend wsL_lend ({ frames := 8, cells := 1, slots := 6, locals := 131 } : Room) [.ref (ad 0), .int (nI b), .int (nI o), .int am, .int rt, .int x, .ref oa] ((wX ad cI cZ acc net tacc tnet flo bnd frm too amt pri wai byp ldr bor due plg clo pap cnd small price cut proc (nI mk) (nI lm) (nI le)) ++ [(oa, .inl (cL, 1, .inr (.inl og)))]) (fun r9 _ => r9 = 3) (fun _ => ((wX ad cI cZ acc net tacc tnet flo bnd frm too amt pri wai byp ldr bor due plg clo pap cnd small price cut proc (nI mk) (nI lm) (nI le)) ++ [(oa, .inl (cL, 1, .inr (.inl og)))])) 1 6 := by
  refine zMi.ofH (ret := (some .int)) (cc := cL_lend) (nL := 8) (own := RL) (by decide +kernel) rfl [(0, .ref (ad 0)), (1, .int (nI b)), (2, .int (nI o)), (3, .int am), (4, .int rt), (5, .int x), (6, .ref oa)] rfl (Nat.le_of_ble_eq_true rfl) rfl ?_
  intro A p e s m args below meth c C hmn htab
  refine z_aload C dL_lend_0 6 rfl ?_
  refine z_iconst C (v := 0) dL_lend_2 (by decide) ?_
  refine z_aload_n C dL_lend_3 rfl 0 rfl ?_
  refine z_iload_n C dL_lend_4 rfl 1 rfl ?_
  refine z_iload_n C dL_lend_5 rfl 2 rfl ?_
  refine z_iload_n C dL_lend_6 rfl 3 rfl ?_
  refine z_iload C dL_lend_7 4 rfl ?_
  refine z_iload C dL_lend_9 5 rfl ?_
  refine z_callVx C (As := [.int (nI b), .int (nI o), .int am, .int rt, .int x]) (rest := [.int 0, .ref oa]) (c_X4_lend_b3 l hfl sa D cI cZ cL ad acc net tacc tnet flo bnd frm too amt pri wai byp ldr bor due plg clo pap cnd small price cut proc mk lm le b o am rt x (by first | assumption | omega) (by first | assumption | omega) (by first | assumption | omega) (by first | assumption | omega) (by first | assumption | omega) (by first | assumption | omega) (by first | assumption | omega) (by first | assumption | omega) (by first | assumption | omega) (by first | assumption | omega) (by first | assumption | omega)) (cwV 5 C.2.2.2.2.1 gL_lend_X4_lend rfl rfl rfl (by decide +kernel) ⟨Nat.le_of_ble_eq_true rfl, Nat.le_of_ble_eq_true rfl⟩) 0 rfl rfl rfl (zSub.of (wr := [(oa, .inl (cL, 1, .inr (.inl og)))]) [0, 1, 2, 3, 4, 5, 6, 7, 8, 9, 10, 11, 12, 13, 14, 15, 16, 17, 18, 19, 20, 21, 22, 23, 24] [25] [1, 2, 3, 4, 5, 6, 7, 8, 9, 10, 11, 12, 13, 14, 15, 16, 17, 18, 19, 20, 21, 22, 23, 24, 25, 0] rfl rfl rfl rfl (by decide) rfl rfl) rfl (Nat.le_of_ble_eq_true rfl) ⟨Nat.le_of_ble_eq_true rfl, Nat.le_of_ble_eq_true rfl⟩ dL_lend_11 ?_
  refine z_catch (E := "java/lang/IllegalStateException") (name := "java/lang/IllegalStateException") C [⟨0, 16, 19, 13⟩, ⟨0, 16, 23, 15⟩] ⟨0, 16, 27, 17⟩ [] htab (fun z hz => (List.mem_cons.mp hz).elim (fun e9 => by subst e9; exact ⟨by decide, "java/lang/IndexOutOfBoundsException", m_L_lend_c13, by decide⟩) (fun hz => (List.mem_cons.mp hz).elim (fun e9 => by subst e9; exact ⟨by decide, "java/lang/IllegalArgumentException", m_L_lend_c15, by decide⟩) (fun hz => absurd hz List.not_mem_nil))) (by decide) (by decide) m_L_lend_c17 (by decide) rfl (fun q_1 => ?_)
  refine z_astore C dL_lend_27 (by decide) [(0, .ref (ad 0)), (1, .int (nI b)), (2, .int (nI o)), (3, .int am), (4, .int rt), (5, .int x), (6, .ref oa), (7, .ref q_1)] [1, 2, 3, 4, 5, 6, 7, 0] rfl ?_
  refine z_iconst C (v := 3) dL_lend_29 (by decide) ?_
  exact z_iret C () rfl rfl (by decide) (by decide) dL_lend_30
