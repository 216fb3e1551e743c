theorem lw_hfl {l : Launch} (hflags : l.flags = flags0) : l.stackTraces = false := by
  unfold Launch.stackTraces
  rw [hflags]
  decide +kernel
theorem lw_arrI {s : State} {args : Array Value} (h : (Cond.arrayClass .int).before args s = true) : ∃ cA : ClassId, ArrOfT s cA .int ∧ va_RA s cA .int := by
  obtain ⟨c, k, comp, h1, h2, h3⟩ := Cond.arrayClass_spec (args := args) (first := s) (o := none) (s := s) (idx := []) h
  exact ⟨c, fun n z => ⟨fun k h => (by cases h), k, h2, comp, h3⟩, h1⟩
theorem lw_arrZ {s : State} {args : Array Value} (h : (Cond.arrayClass .boolean).before args s = true) : ∃ cA : ClassId, ArrOfT s cA .boolean ∧ va_RA s cA .boolean := by
  obtain ⟨c, k, comp, h1, h2, h3⟩ := Cond.arrayClass_spec (args := args) (first := s) (o := none) (s := s) (idx := []) h
  exact ⟨c, fun n z => ⟨fun k h => (by cases h), k, h2, comp, h3⟩, h1⟩
theorem lw_arrL {s : State} {args : Array Value} (h : (Cond.arrayClass .long).before args s = true) : ∃ cA : ClassId, ArrOfT s cA .long ∧ va_RA s cA .long := by
  obtain ⟨c, k, comp, h1, h2, h3⟩ := Cond.arrayClass_spec (args := args) (first := s) (o := none) (s := s) (idx := []) h
  exact ⟨c, fun n z => ⟨fun k h => (by cases h), k, h2, comp, h3⟩, h1⟩
theorem lw_strT : ∀ q ∈ zStr, Cond.stringRef RX4 q.1 q.2 ∈ lw_tbl := by decide +kernel
theorem lw_strN : ∀ q ∈ zStr, Cond.exactly (Term.string RX4 q.1) "java/lang/String" ∈ flatC (Jvm.Cond.and given_1 narrow_1) := by decide +kernel
theorem lw_cstT : ∀ E ∈ zEs, Cond.castable E E ∈ lw_tbl := by decide +kernel
theorem lw_ncN : ∀ q ∈ zNcs, Cond.not (Cond.castable q.1 q.2) ∈ flatC (Jvm.Cond.and given_1 narrow_1) := by decide +kernel
theorem lw_dclT : ∀ y ∈ zDs, Cond.declares y ∈ lw_tbl := by decide +kernel
theorem lw_zG {b : Nat} {s : State} {A : Nat → Prop} (hts : ∀ w ∈ lw_tbl, w.before #[Value.ref b] s = true) (hgv : (Jvm.Cond.and given_1 narrow_1).before #[Value.ref b] s = true) (hA : ∀ a : Nat, a < s.heap.size → ¬ A a) : ∃ sa : Nat → Nat, zG sa A s s.heap := by
  have hs := flat_of_before _ hgv
  have h0 : ∀ k : Nat, ∃ q : Nat, (Cond.exactly (Term.string RX4 k) "java/lang/String").before #[Value.ref b] s = true → (Term.string RX4 k).eval #[Value.ref b] s none [] s = some (.ref q) := by
    intro k
    by_cases h : (Cond.exactly (Term.string RX4 k) "java/lang/String").before #[Value.ref b] s = true
    · obtain ⟨a, c, cA, kA, q1, q2⟩ := Cond.exactly_spec (args := #[Value.ref b]) (first := s) (o := none) (s := s) (idx := []) (t := Term.string RX4 k) (cls := "java/lang/String") h
      exact ⟨a, fun _ => q1⟩
    · exact ⟨0, fun h9 => absurd h9 h⟩
  obtain ⟨sa, hsa⟩ := Classical.axiomOfChoice h0
  refine ⟨sa, fun q hq => vk_R.of (hts _ (lw_strT q hq)) (hsa q.1 (hs _ (lw_strN q hq))), va_tabs rfl rfl (hts (.methodLinkNest RX3 18 yX4_pairOf RX4) (by decide +kernel)), fun E hE => va_tabs rfl rfl (hts (.castable E E) (lw_cstT E hE)), fun q hq => va_Nc.of (hs _ (lw_ncN q hq)), fun y hy => va_tabs rfl rfl (hts (.declares y) (lw_dclT y hy)), ?_, ?_⟩
  · exact vx_Zqof (hts (.laysStatic Bundle.tN "UNASSIGNED_STACK" Bundle.steD) (by decide +kernel)) (hts (.initialized Bundle.tN) (by decide +kernel)) (hs (.isRef (.static Bundle.tN "UNASSIGNED_STACK" Bundle.steD)) (by decide +kernel)) hA
  · exact vx_Zqof (hts (.laysStatic Bundle.tN "SUPPRESSED_SENTINEL" Bundle.listD) (by decide +kernel)) (hts (.initialized Bundle.tN) (by decide +kernel)) (hs (.isRef (.static Bundle.tN "SUPPRESSED_SENTINEL" Bundle.listD)) (by decide +kernel)) hA
theorem lwI_0 {u w : Nat → Int32} : lwI (fun _ => 0) (fun _ => 0) (fun _ => 0) (fun _ => 0) (fun _ => 0) (fun _ => 0) (fun _ => 0) (fun _ => 0) u w (fun _ => 0) 100 200 0 0 0 :=
  ⟨⟨by decide, fun p h => absurd h (Nat.not_lt_zero p), fun p h => absurd h (Nat.not_lt_zero p), fun p h => absurd h (Nat.not_lt_zero p), fun p h => absurd h (Nat.not_lt_zero p), fun _ => Or.inl rfl⟩, ⟨by decide, fun p h => absurd h (Nat.not_lt_zero p), fun p h => absurd h (Nat.not_lt_zero p), Nat.le_refl 0, fun p h => absurd h (Nat.not_lt_zero p), fun p h => absurd h (Nat.not_lt_zero p)⟩, by decide, by decide, by decide, by decide⟩

set_option maxHeartbeats 4000000 in
set_option maxRecDepth 100000 in
theorem law_loop (p : Program) (l : Launch) (hfl : l.stackTraces = false) (e : Env) (sa : Nat → Nat) (s : State) (m : MethodId) (args : Array Value) (below : List Frame) (meth : Method) (c : Code) (Q : State → Prop) (D : va_G) (A : Nat → Prop) (cI cZ cL : ClassId) (ad md : Nat → Nat) (oa sb L : Nat) (xs : Nat → Int32) (C : zK sa D vwCl (zty cI cZ cL) A p s m args meth c cL_law 7 RL wsL_law (some .boolean)) (hX : va_X sb L xs s s.heap) (hbl : sb < s.heap.size) (hbA : ¬ A sb) (hL : L ≤ 3072) (E : ∀ (ws : va_W) (lv : List (Nat × Value)) (cells slots : Nat), cells ≤ 1083 → slots ≤ 9578 → zW p l e room_1 s m args below meth c Q D vwCl A 7 cells slots ws lv 1253 [.int 1]) : ∀ (n i cells slots : Nat), i ≤ L → L < i + n → cells + (L - i) / 6 ≤ 1083 → slots + 6 * ((L - i) / 6) ≤ 9578 → lwW p l e room_1 s m args below meth c Q D A cI cZ cL ad md oa sb i cells slots 23 := by
  intro n
  induction n with
  | zero => intro i cells slots h1 h2; omega
  | succ n ih =>
  intro i cells slots hiL hn hc hs acc net tacc tnet flo bnd frm too amt pri wai byp ldr bor due plg clo pap cnd small price cut proc mk lm le og fst lnt rat opn thr hI
  refine z_iload C dL_law_23 4 rfl ?_
  refine z_aload_n C dL_law_25 rfl 0 rfl ?_
  refine z_slen C hX hbl hbA dL_law_26 ?_
  refine z_bipush C (v := 6) dL_law_27 (by decide) ?_
  refine z_isub C (v := nI L - 6) dL_law_29 rfl ?_
  refine z_icmp_gt C (tgt := 1252) dL_law_30 (by decide) (fun c1 => ?_) (fun c1 => ?_)
  · refine z_iconst C (v := 1) dL_law_1252 (by decide) ?_
    exact E _ _ _ _ (by omega) (by omega)
  · have hi : i + 6 ≤ L := by
      have h9 : ¬ L < i + 6 := fun q => c1 ((z_lim (i := i) (L := L) (by omega) (by omega)).mpr q)
      omega
    have hc1 : cells + 1 ≤ 1083 := by omega
    have hc2 : slots + 6 ≤ 9578 := by omega
    have K : lwW p l e room_1 s m args below meth c Q D A cI cZ cL ad md oa sb i (cells + 1) (slots + 6) 1246 := by
      intro acc net tacc tnet flo bnd frm too amt pri wai byp ldr bor due plg clo pap cnd small price cut proc mk lm le og fst lnt rat opn thr hI
      refine z_iinc C (v := nI (i + 6)) dL_law_1246 4 rfl (nI_add i 6) (by decide) [(0, .ref sb), (1, .ref (ad 0)), (2, .ref (md 0)), (3, .ref oa), (4, .int (nI (i + 6)))] [1, 2, 3, 4, 0] rfl ?_
      refine z_goto C (tgt := 23) dL_law_1249 (by decide) ?_
      exact ih (i + 6) (cells + 1) (slots + 6) hi (by omega) (by omega) (by omega) acc net tacc tnet flo bnd frm too amt pri wai byp ldr bor due plg clo pap cnd small price cut proc mk lm le og fst lnt rat opn thr hI
    refine z_aload_n C dL_law_33 rfl 0 rfl ?_
    refine z_iload C dL_law_34 4 rfl ?_
    refine z_sld C hX hbl hbA i (nI_clamp (by omega)) (vp_in_nI (by omega) (by omega)) (xs i) rfl dL_law_36 ?_
    refine z_bipush C (v := 31) dL_law_37 (by decide) ?_
    obtain ⟨j, hj, ej⟩ := pk_andE (xs i) (m := 31) 5 (by decide)
    refine z_iand C (v := nI j) dL_law_39 ej ?_
    rcases (show j = 0 ∨ j = 1 ∨ j = 2 ∨ j = 3 ∨ j = 4 ∨ j = 5 ∨ j = 6 ∨ j = 7 ∨ j = 8 ∨ j = 9 ∨ j = 10 ∨ j = 11 ∨ j = 12 ∨ j = 13 ∨ j = 14 ∨ j = 15 ∨ j = 16 ∨ j = 17 ∨ j = 18 ∨ j = 19 ∨ 20 ≤ j by omega) with rfl | rfl | rfl | rfl | rfl | rfl | rfl | rfl | rfl | rfl | rfl | rfl | rfl | rfl | rfl | rfl | rfl | rfl | rfl | rfl | hj20
    · exact z_tabIn C (x := nI 0) (off := 96) (tgt := 136) dL_law_40 (by decide) (by decide) (by decide) (by decide) (law_fund p l hfl e sa s m args below meth c Q D A cI cZ cL ad md oa sb i cells slots L xs C hX hbl hbA hL hi hc1 hc2 K acc net tacc tnet flo bnd frm too amt pri wai byp ldr bor due plg clo pap cnd small price cut proc mk lm le og fst lnt rat opn thr hI)
    · exact z_tabIn C (x := nI 1) (off := 164) (tgt := 204) dL_law_40 (by decide) (by decide) (by decide) (by decide) (law_setFloor p l hfl e sa s m args below meth c Q D A cI cZ cL ad md oa sb i cells slots L xs C hX hbl hbA hL hi hc1 hc2 K acc net tacc tnet flo bnd frm too amt pri wai byp ldr bor due plg clo pap cnd small price cut proc mk lm le og fst lnt rat opn thr hI)
    · exact z_tabIn C (x := nI 2) (off := 232) (tgt := 272) dL_law_40 (by decide) (by decide) (by decide) (by decide) (law_setBound p l hfl e sa s m args below meth c Q D A cI cZ cL ad md oa sb i cells slots L xs C hX hbl hbA hL hi hc1 hc2 K acc net tacc tnet flo bnd frm too amt pri wai byp ldr bor due plg clo pap cnd small price cut proc mk lm le og fst lnt rat opn thr hI)
    · exact z_tabIn C (x := nI 3) (off := 312) (tgt := 352) dL_law_40 (by decide) (by decide) (by decide) (by decide) (law_givePapers p l hfl e sa s m args below meth c Q D A cI cZ cL ad md oa sb i cells slots L xs C hX hbl hbA hL hi hc1 hc2 K acc net tacc tnet flo bnd frm too amt pri wai byp ldr bor due plg clo pap cnd small price cut proc mk lm le og fst lnt rat opn thr hI)
    · exact z_tabIn C (x := nI 4) (off := 380) (tgt := 420) dL_law_40 (by decide) (by decide) (by decide) (by decide) (law_account p l hfl e sa s m args below meth c Q D A cI cZ cL ad md oa sb i cells slots L xs C hX hbl hbA hL hi hc1 hc2 K acc net tacc tnet flo bnd frm too amt pri wai byp ldr bor due plg clo pap cnd small price cut proc mk lm le og fst lnt rat opn thr hI)
    · exact z_tabIn C (x := nI 5) (off := 436) (tgt := 476) dL_law_40 (by decide) (by decide) (by decide) (by decide) (law_papers p l hfl e sa s m args below meth c Q D A cI cZ cL ad md oa sb i cells slots L xs C hX hbl hbA hL hi hc1 hc2 K acc net tacc tnet flo bnd frm too amt pri wai byp ldr bor due plg clo pap cnd small price cut proc mk lm le og fst lnt rat opn thr hI)
    · exact z_tabIn C (x := nI 6) (off := 492) (tgt := 532) dL_law_40 (by decide) (by decide) (by decide) (by decide) (law_isOpen p l hfl e sa s m args below meth c Q D A cI cZ cL ad md oa sb i cells slots L xs C hX hbl hbA hL hi hc1 hc2 K acc net tacc tnet flo bnd frm too amt pri wai byp ldr bor due plg clo pap cnd small price cut proc mk lm le og fst lnt rat opn thr hI)
    · exact z_tabIn C (x := nI 7) (off := 555) (tgt := 595) dL_law_40 (by decide) (by decide) (by decide) (by decide) (law_paid p l hfl e sa s m args below meth c Q D A cI cZ cL ad md oa sb i cells slots L xs C hX hbl hbA hL hi hc1 hc2 K acc net tacc tnet flo bnd frm too amt pri wai byp ldr bor due plg clo pap cnd small price cut proc mk lm le og fst lnt rat opn thr hI)
    · exact z_tabIn C (x := nI 8) (off := 623) (tgt := 663) dL_law_40 (by decide) (by decide) (by decide) (by decide) (law_pay p l hfl e sa s m args below meth c Q D A cI cZ cL ad md oa sb i cells slots L xs C hX hbl hbA hL hi hc1 hc2 K acc net tacc tnet flo bnd frm too amt pri wai byp ldr bor due plg clo pap cnd small price cut proc mk lm le og fst lnt rat opn thr hI)
    · exact z_tabIn C (x := nI 9) (off := 715) (tgt := 755) dL_law_40 (by decide) (by decide) (by decide) (by decide) (law_drop p l hfl e sa s m args below meth c Q D A cI cZ cL ad md oa sb i cells slots L xs C hX hbl hbA hL hi hc1 hc2 K acc net tacc tnet flo bnd frm too amt pri wai byp ldr bor due plg clo pap cnd small price cut proc mk lm le og fst lnt rat opn thr hI)
    · exact z_tabIn C (x := nI 10) (off := 771) (tgt := 811) dL_law_40 (by decide) (by decide) (by decide) (by decide) (law_setSmall p l hfl e sa s m args below meth c Q D A cI cZ cL ad md oa sb i cells slots L xs C hX hbl hbA hL hi hc1 hc2 K acc net tacc tnet flo bnd frm too amt pri wai byp ldr bor due plg clo pap cnd small price cut proc mk lm le og fst lnt rat opn thr hI)
    · exact z_tabIn C (x := nI 11) (off := 827) (tgt := 867) dL_law_40 (by decide) (by decide) (by decide) (by decide) (law_run p l hfl e sa s m args below meth c Q D A cI cZ cL ad md oa sb i cells slots L xs C hX hbl hbA hL hi hc1 hc2 K acc net tacc tnet flo bnd frm too amt pri wai byp ldr bor due plg clo pap cnd small price cut proc mk lm le og fst lnt rat opn thr hI)
    · exact z_tabIn C (x := nI 12) (off := 840) (tgt := 880) dL_law_40 (by decide) (by decide) (by decide) (by decide) (law_queued p l hfl e sa s m args below meth c Q D A cI cZ cL ad md oa sb i cells slots L xs C hX hbl hbA hL hi hc1 hc2 K acc net tacc tnet flo bnd frm too amt pri wai byp ldr bor due plg clo pap cnd small price cut proc mk lm le og fst lnt rat opn thr hI)
    · exact z_tabIn C (x := nI 13) (off := 908) (tgt := 948) dL_law_40 (by decide) (by decide) (by decide) (by decide) (law_why p l hfl e sa s m args below meth c Q D A cI cZ cL ad md oa sb i cells slots L xs C hX hbl hbA hL hi hc1 hc2 K acc net tacc tnet flo bnd frm too amt pri wai byp ldr bor due plg clo pap cnd small price cut proc mk lm le og fst lnt rat opn thr hI)
    · exact z_tabIn C (x := nI 14) (off := 964) (tgt := 1004) dL_law_40 (by decide) (by decide) (by decide) (by decide) (law_canAny p l hfl e sa s m args below meth c Q D A cI cZ cL ad md oa sb i cells slots L xs C hX hbl hbA hL hi hc1 hc2 K acc net tacc tnet flo bnd frm too amt pri wai byp ldr bor due plg clo pap cnd small price cut proc mk lm le og fst lnt rat opn thr hI)
    · exact z_tabIn C (x := nI 15) (off := 1015) (tgt := 1055) dL_law_40 (by decide) (by decide) (by decide) (by decide) (law_setPrice p l hfl e sa s m args below meth c Q D A cI cZ cL ad md oa sb i cells slots L xs C hX hbl hbA hL hi hc1 hc2 K acc net tacc tnet flo bnd frm too amt pri wai byp ldr bor due plg clo pap cnd small price cut proc mk lm le og fst lnt rat opn thr hI)
    · exact z_tabIn C (x := nI 16) (off := 1063) (tgt := 1103) dL_law_40 (by decide) (by decide) (by decide) (by decide) (law_lend p l hfl e sa s m args below meth c Q D A cI cZ cL ad md oa sb i cells slots L xs C hX hbl hbA hL hi hc1 hc2 K acc net tacc tnet flo bnd frm too amt pri wai byp ldr bor due plg clo pap cnd small price cut proc mk lm le og fst lnt rat opn thr hI)
    · exact z_tabIn C (x := nI 17) (off := 1167) (tgt := 1207) dL_law_40 (by decide) (by decide) (by decide) (by decide) (law_loans p l hfl e sa s m args below meth c Q D A cI cZ cL ad md oa sb i cells slots L xs C hX hbl hbA hL hi hc1 hc2 K acc net tacc tnet flo bnd frm too amt pri wai byp ldr bor due plg clo pap cnd small price cut proc mk lm le og fst lnt rat opn thr hI)
    · exact z_tabIn C (x := nI 18) (off := 1180) (tgt := 1220) dL_law_40 (by decide) (by decide) (by decide) (by decide) (law_morning p l hfl e sa s m args below meth c Q D A cI cZ cL ad md oa sb i cells slots L xs C hX hbl hbA hL hi hc1 hc2 K acc net tacc tnet flo bnd frm too amt pri wai byp ldr bor due plg clo pap cnd small price cut proc mk lm le og fst lnt rat opn thr hI)
    · exact z_tabIn C (x := nI 19) (off := 1193) (tgt := 1233) dL_law_40 (by decide) (by decide) (by decide) (by decide) (law_sold p l hfl e sa s m args below meth c Q D A cI cZ cL ad md oa sb i cells slots L xs C hX hbl hbA hL hi hc1 hc2 K acc net tacc tnet flo bnd frm too amt pri wai byp ldr bor due plg clo pap cnd small price cut proc mk lm le og fst lnt rat opn thr hI)
    · exact z_tabOut C (tgt := 1246) dL_law_40 (Or.inr (by rw [nI_toInt (by omega)]; omega)) (by decide) (z_widen (k := cells + 1) (n := slots + 6) (by omega) (by omega) (K acc net tacc tnet flo bnd frm too amt pri wai byp ldr bor due plg clo pap cnd small price cut proc mk lm le og fst lnt rat opn thr hI))

