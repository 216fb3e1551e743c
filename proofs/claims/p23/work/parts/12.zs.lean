/-! the worlds of the class and of the reference; rows for new cells, copies, longs -/
section ZS
abbrev zty (cI cZ cL : ClassId) : List (ClassId × FieldType) := [(cI, .int), (cZ, .boolean)]
def wX (ad : Nat → Nat) (cI cZ : ClassId) (acc net tacc tnet flo bnd frm too amt pri wai byp ldr bor due plg clo pap cnd : Nat → Int32) (small price cut proc made lmade lend : Int32) : va_W :=
  [((ad 0), .inr (4, [.ref (ad 1), .ref (ad 2), .ref (ad 3), .ref (ad 4), .ref (ad 5), .ref (ad 22), .ref (ad 23), .ref (ad 24), .int small, .int price, .int cut, .int proc])),
   ((ad 1), .inr (3, [.ref (ad 6), .ref (ad 7)])),
   ((ad 2), .inr (3, [.ref (ad 8), .ref (ad 9)])),
   ((ad 3), .inr (0, [.ref (ad 10), .ref (ad 11)])),
   ((ad 4), .inr (2, [.ref (ad 12), .ref (ad 13), .ref (ad 14), .ref (ad 15), .ref (ad 16), .ref (ad 17), .int made])),
   ((ad 5), .inr (1, [.ref (ad 18), .ref (ad 19), .ref (ad 20), .ref (ad 21), .int lmade, .int lend])),
   ((ad 6), .inl (cI, 5, .inl acc)),
   ((ad 7), .inl (cI, 25, .inl net)),
   ((ad 8), .inl (cI, 5, .inl tacc)),
   ((ad 9), .inl (cI, 25, .inl tnet)),
   ((ad 10), .inl (cI, 5, .inl flo)),
   ((ad 11), .inl (cI, 25, .inl bnd)),
   ((ad 12), .inl (cI, 60, .inl frm)),
   ((ad 13), .inl (cI, 60, .inl too)),
   ((ad 14), .inl (cI, 60, .inl amt)),
   ((ad 15), .inl (cI, 60, .inl pri)),
   ((ad 16), .inl (cZ, 60, .inl wai)),
   ((ad 17), .inl (cI, 60, .inl byp)),
   ((ad 18), .inl (cI, 40, .inl ldr)),
   ((ad 19), .inl (cI, 40, .inl bor)),
   ((ad 20), .inl (cI, 40, .inl due)),
   ((ad 21), .inl (cI, 40, .inl plg)),
   ((ad 22), .inl (cZ, 5, .inl clo)),
   ((ad 23), .inl (cI, 5, .inl pap)),
   ((ad 24), .inl (cI, 10, .inl cnd))]
theorem z_nb {x : Int32} (h : x = 0 ∨ x = 1) : narrow .boolean (.int x) = .int x := by
  rcases h with rfl | rfl <;> rfl
theorem z_dec {n : Nat} (h : 0 < n) : nI n + Int32.ofInt (-1) = nI (n - 1) := by
  obtain ⟨k, rfl⟩ : ∃ k, n = k + 1 := ⟨n - 1, by omega⟩
  exact pk_m1 k
theorem z_dvX0 : ∀ j, j < 2 → defaultValue (tyX0 j) = vp_V [.null, .null] j := by
  intro j hj
  rcases (show j = 0 ∨ j = 1 by omega) with rfl | rfl <;> rfl
theorem z_dvX1 : ∀ j, j < 6 → defaultValue (tyX1 j) = vp_V [.null, .null, .null, .null, .int 0, .int 0] j := by
  intro j hj
  rcases (show j = 0 ∨ j = 1 ∨ j = 2 ∨ j = 3 ∨ j = 4 ∨ j = 5 by omega) with rfl | rfl | rfl | rfl | rfl | rfl <;> rfl
theorem z_dvX2 : ∀ j, j < 7 → defaultValue (tyX2 j) = vp_V [.null, .null, .null, .null, .null, .null, .int 0] j := by
  intro j hj
  rcases (show j = 0 ∨ j = 1 ∨ j = 2 ∨ j = 3 ∨ j = 4 ∨ j = 5 ∨ j = 6 by omega) with rfl | rfl | rfl | rfl | rfl | rfl | rfl <;> rfl
theorem z_dvX3 : ∀ j, j < 2 → defaultValue (tyX3 j) = vp_V [.null, .null] j := by
  intro j hj
  rcases (show j = 0 ∨ j = 1 by omega) with rfl | rfl <;> rfl
theorem z_dvX4 : ∀ j, j < 12 → defaultValue (tyX4 j) = vp_V [.null, .null, .null, .null, .null, .null, .null, .null, .int 0, .int 0, .int 0, .int 0] j := by
  intro j hj
  rcases (show j = 0 ∨ j = 1 ∨ j = 2 ∨ j = 3 ∨ j = 4 ∨ j = 5 ∨ j = 6 ∨ j = 7 ∨ j = 8 ∨ j = 9 ∨ j = 10 ∨ j = 11 by omega) with rfl | rfl | rfl | rfl | rfl | rfl | rfl | rfl | rfl | rfl | rfl | rfl <;> rfl
variable {p : Program} {l : Launch} {e : Env} {R : Room} {s : State} {m : MethodId} {args : Array Value} {below : List Frame} {meth : Method} {c : Code} {Q : State → Prop} {D : va_G} {cl : List vw_C} {A : Nat → Prop} {tys : List (ClassId × FieldType)} {cc : ByteArray} {nL : Nat} {own : String} {Ts : List Cond} {sa : Nat → Nat} {ret : Option FieldType}
variable {cn cells slots : Nat} {ws ws' : va_W} {lv lv' : List (Nat × Value)} {pc : Nat} {st rest : List Value}
theorem z_objInit (C : zK sa D cl tys A p s m args meth c cc nL own Ts ret) {idx : Nat} {a : Nat} (h1 : Cond.methodLink own idx objectInit ∈ Ts) (h2 : Cond.instanceMethod objectInit ∈ Ts) (h3 : Cond.code objectInit ⟨#[0xb1]⟩ 1 none ∈ Ts) (hR : 1 ≤ R.frames ∧ (st.map fun v => v.category).sum + 12 ≤ R.locals) (hdg : decode cc pc = .ok (.invokespecial idx, 3)) (kk : zW cn p l e R s m args below meth c Q D cl A nL cells slots ws lv (pc + 3) st) : zW cn p l e R s m args below meth c Q D cl A nL cells slots ws lv pc (.ref a :: st) :=
  fun H locs ls hP hD hS hl => W.objInit C.1 C.2.1 C.2.2.2.1 (C.2.2.2.2.1 _ h1) (C.2.2.2.2.1 _ h2) (C.2.2.2.2.1 _ h3) rfl (by rw [C.2.2.1]; exact hl.1) rfl hdg hR.1 (by show 2 * 0 + _ + 12 ≤ _; have := hR.2; omega) (kk H locs ls hP hD hS hl)
theorem z_new (C : zK sa D cl tys A p s m args meth c cc nL own Ts ret) {C9 : String} {T : u_T} {N ci index : Nat} {fs : List Value} (hin : ∀ w ∈ u_ws C9 T N, w ∈ Ts) (ty : Nat → FieldType) (hty : ∀ k, k < N → parseFieldDescriptor (T k).2.2.1 = some (ty k)) (hcl : Cond.classLink own index C9 ∈ Ts) (hinst : Cond.instantiable C9 N ∈ Ts) (hini : Cond.initialized C9 ∈ Ts) (hc : cl[ci]? = some (C9, T, N)) (hfs : ∀ j, j < N → defaultValue (ty j) = vp_V fs j) (hR : cells + 1 ≤ R.cells ∧ slots + N ≤ R.slots) (hdg : decode cc pc = .ok (.new index, 3))
    (kk : ∀ q : Nat, zW 0 p l e R s m args below meth c Q D cl A nL (cells + 1) (slots + N) (ws ++ [(q, .inr (ci, fs))]) lv (pc + 3) (.ref q :: st)) : zW cn p l e R s m args below meth c Q D cl A nL cells slots ws lv pc st :=
  fun H locs ls hP hD hS hl => va_new C.1 C.2.1 C.2.2.2.2.1 hin ty hty C.2.2.2.1 (C.2.2.2.2.1 _ hcl) (C.2.2.2.2.1 _ hinst) (C.2.2.2.2.1 _ hini) C.2.2.2.2.2.1 hP hD hS.1 C.2.2.2.2.2.2.1 hc hfs hR.1 hR.2 hdg (fun q H1 hP1 hD1 hS1 => kk q H1 locs ls hP1 hD1 ⟨hS1, hS1.1⟩ hl)
theorem z_ncls {U : State} {c1 c2 : ClassId} {ty : FieldType} (h1 : va_RA U c1 ty) (h2 : va_RA U c2 ty) (hp : refKind ty = false) : c1 = c2 := by
  cases ty with
  | object C => cases hp
  | _ => exact Option.some.inj (h1.symm.trans h2)
theorem z_newaI (C : zK sa D cl tys A p s m args meth c cc nL own Ts ret) {cA : ClassId} (harr : Cond.arrayClass .int ∈ Ts) (t0 : Nat) (ht : tys[t0]? = some (cA, .int)) {n : Int32} {N : Nat} (hn : ¬ n < 0) (hN : n.toNatClampNeg = N) (hb9 : N ≤ 1000) (hR : cells + 1 ≤ R.cells ∧ slots + N ≤ R.slots) (hdg : decode cc pc = .ok (.newarray .int, 2))
    (kk : ∀ q : Nat, zW 0 p l e R s m args below meth c Q D cl A nL (cells + 1) (slots + N) (ws ++ [(q, .inl (cA, N, .inl (fun _ => 0)))]) lv (pc + 2) (.ref q :: st)) : zW cn p l e R s m args below meth c Q D cl A nL cells slots ws lv pc (.int n :: st) := by
  intro H locs ls hP hD hS hl
  have hb8 : N * componentBytes FieldType.int ≤ 536870912 := Nat.le_trans (Nat.mul_le_mul hb9 (show componentBytes FieldType.int ≤ 8 by decide)) (by decide)
  refine va_newa (atype := .int) (ty := .int) (a0 := (N, .inl (fun _ => 0))) C.1 C.2.1 (C.2.2.2.2.1 _ harr) rfl C.2.2.2.2.2.1 hP hD hS.1 C.2.2.2.2.2.2.1 (fun cA => rfl) hn hN hb8 hR.1 hR.2 hdg (fun q c9 H1 hK1 hP1 hD1 hS1 => ?_)
  have e9 : c9 = cA := by
    have g1 := (hK1.2 tys.length (c9, .int) (by simp)).2
    have g2 := (C.2.2.2.2.2.1.2 t0 (cA, .int) ht).2
    exact z_ncls g1 g2 rfl
  subst e9
  exact kk q H1 locs ls hP1 hD1 ⟨hS1, hS1.1⟩ hl
theorem z_newaZ (C : zK sa D cl tys A p s m args meth c cc nL own Ts ret) {cA : ClassId} (harr : Cond.arrayClass .boolean ∈ Ts) (t0 : Nat) (ht : tys[t0]? = some (cA, .boolean)) {n : Int32} {N : Nat} (hn : ¬ n < 0) (hN : n.toNatClampNeg = N) (hb9 : N ≤ 1000) (hR : cells + 1 ≤ R.cells ∧ slots + N ≤ R.slots) (hdg : decode cc pc = .ok (.newarray .boolean, 2))
    (kk : ∀ q : Nat, zW 0 p l e R s m args below meth c Q D cl A nL (cells + 1) (slots + N) (ws ++ [(q, .inl (cA, N, .inl (fun _ => 0)))]) lv (pc + 2) (.ref q :: st)) : zW cn p l e R s m args below meth c Q D cl A nL cells slots ws lv pc (.int n :: st) := by
  intro H locs ls hP hD hS hl
  have hb8 : N * componentBytes FieldType.boolean ≤ 536870912 := Nat.le_trans (Nat.mul_le_mul hb9 (show componentBytes FieldType.boolean ≤ 8 by decide)) (by decide)
  refine va_newa (atype := .boolean) (ty := .boolean) (a0 := (N, .inl (fun _ => 0))) C.1 C.2.1 (C.2.2.2.2.1 _ harr) rfl C.2.2.2.2.2.1 hP hD hS.1 C.2.2.2.2.2.2.1 (fun cA => rfl) hn hN hb8 hR.1 hR.2 hdg (fun q c9 H1 hK1 hP1 hD1 hS1 => ?_)
  have e9 : c9 = cA := by
    have g1 := (hK1.2 tys.length (c9, .boolean) (by simp)).2
    have g2 := (C.2.2.2.2.2.1.2 t0 (cA, .boolean) ht).2
    exact z_ncls g1 g2 rfl
  subst e9
  exact kk q H1 locs ls hP1 hD1 ⟨hS1, hS1.1⟩ hl
theorem z_newaL (C : zK sa D cl tys A p s m args meth c cc nL own Ts ret) {cA : ClassId} (harr : Cond.arrayClass .long ∈ Ts) (t0 : Nat) (ht : tys[t0]? = some (cA, .long)) {n : Int32} {N : Nat} (hn : ¬ n < 0) (hN : n.toNatClampNeg = N) (hb9 : N ≤ 1000) (hR : cells + 1 ≤ R.cells ∧ slots + N ≤ R.slots) (hdg : decode cc pc = .ok (.newarray .long, 2))
    (kk : ∀ q : Nat, zW 0 p l e R s m args below meth c Q D cl A nL (cells + 1) (slots + N) (ws ++ [(q, .inl (cA, N, .inr (.inl (fun _ => 0))))]) lv (pc + 2) (.ref q :: st)) : zW cn p l e R s m args below meth c Q D cl A nL cells slots ws lv pc (.int n :: st) := by
  intro H locs ls hP hD hS hl
  have hb8 : N * componentBytes FieldType.long ≤ 536870912 := Nat.le_trans (Nat.mul_le_mul hb9 (show componentBytes FieldType.long ≤ 8 by decide)) (by decide)
  refine va_newa (atype := .long) (ty := .long) (a0 := (N, .inr (.inl (fun _ => 0)))) C.1 C.2.1 (C.2.2.2.2.1 _ harr) rfl C.2.2.2.2.2.1 hP hD hS.1 C.2.2.2.2.2.2.1 (fun cA => rfl) hn hN hb8 hR.1 hR.2 hdg (fun q c9 H1 hK1 hP1 hD1 hS1 => ?_)
  have e9 : c9 = cA := by
    have g1 := (hK1.2 tys.length (c9, .long) (by simp)).2
    have g2 := (C.2.2.2.2.2.1.2 t0 (cA, .long) ht).2
    exact z_ncls g1 g2 rfl
  subst e9
  exact kk q H1 locs ls hP1 hD1 ⟨hS1, hS1.1⟩ hl
theorem z_copy (C : zK sa D cl tys A p s m args meth c cc nL own Ts ret) {index : Nat} (h1 : Cond.methodLink own index arraycopyName ∈ Ts) (h2 : Cond.native arraycopyName ∈ Ts) (h3 : Cond.static arraycopyName ∈ Ts) (h4 : Cond.initialized "java/lang/System" ∈ Ts) (q0 q1 : Nat) {a a0 : Nat} {c0 : ClassId} {n0 n1 : Nat} {f g : Nat → Int32} (ha0 : ws[q0]? = some (a0, .inl (c0, n0, .inl f))) (ha1 : ws[q1]? = some (a, .inl (c0, n1, .inl g))) (ht0 : tys[0]? = some (c0, .int))
    {sp dp n : Int32} (hs1 : ¬ sp < 0) (hs2 : ¬ dp < 0) (hs3 : ¬ n < 0) {sp' dp' n' : Nat} (e1 : sp.toNatClampNeg = sp') (e2 : dp.toNatClampNeg = dp') (e3 : n.toNatClampNeg = n') (h5 : sp' + n' ≤ n0) (h6 : dp' + n' ≤ n1) (hR : 1 ≤ R.frames ∧ (st.map fun v => v.category).sum + (nativeFrameWords "java/lang/System" "arraycopy" 5 + 11) ≤ R.locals) (hdg : decode cc pc = .ok (.invokestatic index, 3)) (ws' : va_W) (hw : ws.set q1 (a, .inl (c0, n1, .inl (va_cpy f g sp' dp' n'))) = ws')
    (kk : zW 0 p l e R s m args below meth c Q D cl A nL cells slots ws' lv (pc + 3) st) : zW cn p l e R s m args below meth c Q D cl A nL cells slots ws lv pc (.int n :: .int dp :: .ref a :: .int sp :: .ref a0 :: st) := by
  subst e1; subst e2; subst e3; subst hw
  exact fun H locs ls hP hD hS hl => va_copyi C.1 C.2.1 (by rw [C.2.2.1]; exact hl.1.symm) C.2.2.2.1 (C.2.2.2.2.1 _ h1) (C.2.2.2.2.1 _ h2) (C.2.2.2.2.1 _ h3) (C.2.2.2.2.1 _ h4) C.2.2.2.2.2.1 hP hD hS.1 q0 q1 0 0 ha0 ha1 ht0 ht0 rfl hs1 hs2 hs3 h5 h6 (fun _ _ => rfl) hR.1 hR.2 hdg (fun H1 locs1 hP1 hD1 hS1 => kk H1 locs1 ls hP1 hD1 ⟨hS1, hS1.1⟩ hl)
theorem z_cmp_eq {x y : Int64} : lg_cmp x y = 0 ↔ x = y := by
  unfold lg_cmp
  constructor
  · intro h
    by_cases h1 : y < x
    · rw [if_pos h1] at h; exact absurd h (by decide)
    · rw [if_neg h1] at h
      by_cases h2 : x < y
      · simp [h2] at h
        have h9 : x ≠ y := fun e => Int64.lt_irrefl (e ▸ h2)
        simp [h9] at h
      · exact Int64.le_antisymm (Int64.not_lt.mp h1) (Int64.not_lt.mp h2)
  · intro h
    subst h
    simp
theorem z_cmp_lt {x y : Int64} : lg_cmp x y < 0 ↔ x < y := by
  unfold lg_cmp
  constructor
  · intro h
    by_cases h1 : y < x
    · rw [if_pos h1] at h; exact absurd h (by decide)
    · rw [if_neg h1] at h
      by_cases h2 : x = y
      · rw [if_pos h2] at h; exact absurd h (by decide)
      · rcases Int64.lt_or_le x y with q | q
        · exact q
        · exact absurd (Int64.le_antisymm (Int64.not_lt.mp h1) q) h2
  · intro h
    have h1 : ¬ y < x := Int64.lt_asymm h
    have h2 : ¬ x = y := fun e => Int64.lt_irrefl (e ▸ h)
    rw [if_neg h1, if_neg h2]; decide
theorem z_lcmp_eq (C : zK sa D cl tys A p s m args meth c cc nL own Ts ret) {x y : Int64} {off : Int} {tgt : Nat} (hdg : decode cc pc = .ok (.lcmp, 1)) (hdg2 : decode cc (pc + 1) = .ok (.ifCond .eq off, 3)) (ht : ((pc + 1 : Nat) : Int) + off = (tgt : Int)) (kt : x = y → zW cn p l e R s m args below meth c Q D cl A nL cells slots ws lv tgt st) (kf : ¬ x = y → zW cn p l e R s m args below meth c Q D cl A nL cells slots ws lv (pc + 1 + 3) st) : zW cn p l e R s m args below meth c Q D cl A nL cells slots ws lv pc (.long y :: .long x :: st) :=
  fun H locs ls hP hD hS hl => W.lcmp C.1 C.2.1 hdg (lv_if_eq C.1 C.2.1 hdg2 ht (fun q => kt (z_cmp_eq.mp q) H locs ls hP hD hS hl) (fun q => kf (fun r => q (z_cmp_eq.mpr r)) H locs ls hP hD hS hl))
theorem z_lcmp_ne (C : zK sa D cl tys A p s m args meth c cc nL own Ts ret) {x y : Int64} {off : Int} {tgt : Nat} (hdg : decode cc pc = .ok (.lcmp, 1)) (hdg2 : decode cc (pc + 1) = .ok (.ifCond .ne off, 3)) (ht : ((pc + 1 : Nat) : Int) + off = (tgt : Int)) (kt : ¬ x = y → zW cn p l e R s m args below meth c Q D cl A nL cells slots ws lv tgt st) (kf : x = y → zW cn p l e R s m args below meth c Q D cl A nL cells slots ws lv (pc + 1 + 3) st) : zW cn p l e R s m args below meth c Q D cl A nL cells slots ws lv pc (.long y :: .long x :: st) :=
  fun H locs ls hP hD hS hl => W.lcmp C.1 C.2.1 hdg (lv_if_ne C.1 C.2.1 hdg2 ht (fun q => kt (fun r => q (z_cmp_eq.mpr r)) H locs ls hP hD hS hl) (fun q => kf (z_cmp_eq.mp q) H locs ls hP hD hS hl))
theorem z_lcmp_lt (C : zK sa D cl tys A p s m args meth c cc nL own Ts ret) {x y : Int64} {off : Int} {tgt : Nat} (hdg : decode cc pc = .ok (.lcmp, 1)) (hdg2 : decode cc (pc + 1) = .ok (.ifCond .lt off, 3)) (ht : ((pc + 1 : Nat) : Int) + off = (tgt : Int)) (kt : x < y → zW cn p l e R s m args below meth c Q D cl A nL cells slots ws lv tgt st) (kf : ¬ x < y → zW cn p l e R s m args below meth c Q D cl A nL cells slots ws lv (pc + 1 + 3) st) : zW cn p l e R s m args below meth c Q D cl A nL cells slots ws lv pc (.long y :: .long x :: st) :=
  fun H locs ls hP hD hS hl => W.lcmp C.1 C.2.1 hdg (lv_if_lt C.1 C.2.1 hdg2 ht (fun q => kt (z_cmp_lt.mp q) H locs ls hP hD hS hl) (fun q => kf (fun r => q (z_cmp_lt.mpr r)) H locs ls hP hD hS hl))
theorem z_lcmp_ge (C : zK sa D cl tys A p s m args meth c cc nL own Ts ret) {x y : Int64} {off : Int} {tgt : Nat} (hdg : decode cc pc = .ok (.lcmp, 1)) (hdg2 : decode cc (pc + 1) = .ok (.ifCond .ge off, 3)) (ht : ((pc + 1 : Nat) : Int) + off = (tgt : Int)) (kt : ¬ x < y → zW cn p l e R s m args below meth c Q D cl A nL cells slots ws lv tgt st) (kf : x < y → zW cn p l e R s m args below meth c Q D cl A nL cells slots ws lv (pc + 1 + 3) st) : zW cn p l e R s m args below meth c Q D cl A nL cells slots ws lv pc (.long y :: .long x :: st) :=
  fun H locs ls hP hD hS hl => W.lcmp C.1 C.2.1 hdg (lv_if_ge C.1 C.2.1 hdg2 ht (fun q => kt (fun r => absurd (z_cmp_lt.mpr r) (Int32.not_lt.mpr q)) H locs ls hP hD hS hl) (fun q => kf (z_cmp_lt.mp (Int32.not_le.mp q)) H locs ls hP hD hS hl))
theorem z_ws (ws' : va_W) (h : ws = ws') (kk : zW cn p l e R s m args below meth c Q D cl A nL cells slots ws' lv pc st) : zW cn p l e R s m args below meth c Q D cl A nL cells slots ws lv pc st := h ▸ kk
theorem z_lveq (lv' : List (Nat × Value)) (h : lv = lv') (kk : zW cn p l e R s m args below meth c Q D cl A nL cells slots ws lv' pc st) : zW cn p l e R s m args below meth c Q D cl A nL cells slots ws lv pc st := h ▸ kk
theorem z_iushr (C : zK sa D cl tys A p s m args meth c cc nL own Ts ret) {x y v : Int32} (hdg : decode cc pc = .ok (.iushr, 1)) (hv : (x.toUInt32 >>> (y.toUInt32 &&& Int32.toUInt32 31)).toInt32 = v) (kk : zW cn p l e R s m args below meth c Q D cl A nL cells slots ws lv (pc + 1) (.int v :: st)) : zW cn p l e R s m args below meth c Q D cl A nL cells slots ws lv pc (.int y :: .int x :: st) :=
  fun H locs ls hP hD hS hl => lv_iushr C.1 C.2.1 hdg hv (kk H locs ls hP hD hS hl)
theorem z_ldcw (C : zK sa D cl tys A p s m args meth c cc nL own Ts ret) {index : Nat} {v : Int32} (hm : Cond.constant own index v ∈ Ts) (hdg : decode cc pc = .ok (.ldc_w index, 3)) (kk : zW cn p l e R s m args below meth c Q D cl A nL cells slots ws lv (pc + 3) (.int v :: st)) : zW cn p l e R s m args below meth c Q D cl A nL cells slots ws lv pc st :=
  fun H locs ls hP hD hS hl => lv_ldcw C.1 C.2.1 C.2.2.2.1 (C.2.2.2.2.1 _ hm) hdg (kk H locs ls hP hD hS hl)
end ZS
