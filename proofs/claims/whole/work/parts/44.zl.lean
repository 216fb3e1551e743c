/-! rows for the law: the script, the switch, static calls of methods with a table; what holds between the law's rounds -/
section ZL
variable {p : Program} {l : Launch} {e : Env} {R : Room} {s : State} {m : MethodId} {args : Array Value} {below : List Frame} {meth : Method} {c : Code} {Q : State → Prop} {D : va_G} {cl : List vw_C} {A : Nat → Prop} {tys : List (ClassId × FieldType)} {cc : ByteArray} {nL : Nat} {own : String} {Ts : List Cond} {sa : Nat → Nat} {ret : Option FieldType}
variable {cells slots : Nat} {ws ws' : va_W} {lv lv' : List (Nat × Value)} {pc : Nat} {st rest : List Value}
theorem z_sld (C : zK sa D cl tys A p s m args meth c cc nL own Ts ret) {b L : Nat} {xs : Nat → Int32} (hX : va_X b L xs s s.heap) (hbl : b < s.heap.size) (hbA : ¬ A b) {i : Int32} (k : Nat) (hk : i.toNatClampNeg = k) (hin : vp_in i L) (v : Int32) (hv : xs k = v) (hdg : decode cc pc = .ok (.iaload, 1)) (kk : zW p l e R s m args below meth c Q D cl A nL cells slots ws lv (pc + 1) (.int v :: st)) : zW p l e R s m args below meth c Q D cl A nL cells slots ws lv pc (.int i :: .ref b :: st) := by
  subst hk
  subst hv
  exact fun H locs ls hP hD hS hl => va_sld C.1 C.2.1 hX hbl hbA hS hin hdg (kk H locs ls hP hD hS hl)
theorem z_slen (C : zK sa D cl tys A p s m args meth c cc nL own Ts ret) {b L : Nat} {xs : Nat → Int32} (hX : va_X b L xs s s.heap) (hbl : b < s.heap.size) (hbA : ¬ A b) (hdg : decode cc pc = .ok (.arraylength, 1)) (kk : zW p l e R s m args below meth c Q D cl A nL cells slots ws lv (pc + 1) (.int (nI L) :: st)) : zW p l e R s m args below meth c Q D cl A nL cells slots ws lv pc (.ref b :: st) :=
  fun H locs ls hP hD hS hl => va_slen C.1 C.2.1 hX hbl hbA hS hdg (kk H locs ls hP hD hS hl)
theorem z_tabOut (C : zK sa D cl tys A p s m args meth c cc nL own Ts ret) {dflt lo hi : Int} {offs : Array Int} {len : Nat} {x : Int32} {tgt : Nat} (hdg : decode cc pc = .ok (.tableswitch dflt lo hi offs, len)) (h : x.toInt < lo ∨ hi < x.toInt) (ht : (pc : Int) + dflt = (tgt : Int)) (kk : zW p l e R s m args below meth c Q D cl A nL cells slots ws lv tgt st) : zW p l e R s m args below meth c Q D cl A nL cells slots ws lv pc (.int x :: st) :=
  fun H locs ls hP hD hS hl => lv_tableOut C.1 C.2.1 hdg h ht (kk H locs ls hP hD hS hl)
theorem z_tabIn (C : zK sa D cl tys A p s m args meth c cc nL own Ts ret) {dflt lo hi : Int} {offs : Array Int} {len : Nat} {x : Int32} {off : Int} {tgt : Nat} (hdg : decode cc pc = .ok (.tableswitch dflt lo hi offs, len)) (h1 : ¬ x.toInt < lo) (h2 : ¬ hi < x.toInt) (ho : offs[(x.toInt - lo).toNat]? = some off) (ht : (pc : Int) + off = (tgt : Int)) (kk : zW p l e R s m args below meth c Q D cl A nL cells slots ws lv tgt st) : zW p l e R s m args below meth c Q D cl A nL cells slots ws lv pc (.int x :: st) :=
  fun H locs ls hP hD hS hl => lv_tableIn C.1 C.2.1 hdg h1 h2 ho ht (kk H locs ls hP hD hS hl)
theorem z_lald2 (C : zK sa D cl tys A p s m args meth c cc nL own Ts ret) {a : Nat} (q0 t0 : Nat) {cA : ClassId} {n : Nat} {f : Nat → Int64} (ha : ws[q0]? = some (a, .inl (cA, n, .inr (.inl f)))) (ht : tys[t0]? = some (cA, .long)) {i : Int32} (k : Nat) (hk : i.toNatClampNeg = k) (hin : vp_in i n) (v : Int64) (hv : f k = v) (hdg : decode cc pc = .ok (.laload, 1)) (kk : zW p l e R s m args below meth c Q D cl A nL cells slots ws lv (pc + 1) (.long v :: st)) : zW p l e R s m args below meth c Q D cl A nL cells slots ws lv pc (.int i :: .ref a :: st) := by
  subst hv
  exact z_lald C q0 t0 ha ht k hk hin hdg kk
theorem z_callSWi (C : zK sa D cl tys A p s m args meth c cc nL own Ts ret) {T : Type} {y : MethodName} {wsy : List Cond} {rm : Room} {bytes : ByteArray} {maxL mc ms n index : Nat} {ret9 : Option FieldType} {hh : List (Nat × Nat × Nat × Nat)} {As : List Value} {wc : va_W} {post : Int32 → T → Prop} {w1 : T → va_W} {ws' : T → va_W} (hM : zMi sa D cl tys l y wsy rm As wc post w1 mc ms) (cw : vx_CSW R s args own index y bytes maxL ret9 hh wsy rm mc ms n) (hsub : ∀ u, zSub ws wc (w1 u) (ws' u)) (hex : zIn ws wc) (hn9 : As.length = n) (hst : (rest.map fun v => v.category).sum ≤ 8) (hf : cells + mc ≤ R.cells ∧ slots + ms ≤ R.slots) (hdg : decode cc pc = .ok (.invokestatic index, 3)) (kk : ∀ (r : Int32) (u : T), post r u → zW p l e R s m args below meth c Q D cl A nL (cells + mc) (slots + ms) (ws' u) lv (pc + 3) (.int r :: rest)) : zW p l e R s m args below meth c Q D cl A nL cells slots ws lv pc (As.reverse ++ rest) := by
  intro H locs ls hP hD hS hl
  have hsub0 := hex
  have hF : ∀ q : Nat, va_A wc H.size q → A q := zPc.free C (hsub0.2 A hD) hS
  refine va_calli (vx_runSW (As := As) (rest := rest) ⟨C.1, C.2.1, C.2.2.1, C.2.2.2.1, C.2.2.2.2.1⟩ (hM H.size) cw ⟨zPc.blind, zPc.at_ C (hsub0.1 D cl H hP) (hsub0.2 A hD) hS⟩ rfl hn9 hl.1 rfl (lv_room hst) hdg hf) hS (fun q _ h => hF q h) hF (fun r u t H1 locs1 ht hvm hw hB hz1 hk1 hS1 => ?_)
  obtain ⟨hP1, hK1, hD1⟩ := hB
  rw [ht] at hP1
  obtain ⟨g1, g2⟩ := (hsub u).2.2 D cl A H H1 hP hD hF hk1 hP1 hD1
  exact kk r u hw H1 locs1 ls g1 g2 hS1 hl
theorem z_lim {i L : Nat} (hi : i < 1000000) (hL : L < 1000000) : nI L - 6 < nI i ↔ L < i + 6 := by
  rw [Int32.lt_iff_toInt_lt, show (6 : Int32) = nI 6 from rfl, pk_sub_toInt (a := L) (b := 6) (by omega) (by omega), nI_toInt (n := i) (by omega)]
  omega
theorem z_bank (x : Int32) : (x < 0 ∨ 5 ≤ x) ∨ ∃ b : Nat, b < 5 ∧ x = nI b := by
  rcases pk_ix x (n := 5) (by decide) with h | h | h
  · exact Or.inl (Or.inl h)
  · exact Or.inl (Or.inr h)
  · exact Or.inr h
theorem z_three {x : Int32} (h1 : ¬ x < 0) (h2 : ¬ 2 < x) : ∃ b : Nat, b < 3 ∧ x = nI b := by
  rcases pk_ix x (n := 3) (by decide) with h | h | h
  · exact absurd h h1
  · exfalso
    have h4 : (3 : Int32).toInt ≤ x.toInt := Int32.le_iff_toInt_le.mp h
    have h5 : ¬ (2 : Int32).toInt < x.toInt := fun q => h2 (Int32.lt_iff_toInt_lt.mpr q)
    have e2 : (2 : Int32).toInt = 2 := by decide
    have e3 : (3 : Int32).toInt = 3 := by decide
    omega
  · exact h
theorem z_paym (x : Int32) {n : Nat} (hn : n ≤ 60) : (x < 0 ∨ nI n ≤ x) ∨ ∃ b : Nat, b < n ∧ x = nI b := by
  rcases pk_ix x (n := n) (by omega) with h | h | h
  · exact Or.inl (Or.inl h)
  · exact Or.inl (Or.inr h)
  · exact Or.inr h
/-- between the law's rounds -/
def lwI (frm too pri wai byp ldr bor due lnt rat opn : Nat → Int32) (price cut : Int32) (mk lm le : Nat) : Prop :=
  (mk ≤ 60 ∧ wf5 mk frm ∧ wf5 mk too ∧ wf3 mk pri ∧ bypOK byp pri mk ∧ wfB wai) ∧ (lm ≤ 40 ∧ wf5 lm ldr ∧ wf5 lm bor ∧ le ≤ lm ∧ (∀ j, j < lm → due j = lnt j + lnt j * rat j / 1000) ∧ (∀ j, j < lm → opn j = if j < le then 0 else 1)) ∧ (¬ price < 1 ∧ ¬ 1000 < price ∧ ¬ cut < 0 ∧ ¬ 1000 < cut)
section
variable {frm too pri wai byp ldr bor due lnt rat opn : Nat → Int32} {price cut : Int32} {mk lm le : Nat}
theorem wfB_upd {f : Nat → Int32} {k : Nat} {x : Int32} (h : wfB f) (hx : x = 0 ∨ x = 1) : wfB (upd f k x) := by
  intro p
  unfold upd
  split
  · exact hx
  · exact h p
theorem passF_wfB {L : List Nat} {flo bnd frm too amt : Nat → Int32} {small : Int32} {acc net wai : Nat → Int32} (h : wfB wai) : ∀ b, wfB (passF L flo bnd frm too amt small acc net wai b).2.2.1
  | 0 => h
  | b + 1 => by
    have ih := passF_wfB (L := L) (flo := flo) (bnd := bnd) (frm := frm) (too := too) (amt := amt) (small := small) (acc := acc) (net := net) h b
    rcases hq : nxtQ L (passF L flo bnd frm too amt small acc net wai b).1 (passF L flo bnd frm too amt small acc net wai b).2.1 flo bnd frm too amt (passF L flo bnd frm too amt small acc net wai b).2.2.1 small b with _ | q
    · simp only [passF, hq]; exact ih
    · simp only [passF, hq]; exact wfB_upd ih (Or.inl rfl)
theorem snB_wfB {frm too amt : Nat → Int32} {cn : Nat → Option Nat} {S : Nat} {acc net wai : Nat → Int32} (h : wfB wai) : ∀ k, wfB (snB frm too amt cn S acc net wai k).2.2
  | 0 => h
  | k + 1 => by
    have ih := snB_wfB (frm := frm) (too := too) (amt := amt) (cn := cn) (S := S) (acc := acc) (net := net) h k
    by_cases hb : S.testBit k = true
    · rcases hq : cn k with _ | q
      · simp only [snB, hb, hq, if_true]; exact ih
      · simp only [snB, hb, hq, if_true]; exact wfB_upd ih (Or.inl rfl)
    · simp only [snB, hb]; exact ih
theorem rndF_wfB {L : List Nat} {flo bnd frm too amt : Nat → Int32} {small : Int32} {acc net wai : Nat → Int32} (h : wfB wai) : wfB (rndF L flo bnd frm too amt small acc net wai).2.2.1 := by
  unfold rndF
  split
  · exact snB_wfB (passF_wfB h 5) 5
  · exact passF_wfB h 5
theorem runF_wfB {L : List Nat} {flo bnd frm too amt : Nat → Int32} {small : Int32} : ∀ (f : Nat) {acc net wai : Nat → Int32} {g : Int32}, wfB wai → wfB (runF L flo bnd frm too amt small f acc net wai g).2.2.1
  | 0, _, _, _, _, h => h
  | f + 1, _, _, _, _, h => by
    unfold runF
    split
    · exact rndF_wfB h
    · exact runF_wfB f (rndF_wfB h)
theorem lwI_wai {w : Nat → Int32} (h : lwI frm too pri wai byp ldr bor due lnt rat opn price cut mk lm le) (hw : wfB w) : lwI frm too pri w byp ldr bor due lnt rat opn price cut mk lm le := ⟨⟨h.1.1, h.1.2.1, h.1.2.2.1, h.1.2.2.2.1, h.1.2.2.2.2.1, hw⟩, h.2⟩
theorem lwI_pr {p9 c9 : Int32} (h : lwI frm too pri wai byp ldr bor due lnt rat opn price cut mk lm le) (h1 : ¬ p9 < 1) (h2 : ¬ 1000 < p9) (h3 : ¬ c9 < 0) (h4 : ¬ 1000 < c9) : lwI frm too pri wai byp ldr bor due lnt rat opn p9 c9 mk lm le := ⟨h.1, h.2.1, h1, h2, h3, h4⟩
theorem lwI_pay {u : Nat → Int32} {b o r : Nat} (h : lwI frm too pri wai byp ldr bor due lnt rat opn price cut mk lm le) (hm : mk < 60) (hb : b < 5) (ho : o < 5) (hr : r < 3) (hu : bypOK u (upd pri mk (nI r)) (mk + 1)) : lwI (upd frm mk (nI b)) (upd too mk (nI o)) (upd pri mk (nI r)) (upd wai mk 1) u ldr bor due lnt rat opn price cut (mk + 1) lm le :=
  ⟨⟨by omega, wf5_upd (by omega) h.1.2.1 hb, wf5_upd (by omega) h.1.2.2.1 ho, wf3_upd h.1.2.2.2.1 hr, hu, wfB_upd h.1.2.2.2.2.2 (Or.inr rfl)⟩, h.2⟩
theorem lwI_lend {b o : Nat} {am rt : Int32} (h : lwI frm too pri wai byp ldr bor due lnt rat opn price cut mk lm le) (hm : lm < 40) (hb : b < 5) (ho : o < 5) : lwI frm too pri wai byp (upd ldr lm (nI b)) (upd bor lm (nI o)) (upd due lm (am + am * rt / 1000)) (upd lnt lm am) (upd rat lm rt) (upd opn lm 1) price cut mk (lm + 1) le := by
  obtain ⟨h1, ⟨g1, g2, g3, g4, g5, g6⟩, h3⟩ := h
  refine ⟨h1, ⟨by omega, wf5_upd (by omega) g2 hb, wf5_upd (by omega) g3 ho, by omega, fun j hj => ?_, fun j hj => ?_⟩, h3⟩
  · unfold upd
    by_cases e : j = lm
    · simp only [e, if_true]
    · simp only [e, if_false]; exact g5 j (by omega)
  · unfold upd
    by_cases e : j = lm
    · rw [if_pos e, if_neg (by omega)]
    · rw [if_neg e]; exact g6 j (by omega)
theorem lwI_morn {w u : Nat → Int32} (h : lwI frm too pri wai byp ldr bor due lnt rat opn price cut mk lm le) (hw : wfB w) (hu : ∀ j, j < lm → u j = 0) : lwI frm too pri w byp ldr bor due lnt rat u price cut mk lm lm :=
  ⟨⟨h.1.1, h.1.2.1, h.1.2.2.1, h.1.2.2.2.1, h.1.2.2.2.2.1, hw⟩, ⟨h.2.1.1, h.2.1.2.1, h.2.1.2.2.1, Nat.le_refl _, h.2.1.2.2.2.2.1, fun j hj => by rw [if_pos hj]; exact hu j hj⟩, h.2.2⟩
end
/-- a point of the law, whatever the objects hold -/
def lwW (p : Program) (l : Launch) (e : Env) (R : Room) (s : State) (m : MethodId) (args : Array Value) (below : List Frame) (meth : Method) (c : Code) (Q : State → Prop) (D : va_G) (A : Nat → Prop) (cI cZ cL : ClassId) (ad md : Nat → Nat) (oa b i cells slots pc : Nat) : Prop :=
  ∀ (acc net tacc tnet flo bnd frm too amt pri wai byp ldr bor due plg clo pap cnd : Nat → Int32) (small price cut proc : Int32) (mk lm le : Nat) (og : Nat → Int64) (fst lnt rat opn : Nat → Int32) (thr : Int32), lwI frm too pri wai byp ldr bor due lnt rat opn price cut mk lm le →
    zW p l e R s m args below meth c Q D vwCl A 7 cells slots (wX ad cI cZ acc net tacc tnet flo bnd frm too amt pri wai byp ldr bor due plg clo pap cnd small price cut proc (nI mk) (nI lm) (nI le) ++ [(oa, .inl (cL, 1, .inr (.inl og)))] ++ wM md cI cZ acc flo pap clo net bnd frm too amt pri wai fst ldr bor lnt rat plg opn (nI mk) small (nI lm) price cut proc thr) [(0, .ref b), (1, .ref (ad 0)), (2, .ref (md 0)), (3, .ref oa), (4, .int (nI i))] pc []
end ZL
