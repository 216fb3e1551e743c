/-! entries and ends of methods; throws and catches -/
section ZC
theorem zmet_ofWH {l : Launch} {y : MethodName} {ws ws' : List Cond} {rm : Room} {Pc : Array Value → State → Prop} {Qc : Array Value → State → Outcome → State → Prop} {mc ms : Nat} {free : Addr → Prop} {cc : ByteArray} {maxL : Nat} {ret : Option FieldType} {hh : List (Nat × Nat × Nat × Nat)}
    (hy : plainName y.cls = true) (hw : ws = Cond.codeWith y cc maxL ret hh :: ws')
    (body : ∀ p e s m args below meth c s₁, BodyLoose p l y (headSpec ws rm) cc maxL ret e s m args below meth c s₁ → c.maxLocals = maxL → Pc args s →
      W p l e (headSpec ws rm).room s m args below meth c s.heap [] 0 0 (MQ below Qc args s mc ms free) (entryFrame m args maxL)) : Met l y ws rm Pc Qc mc ms free := by
  refine MetFree.of_bodyS (code := cc) (maxLocals := maxL) (ret := ret) hy ?_ ?_
  · intro args s m h hn
    obtain ⟨m9, meth, c, hn9, h1, h2, h3, h4, -, h5, h6, -⟩ := Cond.codeWith_spec (atoms_spec (ws := ws) h _ (by rw [hw]; exact List.mem_cons_self))
    cases hn.symm.trans hn9
    exact ⟨meth, c, h1, h2, h3, h4, h5, h6⟩
  · intro p e s m args below meth c s₁ B hml hP _
    have hh0 : s₁.heap = s.heap := by rw [B.state]; rfl
    obtain ⟨t, a1, o, b1, b2, b3⟩ := body p e s m args below meth c s₁ B hml hP s₁ hh0 (Stand.of_body B)
    exact ⟨t, o, a1, b1, b2, ⟨b3.1, b3.2⟩⟩
variable {p : Program} {l : Launch} {e : Env} {R : Room} {s : State} {m : MethodId} {args : Array Value} {below : List Frame} {meth : Method} {c : Code} {Q : State → Prop} {D : va_G} {cl : List vw_C} {A : Nat → Prop} {tys : List (ClassId × FieldType)} {cc : ByteArray} {nL : Nat} {own : String} {Ts : List Cond} {sa : Nat → Nat} {ret : Option FieldType}
variable {cells slots : Nat} {ws ws' : va_W} {lv lv' : List (Nat × Value)} {pc : Nat} {st rest : List Value}
def zQi {T : Type} (D : va_G) (cl : List vw_C) (tys : List (ClassId × FieldType)) (A : Nat → Prop) (post : Int32 → T → Prop) (w1 : T → va_W) : Array Value → State → Outcome → State → Prop := va_Qi post (fun u t => va_P D cl (w1 u) t.heap ∧ va_K D cl tys t ∧ va_D A (w1 u)) A
def zQv {T : Type} (D : va_G) (cl : List vw_C) (tys : List (ClassId × FieldType)) (A : Nat → Prop) (post : T → Prop) (w1 : T → va_W) : Array Value → State → Outcome → State → Prop := va_Qv post (fun u t => va_P D cl (w1 u) t.heap ∧ va_K D cl tys t ∧ va_D A (w1 u)) A
def zQx (D : va_G) (cl : List vw_C) (tys : List (ClassId × FieldType)) (A : Nat → Prop) (E : String) (wc : va_W) : String → State → State → Prop := vx_X (S := Unit) (fun _ => True) (fun E1 _ t => E1 = E ∧ va_P D cl wc t.heap ∧ va_K D cl tys t ∧ va_D A wc) A

theorem zMi.of {T : Type} {post : Int32 → T → Prop} {w1 : T → va_W} {y : MethodName} {wsy wsy' : List Cond} {rm : Room} {av : List Value} {wc : va_W} {mc ms : Nat} (hy : plainName y.cls = true) (hw : wsy = Cond.code y cc nL ret :: wsy') (lv0 : List (Nat × Value)) (hlv : lv_args 0 av = lv0) (hsl : (lg_sl av).length ≤ nL) (hown : y.cls = own)
    (body : ∀ (A : Nat → Prop) (p : Program) (e : Env) (s : State) (m : MethodId) (args : Array Value) (below : List Frame) (meth : Method) (c : Code), zK sa D cl tys A p s m args meth c cc nL own wsy ret → meth.name = y.name →
      zW p l e rm s m args below meth c (MQ below (zQi D cl tys A post w1) args s mc ms A) D cl A nL 0 0 wc lv0 0 []) : zMi sa D cl tys l y wsy rm av wc post w1 mc ms := by
  intro sz
  refine Met.ofW (cc := cc) (maxL := nL) (ret := ret) hy hw ?_
  intro p e s m args below meth c s₁ B hml hv
  obtain ⟨rfl, hsz, hP, hK, hD0, hG⟩ := hv
  have hts := atoms_spec (ws := wsy) B.pre
  have hown2 : s.vm.findClass own = some m.cls := by rw [← hown]; exact findClass_of_methodNamed B.named
  subst hsz
  have hD := hD0.self (sz := s.heap.size)
  have hl := lv_entry av (n := nL) hsl
  rw [lg_entry_eq]
  rw [hlv] at hl
  have hA : ∀ q : Nat, s.heap.size ≤ q → va_A wc s.heap.size q := fun q h => Or.inr h
  exact body (va_A wc s.heap.size) p e s m _ below meth c ⟨B.exec, B.bytes, hml, hown2, hts, hK, hA, hG, B.notSynchronized, B.returns⟩ (name_of_methodNamed B.named B.method).1 s.heap [] _ hP hD va_S.rf hl
theorem zMv.of {T : Type} {post : T → Prop} {w1 : T → va_W} {y : MethodName} {wsy wsy' : List Cond} {rm : Room} {av : List Value} {wc : va_W} {mc ms : Nat} (hy : plainName y.cls = true) (hw : wsy = Cond.code y cc nL ret :: wsy') (lv0 : List (Nat × Value)) (hlv : lv_args 0 av = lv0) (hsl : (lg_sl av).length ≤ nL) (hown : y.cls = own)
    (body : ∀ (A : Nat → Prop) (p : Program) (e : Env) (s : State) (m : MethodId) (args : Array Value) (below : List Frame) (meth : Method) (c : Code), zK sa D cl tys A p s m args meth c cc nL own wsy ret → meth.name = y.name →
      zW p l e rm s m args below meth c (MQ below (zQv D cl tys A post w1) args s mc ms A) D cl A nL 0 0 wc lv0 0 []) : zMv sa D cl tys l y wsy rm av wc post w1 mc ms := by
  intro sz
  refine Met.ofW (cc := cc) (maxL := nL) (ret := ret) hy hw ?_
  intro p e s m args below meth c s₁ B hml hv
  obtain ⟨rfl, hsz, hP, hK, hD0, hG⟩ := hv
  have hts := atoms_spec (ws := wsy) B.pre
  have hown2 : s.vm.findClass own = some m.cls := by rw [← hown]; exact findClass_of_methodNamed B.named
  subst hsz
  have hD := hD0.self (sz := s.heap.size)
  have hl := lv_entry av (n := nL) hsl
  rw [lg_entry_eq]
  rw [hlv] at hl
  have hA : ∀ q : Nat, s.heap.size ≤ q → va_A wc s.heap.size q := fun q h => Or.inr h
  exact body (va_A wc s.heap.size) p e s m _ below meth c ⟨B.exec, B.bytes, hml, hown2, hts, hK, hA, hG, B.notSynchronized, B.returns⟩ (name_of_methodNamed B.named B.method).1 s.heap [] _ hP hD va_S.rf hl
theorem zX.of {E : String} {y : MethodName} {wsy wsy' : List Cond} {rm : Room} {av : List Value} {wc : va_W} {mc ms : Nat} (hy : plainName y.cls = true) (hw : wsy = Cond.code y cc nL ret :: wsy') (lv0 : List (Nat × Value)) (hlv : lv_args 0 av = lv0) (hsl : (lg_sl av).length ≤ nL) (hown : y.cls = own)
    (body : ∀ (A : Nat → Prop) (p : Program) (e : Env) (s : State) (m : MethodId) (args : Array Value) (below : List Frame) (meth : Method) (c : Code), zK sa D cl tys A p s m args meth c cc nL own wsy ret → meth.name = y.name → (∀ x ∈ c.exceptionTable.toList, False) →
      zW p l e rm s m args below meth c (vx_MQ below (fun _ _ _ _ => False) (zQx D cl tys A E wc) args s mc ms A) D cl A nL 0 0 wc lv0 0 []) : zX sa D cl tys l y wsy rm av wc E mc ms := by
  intro sz
  refine vx_ofW (cc := cc) (maxL := nL) (ret := ret) hy hw ?_
  intro p e s m args below meth c s₁ B hml ht hv
  obtain ⟨rfl, hsz, hP, hK, hD0, hG⟩ := hv
  have hts := atoms_spec (ws := wsy) B.pre
  have hown2 : s.vm.findClass own = some m.cls := by rw [← hown]; exact findClass_of_methodNamed B.named
  subst hsz
  have hD := hD0.self (sz := s.heap.size)
  have hl := lv_entry av (n := nL) hsl
  rw [lg_entry_eq]
  rw [hlv] at hl
  have hA : ∀ q : Nat, s.heap.size ≤ q → va_A wc s.heap.size q := fun q h => Or.inr h
  exact body (va_A wc s.heap.size) p e s m _ below meth c ⟨B.exec, B.bytes, hml, hown2, hts, hK, hA, hG, B.notSynchronized, B.returns⟩ (name_of_methodNamed B.named B.method).1 ht s.heap [] _ hP hD va_S.rf hl
theorem zMi.ofH {T : Type} {post : Int32 → T → Prop} {w1 : T → va_W} {y : MethodName} {wsy wsy' : List Cond} {rm : Room} {av : List Value} {wc : va_W} {mc ms : Nat} {hh : List (Nat × Nat × Nat × Nat)} (hy : plainName y.cls = true) (hw : wsy = Cond.codeWith y cc nL ret hh :: wsy') (lv0 : List (Nat × Value)) (hlv : lv_args 0 av = lv0) (hsl : (lg_sl av).length ≤ nL) (hown : y.cls = own)
    (body : ∀ (A : Nat → Prop) (p : Program) (e : Env) (s : State) (m : MethodId) (args : Array Value) (below : List Frame) (meth : Method) (c : Code), zK sa D cl tys A p s m args meth c cc nL own wsy ret → meth.name = y.name → c.exceptionTable.toList = tableOf hh →
      zW p l e rm s m args below meth c (MQ below (zQi D cl tys A post w1) args s mc ms A) D cl A nL 0 0 wc lv0 0 []) : zMi sa D cl tys l y wsy rm av wc post w1 mc ms := by
  intro sz
  refine zmet_ofWH (cc := cc) (maxL := nL) (ret := ret) hy hw ?_
  intro p e s m args below meth c s₁ B hml hv
  obtain ⟨rfl, hsz, hP, hK, hD0, hG⟩ := hv
  have hts := atoms_spec (ws := wsy) B.pre
  have hown2 : s.vm.findClass own = some m.cls := by rw [← hown]; exact findClass_of_methodNamed B.named
  subst hsz
  have hD := hD0.self (sz := s.heap.size)
  have hl := lv_entry av (n := nL) hsl
  rw [lg_entry_eq]
  rw [hlv] at hl
  have hA : ∀ q : Nat, s.heap.size ≤ q → va_A wc s.heap.size q := fun q h => Or.inr h
  exact body (va_A wc s.heap.size) p e s m _ below meth c ⟨B.exec, B.bytes, hml, hown2, hts, hK, hA, hG, B.notSynchronized, B.returns⟩ (name_of_methodNamed B.named B.method).1 (vx_table (x := y) B (hts _ (by rw [hw]; exact List.mem_cons_self))) s.heap [] _ hP hD va_S.rf hl
theorem z_iret {T : Type} {post : Int32 → T → Prop} {w1 : T → va_W} {mc ms : Nat} {v : Int32} (C : zK sa D cl tys A p s m args meth c cc nL own Ts (some .int)) (u : T) (hp : post v u) (hw : w1 u = ws) (hc : cells ≤ mc) (hs : slots ≤ ms) (hdg : decode cc pc = .ok (.ireturn, 1)) : zW p l e R s m args below meth c (MQ below (zQi D cl tys A post w1) args s mc ms A) D cl A nL cells slots ws lv pc [.int v] :=
  fun H locs ls hP hD hS hl => W.widen hc hs (W.iret C.1 C.2.1 C.2.2.2.2.2.2.2.2.2 (fun t ht hW => ⟨⟨v, u, rfl, hp, by rw [hw, ht]; exact hP, va_K.moved hW.alike C.2.2.2.2.2.1, by rw [hw]; exact hD⟩, hS.F ht⟩) hS.2.2 hdg C.2.2.2.2.2.2.2.2.1)
theorem z_zret {T : Type} {post : Int32 → T → Prop} {w1 : T → va_W} {mc ms : Nat} {v : Int32} (C : zK sa D cl tys A p s m args meth c cc nL own Ts (some .boolean)) (u : T) (hp : post v u) (hw : w1 u = ws) (hc : cells ≤ mc) (hs : slots ≤ ms) (hn : narrow .boolean (.int v) = .int v) (hdg : decode cc pc = .ok (.ireturn, 1)) : zW p l e R s m args below meth c (MQ below (zQi D cl tys A post w1) args s mc ms A) D cl A nL cells slots ws lv pc [.int v] :=
  fun H locs ls hP hD hS hl => W.widen hc hs (W.zret C.1 C.2.1 C.2.2.2.2.2.2.2.2.2 hn (fun t ht hW => ⟨⟨v, u, rfl, hp, by rw [hw, ht]; exact hP, va_K.moved hW.alike C.2.2.2.2.2.1, by rw [hw]; exact hD⟩, hS.F ht⟩) hS.2.2 hdg C.2.2.2.2.2.2.2.2.1)
theorem z_vret {T : Type} {post : T → Prop} {w1 : T → va_W} {mc ms : Nat} (C : zK sa D cl tys A p s m args meth c cc nL own Ts none) (u : T) (hp : post u) (hw : w1 u = ws) (hc : cells ≤ mc) (hs : slots ≤ ms) (hdg : decode cc pc = .ok (.return_, 1)) : zW p l e R s m args below meth c (MQ below (zQv D cl tys A post w1) args s mc ms A) D cl A nL cells slots ws lv pc [] :=
  fun H locs ls hP hD hS hl => W.widen hc hs (W.vret C.1 C.2.1 C.2.2.2.2.2.2.2.2.2 (fun t ht hW => ⟨⟨u, rfl, hp, by rw [hw, ht]; exact hP, va_K.moved hW.alike C.2.2.2.2.2.1, by rw [hw]; exact hD⟩, hS.F ht⟩) hS.2.2 hdg C.2.2.2.2.2.2.2.2.1)
/-- an E thrown over the frame -/
def zT (p : Program) (l : Launch) (e : Env) (R : Room) (s : State) (m : MethodId) (args : Array Value) (below : List Frame) (meth : Method) (c : Code) (Q : State → Prop) (D : va_G) (cl : List vw_C) (A : Nat → Prop) (nL cells slots : Nat) (ws : va_W) (lv : List (Nat × Value)) (pc : Nat) (st : List Value) (E : String) : Prop :=
  ∀ (H : Heap) (locs : List Loc) (ls : Array Slot) (q : Addr) (ce : Cell), va_P D cl ws H → va_D A ws → va_S A s.heap H locs → lv_has ls nL lv → H[q]? = some ce → ce.vm = .none → s.vm.findClass E = some ce.cls → vx_W p l e R s m args below meth c H locs cells slots Q (F0 m pc ls st) q

theorem z_out {E : String} {mc ms : Nat} (C : zK sa D cl tys A p s m args meth c cc nL own Ts ret) (ht : ∀ x ∈ c.exceptionTable.toList, False) (hc : cells ≤ mc) (hs : slots ≤ ms) : zT p l e R s m args below meth c (vx_MQ below (fun _ _ _ _ => False) (zQx D cl tys A E ws) args s mc ms A) D cl A nL cells slots ws lv pc st E :=
  fun H locs ls q ce hP hD hS hl hq hv hcl => vx_out (fun x hx => (ht x hx).elim) C.2.2.2.2.2.2.2.2.1 hq hv hcl (fun t ht9 ha => ⟨(), trivial, ⟨rfl, by rw [ht9]; exact hP, va_K.moved ha C.2.2.2.2.2.1, hD⟩, hS.F ht9⟩) hS.2.2 hc hs
/-- throw new E("text") -/
theorem z_throwS {E text : String} {names : List String} {ik is ic mc ms : Nat} (C : zK sa D cl tys A p s m args meth c cc nL own Ts ret) (ht : ∀ x ∈ c.exceptionTable.toList, False) (hfl : l.stackTraces = false) (hown : own = RX4)
    (hcls : Bundle.fit E = true) (hnames : ∀ n ∈ names, Bundle.fit n = true) (hk : Cond.classLink own ik E ∈ Ts) (hini : Cond.initialized E ∈ Ts) (hstr : (is, text) ∈ zStr) (hE : E ∈ zEs)
    (hat1 : ∀ w ∈ (vx_atS own ic E names).filter goodWord, w ∈ Ts) (hat2 : ∀ w ∈ (vx_atS own ic E names).filter (fun w => !goodWord w), w = .castable E E ∨ w ∈ zDs.map Cond.declares)
    (hgood : ∀ w ∈ Cond.classLink own ik E :: Cond.initialized E :: vx_atS own ic E names, vx_ot w = true)
    (d0 : decode cc pc = .ok (.new ik, 3)) (d3 : decode cc (pc + 3) = .ok (.dup, 1)) (d4 : decode cc (pc + 4) = .ok (.ldc is, 2)) (d6 : decode cc (pc + 6) = .ok (.invokespecial ic, 3)) (d9 : decode cc (pc + 9) = .ok (.athrow, 1))
    (hR : names.length + 3 < R.frames ∧ (st.map fun v => v.category).sum + (13 * (names.length + 1) + 43) ≤ R.locals ∧ cells + 1 ≤ R.cells ∧ slots + 6 ≤ R.slots) (hc : cells + 1 ≤ mc) (hs : slots + 6 ≤ ms) : zW p l e R s m args below meth c (vx_MQ below (fun _ _ _ _ => False) (zQx D cl tys A E ws) args s mc ms A) D cl A nL cells slots ws lv pc st := by
  intro H locs ls hP hD hS hl
  have hG := C.2.2.2.2.2.2.2.1
  refine vx_throwS (A := A) C.1 C.2.1 hfl C.2.2.2.1 hcls hnames (C.2.2.2.2.1 _ hk) (C.2.2.2.2.1 _ hini) (by rw [hown]; exact hG.1 (is, text) hstr) (vx_hat (B := .castable E E :: zDs.map Cond.declares) (fun w hw => C.2.2.2.2.1 _ (hat1 w hw)) (fun w hw => (hat2 w hw).elim (fun h => by rw [h]; exact List.mem_cons_self) (fun h => List.mem_cons_of_mem _ h)) (fun w hw => (List.mem_cons.mp hw).elim (fun h => by rw [h]; exact va_Nw.use rfl (hG.2.2.1 E hE)) (fun h => by obtain ⟨y, hy, rfl⟩ := List.mem_map.mp h; exact va_Nw.use rfl (hG.2.2.2.2.1 y hy)))) hgood hG.2.2.2.2.2.1 hG.2.2.2.2.2.2 hS (by rw [C.2.2.1]; exact hl.1) d0 d3 d4 d6 d9 (fun x hx => (ht x hx).elim) hR.1 hR.2.1 hR.2.2.1 hR.2.2.2 C.2.2.2.2.2.2.2.2.1 ?_ hS.2.2 hc hs
  intro t ha hz hk9
  refine ⟨(), trivial, ⟨rfl, hP.kept (fun k q hq => hk9 q.1 ((hP k q hq).lt)), va_K.moved ha C.2.2.2.2.2.1, hD⟩, Nat.le_trans hS.1 hz, fun q h1 h2 => ?_⟩
  rw [hk9 q (Nat.lt_of_lt_of_le h1 hS.1)]
  exact hS.2.1 q h1 h2

theorem z_callVx (C : zK sa D cl tys A p s m args meth c cc nL own Ts ret) {y : MethodName} {wsy : List Cond} {rm : Room} {bytes : ByteArray} {maxL mc ms n index : Nat} {ret9 : Option FieldType} {Cn : String} {a : Nat} {As : List Value} {wc : va_W} {E : String} (hM : zX sa D cl tys l y wsy rm (.ref a :: As) wc E mc ms) (cw : CallW R s args own Cn index y bytes maxL ret9 wsy rm mc ms n) (q0 : Nat) {ci : Nat} {fs : List Value} {cq : vw_C} (he : ws[q0]? = some (a, .inr (ci, fs))) (hcl : cl[ci]? = some cq) (hcq : cq.1 = Cn) (hsub : zSub ws wc wc ws) (hn9 : As.length = n) (hst : (rest.map fun v => v.category).sum ≤ 8) (hf : cells + mc ≤ R.cells ∧ slots + ms ≤ R.slots) (hdg : decode cc pc = .ok (.invokevirtual index, 3))
    (kk : zT p l e R s m args below meth c (Q) D cl A nL (cells + mc) (slots + ms) ws lv pc rest E) : zW p l e R s m args below meth c (Q) D cl A nL cells slots ws lv pc (As.reverse ++ .ref a :: rest) := by
  intro H locs ls hP hD hS hl
  have hF : ∀ q : Nat, va_A wc H.size q → A q := zPc.free C (hsub.2.1 A hD) hS
  have hr := vx_runV (l := l) (e := e) (below := below) (meth := meth) (H := H) (locs := locs) (cells := cells) (slots := slots) (g := F0 m pc ls (As.reverse ++ .ref a :: rest)) (As := As) (rest := rest) ⟨C.1, C.2.1, C.2.2.1, C.2.2.2.1, C.2.2.2.2.1⟩ (hM H.size) cw ⟨zPc.blind, (by rw [← hcq]; exact va_recv C.2.2.2.2.2.1 hP hcl he), zPc.at_ C (hsub.1 D cl H hP) (hsub.2.1 A hD) hS⟩ rfl hn9 hl.1 rfl (lv_room hst) hdg hf
  intro T hT X
  rcases hr T hT X with ⟨v, st₀, t, T', L, h0, X', hL, e1, e2, hq, hst9⟩ | ⟨q, st₀, t, T', L, E9, ce, h0, X', hL, e1, e2, ⟨u, hp, ⟨hE, hP1, hK1, hD1⟩, hFr⟩, hce, hcv, hcl9, hst9⟩
  · exact hq.elim
  · subst hE
    obtain ⟨k1, k2, k3⟩ := vx_keep h0 e1 hS (fun q _ h => hF q h) (fun q h => hF q h) hL hFr
    rw [← e1] at hP1
    obtain ⟨g1, g2⟩ := hsub.2.2 D cl A H T'.heap hP hD hF k2 hP1 hD1
    obtain ⟨t2, a1, b1⟩ := kk T'.heap (locs ++ L) ls q ce g1 g2 k3 hl (by rw [e1]; exact hce) hcv hcl9 T' rfl X'
    exact ⟨t2, hst9.trans a1, b1⟩

theorem z_callSx (C : zK sa D cl tys A p s m args meth c cc nL own Ts ret) {y : MethodName} {wsy : List Cond} {rm : Room} {bytes : ByteArray} {maxL mc ms n index : Nat} {ret9 : Option FieldType} {As : List Value} {wc : va_W} {E : String} (hM : zX sa D cl tys l y wsy rm As wc E mc ms) (cw : CallB R s args own index y bytes maxL ret9 wsy rm mc ms n ∧ (Cond.static y).before args s = true) (hsub : zSub ws wc wc ws) (hn9 : As.length = n) (hst : (rest.map fun v => v.category).sum ≤ 8) (hf : cells + mc ≤ R.cells ∧ slots + ms ≤ R.slots) (hdg : decode cc pc = .ok (.invokestatic index, 3))
    (kk : zT p l e R s m args below meth c (Q) D cl A nL (cells + mc) (slots + ms) ws lv pc rest E) : zW p l e R s m args below meth c (Q) D cl A nL cells slots ws lv pc (As.reverse ++ rest) := by
  intro H locs ls hP hD hS hl
  have hF : ∀ q : Nat, va_A wc H.size q → A q := zPc.free C (hsub.2.1 A hD) hS
  have hr := vx_runS (l := l) (e := e) (below := below) (meth := meth) (H := H) (locs := locs) (cells := cells) (slots := slots) (g := F0 m pc ls (As.reverse ++ rest)) (As := As) (rest := rest) ⟨C.1, C.2.1, C.2.2.1, C.2.2.2.1, C.2.2.2.2.1⟩ (hM H.size) cw ⟨zPc.blind, zPc.at_ C (hsub.1 D cl H hP) (hsub.2.1 A hD) hS⟩ rfl hn9 hl.1 rfl (lv_room hst) hdg hf
  intro T hT X
  rcases hr T hT X with ⟨v, st₀, t, T', L, h0, X', hL, e1, e2, hq, hst9⟩ | ⟨q, st₀, t, T', L, E9, ce, h0, X', hL, e1, e2, ⟨u, hp, ⟨hE, hP1, hK1, hD1⟩, hFr⟩, hce, hcv, hcl9, hst9⟩
  · exact hq.elim
  · subst hE
    obtain ⟨k1, k2, k3⟩ := vx_keep h0 e1 hS (fun q _ h => hF q h) (fun q h => hF q h) hL hFr
    rw [← e1] at hP1
    obtain ⟨g1, g2⟩ := hsub.2.2 D cl A H T'.heap hP hD hF k2 hP1 hD1
    obtain ⟨t2, a1, b1⟩ := kk T'.heap (locs ++ L) ls q ce g1 g2 k3 hl (by rw [e1]; exact hce) hcv hcl9 T' rfl X'
    exact ⟨t2, hst9.trans a1, b1⟩

/-- caught by the row x of this method's table -/
theorem z_catch {E name : String} (C : zK sa D cl tys A p s m args meth c cc nL own Ts ret) (pre : List ExceptionTableEntry) (x : ExceptionTableEntry) (suf : List ExceptionTableEntry) (hsplit : c.exceptionTable.toList = pre ++ x :: suf)
    (hpass : ∀ z ∈ pre, z.catchType ≠ 0 ∧ ∃ nm : String, Cond.classLink own z.catchType nm ∈ Ts ∧ (E, nm) ∈ zNcs) (hx : covers x pc = true) (h0 : x.catchType ≠ 0) (hlink : Cond.classLink own x.catchType name ∈ Ts) (hE : E ∈ zEs) (hname : name = E)
    (kk : ∀ q : Nat, zW p l e R s m args below meth c (Q) D cl A nL cells slots ws lv x.handlerPc [.ref q]) : zT p l e R s m args below meth c (Q) D cl A nL cells slots ws lv pc st E := by
  subst hname
  intro H locs ls q ce hP hD hS hl hq hv hcl
  have hG := C.2.2.2.2.2.2.2.1
  refine vx_catch C.2.2.2.1 pre x suf hsplit (fun z hz => ?_) hx h0 (C.2.2.2.2.1 _ hlink) (va_Nw.use rfl (hG.2.2.1 name hE)) hq hv hcl (kk q H locs ls hP hD hS hl)
  obtain ⟨h1, nm, h2, h3⟩ := hpass z hz
  exact Or.inr ⟨h1, nm, C.2.2.2.2.1 _ h2, hG.2.2.2.1 _ h3⟩
end ZC

