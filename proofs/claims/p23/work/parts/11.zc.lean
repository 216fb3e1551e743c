/-! entries and ends of methods; throws and catches -/
section ZC
theorem zmet_ofWH {l : Launch} {y : MethodName} {ws ws' : List Cond} {rm : Room} {Pc : Array Value → State → Prop} {Qc : Array Value → State → Outcome → State → Prop} {mc ms : Nat} {free : Addr → Prop} {cc : ByteArray} {maxL : Nat} {ret : Option FieldType} {hh : List (Nat × Nat × Nat × Nat)}
    (hy : plainName y.cls = true) (hw : ws = Cond.codeWith y cc maxL ret hh :: ws')
    (body : ∀ p e s m args below meth c s₁, BodyLoose p l y (headSpec ws rm) cc maxL ret e s m args below meth c s₁ → c.maxLocals = maxL → Pc args s →
      W p l e (headSpec ws rm).room s m args below meth c s.heap [] 0 0 (MQ below Qc args s mc ms free) (entryFrame m args maxL)) : Met l y ws rm Pc Qc mc ms free := by
  refine MetFree.of_bodyS (code := cc) (maxLocals := maxL) (ret := ret) hy ?_ ?_
  · intro args s m h hn
    obtain ⟨m9, meth, c, hn9, h1, h2, h3, h4, -, h5, h6, -⟩ := Cond.codeWith_spec (atoms_spec (ws := ws) h _ (by rw [hw]; exact List.mem_cons_self))
    cases hn.symm.trans hn9
    exact ⟨meth, c, h1, h2, h3, h4, h5, h6⟩
  · intro p e s m args below meth c s₁ B hml hP _
    have hh0 : s₁.heap = s.heap := by rw [B.state]; rfl
    obtain ⟨t, a1, o, b1, b2, b3⟩ := body p e s m args below meth c s₁ B hml hP s₁ hh0 (Stand.of_body B)
    exact ⟨t, o, a1, b1, b2, ⟨b3.1, b3.2⟩⟩
section
variable {p : Program} {l : Launch} {e : Env} {R : Room} {s : State} {m : MethodId} {args : Array Value} {below : List Frame} {meth : Method} {c : Code} {H : Heap} {locs : List Loc} {cells slots : Nat} {Q : State → Prop}
variable {mc ms : Nat} {free : Addr → Prop} {A0 A1 : Nat → Prop} {H0 : Heap} {a : Array Value} {ls : Array Slot} {st0 rest : List Value}
variable {Qc : Array Value → State → Outcome → State → Prop} {XC : String → State → State → Prop}
/-- 'throw new E("text")': new; dup; ldc; invokespecial; athrow -/
theorem vx_throwS9 {cc : ByteArray} {pc : Nat} (hexec : p.tables.exec = Jvm.exec) (hb : c.code = cc) (hl : l.stackTraces = false) {own cls text : String} {names : List String} {ik is ic mc ms sa : Nat} {A : Nat → Prop}
    (hown : s.vm.findClass own = some m.cls) (hcls : Bundle.fit cls = true) (hnames : ∀ n ∈ names, Bundle.fit n = true)
    (hk : (Cond.classLink own ik cls).before args s = true) (hini : (Cond.initialized cls).before args s = true) (hstr : vk_R own is text sa s) (hat : ∀ w ∈ vx_atS own ic cls names, w.before args s = true)
    (hgood : ∀ w ∈ Cond.classLink own ik cls :: Cond.initialized cls :: vx_atS own ic cls names, vx_ot w = true)
    (hU : vx_Zq Bundle.tN "UNASSIGNED_STACK" Bundle.steD A s s.heap) (hN : vx_Zq Bundle.tN "SUPPRESSED_SENTINEL" Bundle.listD A s s.heap) (hS : va_S A s.heap H locs) (hsize : ls.size = c.maxLocals)
    (d0 : decode cc pc = .ok (.new ik, 3)) (d3 : decode cc (pc + 3) = .ok (.dup, 1)) (d4 : decode cc (pc + 4) = .ok (.ldc is, 2)) (d6 : decode cc (pc + 6) = .ok (.invokespecial ic, 3)) (d9 : decode cc (pc + 9) = .ok (.athrow, 1))
    (hout : ∀ x ∈ c.exceptionTable.toList, covers x (pc + 9) = false)
    (hRframes : names.length + 3 < R.frames) (hRlocals : (rest.map fun v => v.category).sum + (13 * (names.length + 1) + 43) ≤ R.locals) (hRcells : cells + 1 ≤ R.cells) (hRslots : slots + 6 ≤ R.slots) (hlocks : meth.locks = false)
    (hx : ∀ t : State, s.vm.Alike t.vm → H.size + 1 ≤ t.heap.size → (∀ q : Nat, q < H.size → t.heap[q]? = H[q]?) → XC cls s t)
    (hf : ∀ z ∈ locs, free z.base) (hc : cells + 1 ≤ mc) (hs : slots + 6 ≤ ms) :
    W p l e R s m args below meth c H locs cells slots (vx_MQ below Qc XC args s mc ms free) (F0 m pc ls rest) := by
  intro T hT X
  have htr : e.platform.stackTraces = false := (show e.platform.stackTraces = l.stackTraces by rw [X.admits.platform]).trans hl
  have Y := vx_rebase X (R' := { frames := R.frames, locals := R.locals, cells := 1, slots := 6 }) (Nat.le_refl _) (Nat.le_refl _) hRcells hRslots
  obtain ⟨s', hA⟩ : ∃ z, z = (T.setVm s.vm).setFrames (.invoking m args :: below) := ⟨_, rfl⟩
  rw [← hA] at Y
  have hvm : s'.vm = s.vm := by rw [hA]; rfl
  have hhp : s'.heap = H := by rw [hA]; exact hT
  have hW0 : s.WarmedH s'.vm := by rw [hvm]; exact State.WarmedH.refl s
  have hat' : ∀ w ∈ vx_atS own ic cls names, w.before args s' = true := fun w hw => vx_ot_at hW0 hvm.symm (hgood w (List.mem_cons_of_mem _ (List.mem_cons_of_mem _ hw))) (hat w hw)
  have hk' : (Cond.classLink own ik cls).before args s' = true := vx_ot_at hW0 hvm.symm (hgood _ List.mem_cons_self) hk
  have hini' : (Cond.initialized cls).before args s' = true := vx_ot_at hW0 hvm.symm (hgood _ (List.mem_cons_of_mem _ List.mem_cons_self)) hini
  have hU' : vx_Zq Bundle.tN "UNASSIGNED_STACK" Bundle.steD A s' s'.heap := by rw [hhp]; exact vx_Zq.moved hW0.alike (hU.kept hS.2.1)
  have hN' : vx_Zq Bundle.tN "SUPPRESSED_SENTINEL" Bundle.listD A s' s'.heap := by rw [hhp]; exact vx_Zq.moved hW0.alike (hN.kept hS.2.1)
  have h : ∀ w ∈ Bundle.ownAtoms own ic cls names, w.before args s' = true := vx_own hat' (vx_isRefq hU'.1) (vx_isRefq hN'.1) hU'.2.word hN'.2.word
  have hown' : s'.vm.findClass own = some m.cls := by rw [hvm]; exact hown
  have hins : (Cond.instantiable cls 6).before args s' = true := h _ (by simp [Bundle.ownAtoms])
  obtain ⟨vm₁, cX, kX, hfX, hkX, -, -, X₁, st1⟩ := Y.newCold hexec (own := own) (C := cls) (index := ik) (n := 6) hown' hk' hins hini'
    (g := F0 m pc ls rest) rfl (by rw [hb]; exact d0) (Nat.le_refl _) (Nat.le_refl _)
  generalize hT1 : (T.setVm vm₁).pushCell { cls := cX, slots := kX.instanceTypes.map defaultValue, vm := .none } = T1 at X₁ st1
  have hcat : (Value.ref T.heap.size).category = 1 := rfl
  have hcellA : T1.heap[T.heap.size]? = some (freshCell cX kX) := by rw [← hT1]; exact State.heap_pushCell_size _ _
  have d3' : decode c.code (pc + 3) = .ok (.dup, 1) := by rw [hb]; exact d3
  have d4' : decode c.code (pc + 4) = .ok (.ldc is, 2) := by rw [hb]; exact d4
  have hstr' : vk_R own is text sa s' := vk_R.warm hW0 hstr
  obtain ⟨U, hsteps, hrun, hend, hW, hsame, ce, hce, hO⟩ := X₁.ctorThrowS hexec htr (own := own) (cls := cls) (names := names) (ic := ic) hown' hcls hnames h (fun x hx => nomatch hx) hfX hkX hcellA (by rw [hhp, hT]; exact Nat.le_refl _) (msg := .ref sa) rfl
    (g := { method := m, pc := pc + 6, locals := ls, stack := .ref sa :: .ref T.heap.size :: .ref T.heap.size :: rest, locked := none }) rfl hsize rfl rfl (rest := rest) rfl
    (by rw [hb]; exact d6) (by rw [hb]; exact d9) hout hRframes (by simp only [List.map_cons, List.sum_cons, hcat]; omega) hlocks
  obtain ⟨f1, f2⟩ := vx_frame hsame
  rw [hhp] at f1 f2
  have hWs : s.WarmedH U.vm := State.WarmedH.trans hW0 hW
  have hcl : s.vm.findClass cls = some ce.cls := by
    have h9 := hO.cls
    rw [hvm] at h9
    exact h9
  have hall : s.sameButNew ({ U with vm := s.vm } : State) locs mc ms := by
    subst hA
    obtain ⟨e1, e2⟩ := hsame
    rw [State.setFrames_setFrames] at e1
    have h2 : (T.setVm s.vm).sameButNew ({ U with vm := s.vm } : State) [] (0 + 1) (0 + 6) := ⟨e1, e2⟩
    have h3 := X.same.trans h2
    rw [List.append_nil] at h3
    exact h3.mono hc hs
  refine ⟨U, ?_, .threw T.heap.size, hrun, hend, Or.inr ⟨T.heap.size, rfl, cls, ce, locs, hx U hWs.alike (by have h9 := (Array.getElem?_eq_some_iff.mp hce).1; rw [hT] at h9; exact h9) (fun q hq => f2 q hq (fun z hz => nomatch hz)), hce, hO.vm, hcl, hWs, hall, hf⟩⟩
  refine st1 _ ?_
  show Steps p.tables e below (T1.setTop { method := m, pc := pc + 3, locals := ls, stack := .ref T.heap.size :: rest, locked := none }) _
  jvm_step X₁.here [X₁.here.top, hexec, d3', Value.category]
  exact X₁.ldcString hexec (own := own) (text := text) (index := is) (a := sa) hown' hstr'.1 hstr'.2
    (g := { method := m, pc := pc + 4, locals := ls, stack := .ref T.heap.size :: .ref T.heap.size :: rest, locked := none }) rfl d4' _ hsteps
end
variable {p : Program} {l : Launch} {e : Env} {R : Room} {s : State} {m : MethodId} {args : Array Value} {below : List Frame} {meth : Method} {c : Code} {Q : State → Prop} {D : va_G} {cl : List vw_C} {A : Nat → Prop} {tys : List (ClassId × FieldType)} {cc : ByteArray} {nL : Nat} {own : String} {Ts : List Cond} {sa : Nat → Nat} {ret : Option FieldType}
variable {cn cells slots : Nat} {ws ws' : va_W} {lv lv' : List (Nat × Value)} {pc : Nat} {st rest : List Value}
def zQi {T : Type} (D : va_G) (cl : List vw_C) (tys : List (ClassId × FieldType)) (A : Nat → Prop) (post : Int32 → T → Prop) (w1 : T → va_W) : Array Value → State → Outcome → State → Prop := va_Qi post (fun u t => va_P D cl (w1 u) t.heap ∧ va_K D cl tys t ∧ va_D A (w1 u)) A
def zQv {T : Type} (D : va_G) (cl : List vw_C) (tys : List (ClassId × FieldType)) (A : Nat → Prop) (post : T → Prop) (w1 : T → va_W) : Array Value → State → Outcome → State → Prop := va_Qv post (fun u t => va_P D cl (w1 u) t.heap ∧ va_K D cl tys t ∧ va_D A (w1 u)) A
def zQl {T : Type} (D : va_G) (cl : List vw_C) (tys : List (ClassId × FieldType)) (A : Nat → Prop) (post : Int64 → T → Prop) (w1 : T → va_W) : Array Value → State → Outcome → State → Prop := va_Ql post (fun u t => va_P D cl (w1 u) t.heap ∧ va_K D cl tys t ∧ va_D A (w1 u)) A
def zQn {T : Type} (N : Nat) (D : va_G) (cl : List vw_C) (tys : List (ClassId × FieldType)) (A : Nat → Prop) (post : Int32 → T → Prop) (w1 : T → va_W) : Array Value → State → Outcome → State → Prop := va_Qi post (fun u t => (va_P D cl (w1 u) t.heap ∧ va_K D cl tys t ∧ va_D A (w1 u)) ∧ N ≤ t.heap.size) A
def zQx (N : Nat) (D : va_G) (cl : List vw_C) (tys : List (ClassId × FieldType)) (A : Nat → Prop) (E : String) (wc : va_W) : String → State → State → Prop := vx_X (S := Unit) (fun _ => True) (fun E1 _ t => E1 = E ∧ (va_P D cl wc t.heap ∧ va_K D cl tys t ∧ va_D A wc) ∧ N ≤ t.heap.size) A

theorem zMi.of {T : Type} {post : Int32 → T → Prop} {w1 : T → va_W} {y : MethodName} {wsy wsy' : List Cond} {rm : Room} {av : List Value} {wc : va_W} {mc ms : Nat} (hy : plainName y.cls = true) (hw : wsy = Cond.code y cc nL ret :: wsy') (lv0 : List (Nat × Value)) (hlv : lv_args 0 av = lv0) (hsl : (lg_sl av).length ≤ nL) (hown : y.cls = own)
    (body : ∀ (A : Nat → Prop) (p : Program) (e : Env) (s : State) (m : MethodId) (args : Array Value) (below : List Frame) (meth : Method) (c : Code), zK sa D cl tys A p s m args meth c cc nL own wsy ret → meth.name = y.name →
      zW 0 p l e rm s m args below meth c (MQ below (zQi D cl tys A post w1) args s mc ms A) D cl A nL 0 0 wc lv0 0 []) : zMi sa D cl tys l y wsy rm av wc post w1 mc ms := by
  intro sz
  refine Met.ofW (cc := cc) (maxL := nL) (ret := ret) hy hw ?_
  intro p e s m args below meth c s₁ B hml hv
  obtain ⟨rfl, hsz, hP, hK, hD0, hG⟩ := hv
  have hts := atoms_spec (ws := wsy) B.pre
  have hown2 : s.vm.findClass own = some m.cls := by rw [← hown]; exact findClass_of_methodNamed B.named
  subst hsz
  have hD := hD0.self (sz := s.heap.size)
  have hl := lv_entry av (n := nL) hsl
  rw [lg_entry_eq]
  rw [hlv] at hl
  have hA : ∀ q : Nat, s.heap.size ≤ q → va_A wc s.heap.size q := fun q h => Or.inr h
  exact body (va_A wc s.heap.size) p e s m _ below meth c ⟨B.exec, B.bytes, hml, hown2, hts, hK, hA, hG, B.notSynchronized, B.returns⟩ (name_of_methodNamed B.named B.method).1 s.heap [] _ hP hD ⟨va_S.rf, Nat.le_refl _⟩ hl
theorem zMv.of {T : Type} {post : T → Prop} {w1 : T → va_W} {y : MethodName} {wsy wsy' : List Cond} {rm : Room} {av : List Value} {wc : va_W} {mc ms : Nat} (hy : plainName y.cls = true) (hw : wsy = Cond.code y cc nL ret :: wsy') (lv0 : List (Nat × Value)) (hlv : lv_args 0 av = lv0) (hsl : (lg_sl av).length ≤ nL) (hown : y.cls = own)
    (body : ∀ (A : Nat → Prop) (p : Program) (e : Env) (s : State) (m : MethodId) (args : Array Value) (below : List Frame) (meth : Method) (c : Code), zK sa D cl tys A p s m args meth c cc nL own wsy ret → meth.name = y.name →
      zW 0 p l e rm s m args below meth c (MQ below (zQv D cl tys A post w1) args s mc ms A) D cl A nL 0 0 wc lv0 0 []) : zMv sa D cl tys l y wsy rm av wc post w1 mc ms := by
  intro sz
  refine Met.ofW (cc := cc) (maxL := nL) (ret := ret) hy hw ?_
  intro p e s m args below meth c s₁ B hml hv
  obtain ⟨rfl, hsz, hP, hK, hD0, hG⟩ := hv
  have hts := atoms_spec (ws := wsy) B.pre
  have hown2 : s.vm.findClass own = some m.cls := by rw [← hown]; exact findClass_of_methodNamed B.named
  subst hsz
  have hD := hD0.self (sz := s.heap.size)
  have hl := lv_entry av (n := nL) hsl
  rw [lg_entry_eq]
  rw [hlv] at hl
  have hA : ∀ q : Nat, s.heap.size ≤ q → va_A wc s.heap.size q := fun q h => Or.inr h
  exact body (va_A wc s.heap.size) p e s m _ below meth c ⟨B.exec, B.bytes, hml, hown2, hts, hK, hA, hG, B.notSynchronized, B.returns⟩ (name_of_methodNamed B.named B.method).1 s.heap [] _ hP hD ⟨va_S.rf, Nat.le_refl _⟩ hl
theorem zX.of {E : String} {y : MethodName} {wsy wsy' : List Cond} {rm : Room} {av : List Value} {wc : va_W} {mc ms : Nat} (hy : plainName y.cls = true) (hw : wsy = Cond.code y cc nL ret :: wsy') (lv0 : List (Nat × Value)) (hlv : lv_args 0 av = lv0) (hsl : (lg_sl av).length ≤ nL) (hown : y.cls = own)
    (body : ∀ (A : Nat → Prop) (p : Program) (e : Env) (s : State) (m : MethodId) (args : Array Value) (below : List Frame) (meth : Method) (c : Code), zK sa D cl tys A p s m args meth c cc nL own wsy ret → meth.name = y.name → (∀ x ∈ c.exceptionTable.toList, False) →
      zW 0 p l e rm s m args below meth c (vx_MQ below (fun _ _ _ _ => False) (zQx (s.heap.size + 1) D cl tys A E wc) args s mc ms A) D cl A nL 0 0 wc lv0 0 []) : zX sa D cl tys l y wsy rm av wc E mc ms := by
  intro sz
  refine vx_ofW (cc := cc) (maxL := nL) (ret := ret) hy hw ?_
  intro p e s m args below meth c s₁ B hml ht hv
  obtain ⟨rfl, hsz, hP, hK, hD0, hG⟩ := hv
  have hts := atoms_spec (ws := wsy) B.pre
  have hown2 : s.vm.findClass own = some m.cls := by rw [← hown]; exact findClass_of_methodNamed B.named
  subst hsz
  have hD := hD0.self (sz := s.heap.size)
  have hl := lv_entry av (n := nL) hsl
  rw [lg_entry_eq]
  rw [hlv] at hl
  have hA : ∀ q : Nat, s.heap.size ≤ q → va_A wc s.heap.size q := fun q h => Or.inr h
  exact body (va_A wc s.heap.size) p e s m _ below meth c ⟨B.exec, B.bytes, hml, hown2, hts, hK, hA, hG, B.notSynchronized, B.returns⟩ (name_of_methodNamed B.named B.method).1 ht s.heap [] _ hP hD ⟨va_S.rf, Nat.le_refl _⟩ hl
theorem zMi.ofH {T : Type} {post : Int32 → T → Prop} {w1 : T → va_W} {y : MethodName} {wsy wsy' : List Cond} {rm : Room} {av : List Value} {wc : va_W} {mc ms : Nat} {hh : List (Nat × Nat × Nat × Nat)} (hy : plainName y.cls = true) (hw : wsy = Cond.codeWith y cc nL ret hh :: wsy') (lv0 : List (Nat × Value)) (hlv : lv_args 0 av = lv0) (hsl : (lg_sl av).length ≤ nL) (hown : y.cls = own)
    (body : ∀ (A : Nat → Prop) (p : Program) (e : Env) (s : State) (m : MethodId) (args : Array Value) (below : List Frame) (meth : Method) (c : Code), zK sa D cl tys A p s m args meth c cc nL own wsy ret → meth.name = y.name → c.exceptionTable.toList = tableOf hh →
      zW 0 p l e rm s m args below meth c (MQ below (zQi D cl tys A post w1) args s mc ms A) D cl A nL 0 0 wc lv0 0 []) : zMi sa D cl tys l y wsy rm av wc post w1 mc ms := by
  intro sz
  refine zmet_ofWH (cc := cc) (maxL := nL) (ret := ret) hy hw ?_
  intro p e s m args below meth c s₁ B hml hv
  obtain ⟨rfl, hsz, hP, hK, hD0, hG⟩ := hv
  have hts := atoms_spec (ws := wsy) B.pre
  have hown2 : s.vm.findClass own = some m.cls := by rw [← hown]; exact findClass_of_methodNamed B.named
  subst hsz
  have hD := hD0.self (sz := s.heap.size)
  have hl := lv_entry av (n := nL) hsl
  rw [lg_entry_eq]
  rw [hlv] at hl
  have hA : ∀ q : Nat, s.heap.size ≤ q → va_A wc s.heap.size q := fun q h => Or.inr h
  exact body (va_A wc s.heap.size) p e s m _ below meth c ⟨B.exec, B.bytes, hml, hown2, hts, hK, hA, hG, B.notSynchronized, B.returns⟩ (name_of_methodNamed B.named B.method).1 (vx_table (x := y) B (hts _ (by rw [hw]; exact List.mem_cons_self))) s.heap [] _ hP hD ⟨va_S.rf, Nat.le_refl _⟩ hl
theorem zMl.of {T : Type} {post : Int64 → T → Prop} {w1 : T → va_W} {y : MethodName} {wsy wsy' : List Cond} {rm : Room} {av : List Value} {wc : va_W} {mc ms : Nat} (hy : plainName y.cls = true) (hw : wsy = Cond.code y cc nL ret :: wsy') (lv0 : List (Nat × Value)) (hlv : lv_args 0 av = lv0) (hsl : (lg_sl av).length ≤ nL) (hown : y.cls = own)
    (body : ∀ (A : Nat → Prop) (p : Program) (e : Env) (s : State) (m : MethodId) (args : Array Value) (below : List Frame) (meth : Method) (c : Code), zK sa D cl tys A p s m args meth c cc nL own wsy ret → meth.name = y.name →
      zW 0 p l e rm s m args below meth c (MQ below (zQl D cl tys A post w1) args s mc ms A) D cl A nL 0 0 wc lv0 0 []) : zMl sa D cl tys l y wsy rm av wc post w1 mc ms := by
  intro sz
  refine Met.ofW (cc := cc) (maxL := nL) (ret := ret) hy hw ?_
  intro p e s m args below meth c s₁ B hml hv
  obtain ⟨rfl, hsz, hP, hK, hD0, hG⟩ := hv
  have hts := atoms_spec (ws := wsy) B.pre
  have hown2 : s.vm.findClass own = some m.cls := by rw [← hown]; exact findClass_of_methodNamed B.named
  subst hsz
  have hD := hD0.self (sz := s.heap.size)
  have hl := lv_entry av (n := nL) hsl
  rw [lg_entry_eq]
  rw [hlv] at hl
  have hA : ∀ q : Nat, s.heap.size ≤ q → va_A wc s.heap.size q := fun q h => Or.inr h
  exact body (va_A wc s.heap.size) p e s m _ below meth c ⟨B.exec, B.bytes, hml, hown2, hts, hK, hA, hG, B.notSynchronized, B.returns⟩ (name_of_methodNamed B.named B.method).1 s.heap [] _ hP hD ⟨va_S.rf, Nat.le_refl _⟩ hl
theorem zNi.of {T : Type} {post : Int32 → T → Prop} {w1 : T → va_W} {kc : Nat} {y : MethodName} {wsy wsy' : List Cond} {rm : Room} {av : List Value} {wc : va_W} {mc ms : Nat} (hy : plainName y.cls = true) (hw : wsy = Cond.code y cc nL ret :: wsy') (lv0 : List (Nat × Value)) (hlv : lv_args 0 av = lv0) (hsl : (lg_sl av).length ≤ nL) (hown : y.cls = own)
    (body : ∀ (A : Nat → Prop) (p : Program) (e : Env) (s : State) (m : MethodId) (args : Array Value) (below : List Frame) (meth : Method) (c : Code), zK sa D cl tys A p s m args meth c cc nL own wsy ret → meth.name = y.name →
      zW 0 p l e rm s m args below meth c (MQ below (zQn (s.heap.size + kc) D cl tys A post w1) args s mc ms A) D cl A nL 0 0 wc lv0 0 []) : zNi kc sa D cl tys l y wsy rm av wc post w1 mc ms := by
  intro sz
  refine Met.ofW (cc := cc) (maxL := nL) (ret := ret) hy hw ?_
  intro p e s m args below meth c s₁ B hml hv
  obtain ⟨rfl, hsz, hP, hK, hD0, hG⟩ := hv
  have hts := atoms_spec (ws := wsy) B.pre
  have hown2 : s.vm.findClass own = some m.cls := by rw [← hown]; exact findClass_of_methodNamed B.named
  subst hsz
  have hD := hD0.self (sz := s.heap.size)
  have hl := lv_entry av (n := nL) hsl
  rw [lg_entry_eq]
  rw [hlv] at hl
  have hA : ∀ q : Nat, s.heap.size ≤ q → va_A wc s.heap.size q := fun q h => Or.inr h
  exact body (va_A wc s.heap.size) p e s m _ below meth c ⟨B.exec, B.bytes, hml, hown2, hts, hK, hA, hG, B.notSynchronized, B.returns⟩ (name_of_methodNamed B.named B.method).1 s.heap [] _ hP hD ⟨va_S.rf, Nat.le_refl _⟩ hl
theorem zNi.ofH {T : Type} {post : Int32 → T → Prop} {w1 : T → va_W} {kc : Nat} {y : MethodName} {wsy wsy' : List Cond} {rm : Room} {av : List Value} {wc : va_W} {mc ms : Nat} {hh : List (Nat × Nat × Nat × Nat)} (hy : plainName y.cls = true) (hw : wsy = Cond.codeWith y cc nL ret hh :: wsy') (lv0 : List (Nat × Value)) (hlv : lv_args 0 av = lv0) (hsl : (lg_sl av).length ≤ nL) (hown : y.cls = own)
    (body : ∀ (A : Nat → Prop) (p : Program) (e : Env) (s : State) (m : MethodId) (args : Array Value) (below : List Frame) (meth : Method) (c : Code), zK sa D cl tys A p s m args meth c cc nL own wsy ret → meth.name = y.name → c.exceptionTable.toList = tableOf hh →
      zW 0 p l e rm s m args below meth c (MQ below (zQn (s.heap.size + kc) D cl tys A post w1) args s mc ms A) D cl A nL 0 0 wc lv0 0 []) : zNi kc sa D cl tys l y wsy rm av wc post w1 mc ms := by
  intro sz
  refine zmet_ofWH (cc := cc) (maxL := nL) (ret := ret) hy hw ?_
  intro p e s m args below meth c s₁ B hml hv
  obtain ⟨rfl, hsz, hP, hK, hD0, hG⟩ := hv
  have hts := atoms_spec (ws := wsy) B.pre
  have hown2 : s.vm.findClass own = some m.cls := by rw [← hown]; exact findClass_of_methodNamed B.named
  subst hsz
  have hD := hD0.self (sz := s.heap.size)
  have hl := lv_entry av (n := nL) hsl
  rw [lg_entry_eq]
  rw [hlv] at hl
  have hA : ∀ q : Nat, s.heap.size ≤ q → va_A wc s.heap.size q := fun q h => Or.inr h
  exact body (va_A wc s.heap.size) p e s m _ below meth c ⟨B.exec, B.bytes, hml, hown2, hts, hK, hA, hG, B.notSynchronized, B.returns⟩ (name_of_methodNamed B.named B.method).1 (vx_table (x := y) B (hts _ (by rw [hw]; exact List.mem_cons_self))) s.heap [] _ hP hD ⟨va_S.rf, Nat.le_refl _⟩ hl
theorem z_iret {T : Type} {post : Int32 → T → Prop} {w1 : T → va_W} {mc ms : Nat} {v : Int32} (C : zK sa D cl tys A p s m args meth c cc nL own Ts (some .int)) (u : T) (hp : post v u) (hw : w1 u = ws) (hc : cells ≤ mc) (hs : slots ≤ ms) (hdg : decode cc pc = .ok (.ireturn, 1)) : zW cn p l e R s m args below meth c (MQ below (zQi D cl tys A post w1) args s mc ms A) D cl A nL cells slots ws lv pc [.int v] :=
  fun H locs ls hP hD hS hl => W.widen hc hs (W.iret C.1 C.2.1 C.2.2.2.2.2.2.2.2.2 (fun t ht hW => ⟨⟨v, u, rfl, hp, by rw [hw, ht]; exact hP, va_K.moved hW.alike C.2.2.2.2.2.1, by rw [hw]; exact hD⟩, hS.1.F ht⟩) hS.1.2.2 hdg C.2.2.2.2.2.2.2.2.1)
theorem z_zret {T : Type} {post : Int32 → T → Prop} {w1 : T → va_W} {mc ms : Nat} {v : Int32} (C : zK sa D cl tys A p s m args meth c cc nL own Ts (some .boolean)) (u : T) (hp : post v u) (hw : w1 u = ws) (hc : cells ≤ mc) (hs : slots ≤ ms) (hn : narrow .boolean (.int v) = .int v) (hdg : decode cc pc = .ok (.ireturn, 1)) : zW cn p l e R s m args below meth c (MQ below (zQi D cl tys A post w1) args s mc ms A) D cl A nL cells slots ws lv pc [.int v] :=
  fun H locs ls hP hD hS hl => W.widen hc hs (W.zret C.1 C.2.1 C.2.2.2.2.2.2.2.2.2 hn (fun t ht hW => ⟨⟨v, u, rfl, hp, by rw [hw, ht]; exact hP, va_K.moved hW.alike C.2.2.2.2.2.1, by rw [hw]; exact hD⟩, hS.1.F ht⟩) hS.1.2.2 hdg C.2.2.2.2.2.2.2.2.1)
theorem z_vret {T : Type} {post : T → Prop} {w1 : T → va_W} {mc ms : Nat} (C : zK sa D cl tys A p s m args meth c cc nL own Ts none) (u : T) (hp : post u) (hw : w1 u = ws) (hc : cells ≤ mc) (hs : slots ≤ ms) (hdg : decode cc pc = .ok (.return_, 1)) : zW cn p l e R s m args below meth c (MQ below (zQv D cl tys A post w1) args s mc ms A) D cl A nL cells slots ws lv pc [] :=
  fun H locs ls hP hD hS hl => W.widen hc hs (W.vret C.1 C.2.1 C.2.2.2.2.2.2.2.2.2 (fun t ht hW => ⟨⟨u, rfl, hp, by rw [hw, ht]; exact hP, va_K.moved hW.alike C.2.2.2.2.2.1, by rw [hw]; exact hD⟩, hS.1.F ht⟩) hS.1.2.2 hdg C.2.2.2.2.2.2.2.2.1)
theorem z_lret {T : Type} {post : Int64 → T → Prop} {w1 : T → va_W} {mc ms : Nat} {v : Int64} (C : zK sa D cl tys A p s m args meth c cc nL own Ts (some .long)) (u : T) (hp : post v u) (hw : w1 u = ws) (hc : cells ≤ mc) (hs : slots ≤ ms) (hdg : decode cc pc = .ok (.lreturn, 1)) : zW cn p l e R s m args below meth c (MQ below (zQl D cl tys A post w1) args s mc ms A) D cl A nL cells slots ws lv pc [.long v] :=
  fun H locs ls hP hD hS hl => W.widen hc hs (W.lret C.1 C.2.1 C.2.2.2.2.2.2.2.2.2 (fun t ht hW => ⟨⟨v, u, rfl, hp, by rw [hw, ht]; exact hP, va_K.moved hW.alike C.2.2.2.2.2.1, by rw [hw]; exact hD⟩, hS.1.F ht⟩) hS.1.2.2 hdg C.2.2.2.2.2.2.2.2.1)
theorem z_iretn {T : Type} {post : Int32 → T → Prop} {w1 : T → va_W} {kc mc ms : Nat} {v : Int32} (C : zK sa D cl tys A p s m args meth c cc nL own Ts (some .int)) (u : T) (hk : kc ≤ cn) (hp : post v u) (hw : w1 u = ws) (hc : cells ≤ mc) (hs : slots ≤ ms) (hdg : decode cc pc = .ok (.ireturn, 1)) : zW cn p l e R s m args below meth c (MQ below (zQn (s.heap.size + kc) D cl tys A post w1) args s mc ms A) D cl A nL cells slots ws lv pc [.int v] :=
  fun H locs ls hP hD hS hl => W.widen hc hs (W.iret C.1 C.2.1 C.2.2.2.2.2.2.2.2.2 (fun t ht hW => ⟨⟨v, u, rfl, hp, ⟨by rw [hw, ht]; exact hP, va_K.moved hW.alike C.2.2.2.2.2.1, by rw [hw]; exact hD⟩, by rw [ht]; have h8 := hS.2; omega⟩, hS.1.F ht⟩) hS.1.2.2 hdg C.2.2.2.2.2.2.2.2.1)
theorem z_zretn {T : Type} {post : Int32 → T → Prop} {w1 : T → va_W} {kc mc ms : Nat} {v : Int32} (C : zK sa D cl tys A p s m args meth c cc nL own Ts (some .boolean)) (u : T) (hk : kc ≤ cn) (hp : post v u) (hw : w1 u = ws) (hc : cells ≤ mc) (hs : slots ≤ ms) (hn : narrow .boolean (.int v) = .int v) (hdg : decode cc pc = .ok (.ireturn, 1)) : zW cn p l e R s m args below meth c (MQ below (zQn (s.heap.size + kc) D cl tys A post w1) args s mc ms A) D cl A nL cells slots ws lv pc [.int v] :=
  fun H locs ls hP hD hS hl => W.widen hc hs (W.zret C.1 C.2.1 C.2.2.2.2.2.2.2.2.2 hn (fun t ht hW => ⟨⟨v, u, rfl, hp, ⟨by rw [hw, ht]; exact hP, va_K.moved hW.alike C.2.2.2.2.2.1, by rw [hw]; exact hD⟩, by rw [ht]; have h8 := hS.2; omega⟩, hS.1.F ht⟩) hS.1.2.2 hdg C.2.2.2.2.2.2.2.2.1)
/-- an E thrown over the frame -/
def zT (cn : Nat) (p : Program) (l : Launch) (e : Env) (R : Room) (s : State) (m : MethodId) (args : Array Value) (below : List Frame) (meth : Method) (c : Code) (Q : State → Prop) (D : va_G) (cl : List vw_C) (A : Nat → Prop) (nL cells slots : Nat) (ws : va_W) (lv : List (Nat × Value)) (pc : Nat) (st : List Value) (E : String) : Prop :=
  ∀ (H : Heap) (locs : List Loc) (ls : Array Slot) (q : Addr) (ce : Cell), va_P D cl ws H → va_D A ws → (va_S A s.heap H locs ∧ s.heap.size + cn ≤ H.size) → lv_has ls nL lv → H[q]? = some ce → ce.vm = .none → s.vm.findClass E = some ce.cls → vx_W p l e R s m args below meth c H locs cells slots Q (F0 m pc ls st) q

theorem z_out {E : String} {mc ms : Nat} (C : zK sa D cl tys A p s m args meth c cc nL own Ts ret) (ht : ∀ x ∈ c.exceptionTable.toList, False) (hc : cells ≤ mc) (hs : slots ≤ ms) : zT (cn + 1) p l e R s m args below meth c (vx_MQ below (fun _ _ _ _ => False) (zQx (s.heap.size + 1) D cl tys A E ws) args s mc ms A) D cl A nL cells slots ws lv pc st E :=
  fun H locs ls q ce hP hD hS hl hq hv hcl => vx_out (fun x hx => (ht x hx).elim) C.2.2.2.2.2.2.2.2.1 hq hv hcl (fun t ht9 ha => ⟨(), trivial, ⟨rfl, ⟨by rw [ht9]; exact hP, va_K.moved ha C.2.2.2.2.2.1, hD⟩, by rw [ht9]; have h8 := hS.2; omega⟩, hS.1.F ht9⟩) hS.1.2.2 hc hs
/-- throw new E("text") -/
theorem z_throwS {E text : String} {names : List String} {ik is ic mc ms : Nat} (C : zK sa D cl tys A p s m args meth c cc nL own Ts ret) (ht : ∀ x ∈ c.exceptionTable.toList, False) (hfl : l.stackTraces = false) (hown : own = RX4)
    (hcls : Bundle.fit E = true) (hnames : ∀ n ∈ names, Bundle.fit n = true) (hk : Cond.classLink own ik E ∈ Ts) (hini : Cond.initialized E ∈ Ts) (hstr : (is, text) ∈ zStr) (hE : E ∈ zEs)
    (hat1 : ∀ w ∈ (vx_atS own ic E names).filter goodWord, w ∈ Ts) (hat2 : ∀ w ∈ (vx_atS own ic E names).filter (fun w => !goodWord w), w = .castable E E ∨ w ∈ zDs.map Cond.declares)
    (hgood : ∀ w ∈ Cond.classLink own ik E :: Cond.initialized E :: vx_atS own ic E names, vx_ot w = true)
    (d0 : decode cc pc = .ok (.new ik, 3)) (d3 : decode cc (pc + 3) = .ok (.dup, 1)) (d4 : decode cc (pc + 4) = .ok (.ldc is, 2)) (d6 : decode cc (pc + 6) = .ok (.invokespecial ic, 3)) (d9 : decode cc (pc + 9) = .ok (.athrow, 1))
    (hR : names.length + 3 < R.frames ∧ (st.map fun v => v.category).sum + (13 * (names.length + 1) + 43) ≤ R.locals ∧ cells + 1 ≤ R.cells ∧ slots + 6 ≤ R.slots) (hc : cells + 1 ≤ mc) (hs : slots + 6 ≤ ms) : zW cn p l e R s m args below meth c (vx_MQ below (fun _ _ _ _ => False) (zQx (s.heap.size + 1) D cl tys A E ws) args s mc ms A) D cl A nL cells slots ws lv pc st := by
  intro H locs ls hP hD hS hl
  have hG := C.2.2.2.2.2.2.2.1
  refine vx_throwS9 (A := A) C.1 C.2.1 hfl C.2.2.2.1 hcls hnames (C.2.2.2.2.1 _ hk) (C.2.2.2.2.1 _ hini) (by rw [hown]; exact hG.1 (is, text) hstr) (vx_hat (B := .castable E E :: zDs.map Cond.declares) (fun w hw => C.2.2.2.2.1 _ (hat1 w hw)) (fun w hw => (hat2 w hw).elim (fun h => by rw [h]; exact List.mem_cons_self) (fun h => List.mem_cons_of_mem _ h)) (fun w hw => (List.mem_cons.mp hw).elim (fun h => by rw [h]; exact va_Nw.use rfl (hG.2.2.1 E hE)) (fun h => by obtain ⟨y, hy, rfl⟩ := List.mem_map.mp h; exact va_Nw.use rfl (hG.2.2.2.2.1 y hy)))) hgood hG.2.2.2.2.2.1 hG.2.2.2.2.2.2 hS.1 (by rw [C.2.2.1]; exact hl.1) d0 d3 d4 d6 d9 (fun x hx => (ht x hx).elim) hR.1 hR.2.1 hR.2.2.1 hR.2.2.2 C.2.2.2.2.2.2.2.2.1 ?_ hS.1.2.2 hc hs
  intro t ha hz hk9
  have h7 := hS.1.1
  refine ⟨(), trivial, ⟨rfl, ⟨hP.kept (fun k q hq => hk9 q.1 ((hP k q hq).lt)), va_K.moved ha C.2.2.2.2.2.1, hD⟩, by omega⟩, by omega, fun q h1 h2 => ?_⟩
  rw [hk9 q (Nat.lt_of_lt_of_le h1 h7)]
  exact hS.1.2.1 q h1 h2

theorem z_callVx (C : zK sa D cl tys A p s m args meth c cc nL own Ts ret) {y : MethodName} {wsy : List Cond} {rm : Room} {bytes : ByteArray} {maxL mc ms n index : Nat} {ret9 : Option FieldType} {Cn : String} {a : Nat} {As : List Value} {wc : va_W} {E : String} (hM : zX sa D cl tys l y wsy rm (.ref a :: As) wc E mc ms) (cw : CallW R s args own Cn index y bytes maxL ret9 wsy rm mc ms n) (q0 : Nat) {ci : Nat} {fs : List Value} {cq : vw_C} (he : ws[q0]? = some (a, .inr (ci, fs))) (hcl : cl[ci]? = some cq) (hcq : cq.1 = Cn) (hsub : zSub ws wc wc ws) (hn9 : As.length = n) (hst : (rest.map fun v => v.category).sum ≤ 8) (hf : cells + mc ≤ R.cells ∧ slots + ms ≤ R.slots) (hdg : decode cc pc = .ok (.invokevirtual index, 3))
    (kk : zT (cn + 1) p l e R s m args below meth c (Q) D cl A nL (cells + mc) (slots + ms) ws lv pc rest E) : zW cn p l e R s m args below meth c (Q) D cl A nL cells slots ws lv pc (As.reverse ++ .ref a :: rest) := by
  intro H locs ls hP hD hS hl
  have hF : ∀ q : Nat, va_A wc H.size q → A q := zPc.free C (hsub.2.1 A hD) hS.1
  have hr := vx_runV (l := l) (e := e) (below := below) (meth := meth) (H := H) (locs := locs) (cells := cells) (slots := slots) (g := F0 m pc ls (As.reverse ++ .ref a :: rest)) (As := As) (rest := rest) ⟨C.1, C.2.1, C.2.2.1, C.2.2.2.1, C.2.2.2.2.1⟩ (hM H.size) cw ⟨zPc.blind, (by rw [← hcq]; exact va_recv C.2.2.2.2.2.1 hP hcl he), zPc.at_ C (hsub.1 D cl H hP) (hsub.2.1 A hD) hS.1⟩ rfl hn9 hl.1 rfl (lv_room hst) hdg hf
  intro T hT X
  rcases hr T hT X with ⟨v, st₀, t, T', L, h0, X', hL, e1, e2, hq, hst9⟩ | ⟨q, st₀, t, T', L, E9, ce, h0, X', hL, e1, e2, ⟨u, hp, ⟨hE, ⟨hP1, hK1, hD1⟩, hN1⟩, hFr⟩, hce, hcv, hcl9, hst9⟩
  · exact hq.elim
  · subst hE
    obtain ⟨k1, k2, k3⟩ := vx_keep h0 e1 hS.1 (fun q _ h => hF q h) (fun q h => hF q h) hL hFr
    rw [← e1] at hP1 hN1
    have h8 := hS.2
    obtain ⟨g1, g2⟩ := hsub.2.2 D cl A H T'.heap hP hD hF k2 hP1 hD1
    obtain ⟨t2, a1, b1⟩ := kk T'.heap (locs ++ L) ls q ce g1 g2 ⟨k3, by omega⟩ hl (by rw [e1]; exact hce) hcv hcl9 T' rfl X'
    exact ⟨t2, hst9.trans a1, b1⟩

theorem z_callSx (C : zK sa D cl tys A p s m args meth c cc nL own Ts ret) {y : MethodName} {wsy : List Cond} {rm : Room} {bytes : ByteArray} {maxL mc ms n index : Nat} {ret9 : Option FieldType} {As : List Value} {wc : va_W} {E : String} (hM : zX sa D cl tys l y wsy rm As wc E mc ms) (cw : CallB R s args own index y bytes maxL ret9 wsy rm mc ms n ∧ (Cond.static y).before args s = true) (hsub : zSub ws wc wc ws) (hn9 : As.length = n) (hst : (rest.map fun v => v.category).sum ≤ 8) (hf : cells + mc ≤ R.cells ∧ slots + ms ≤ R.slots) (hdg : decode cc pc = .ok (.invokestatic index, 3))
    (kk : zT (cn + 1) p l e R s m args below meth c (Q) D cl A nL (cells + mc) (slots + ms) ws lv pc rest E) : zW cn p l e R s m args below meth c (Q) D cl A nL cells slots ws lv pc (As.reverse ++ rest) := by
  intro H locs ls hP hD hS hl
  have hF : ∀ q : Nat, va_A wc H.size q → A q := zPc.free C (hsub.2.1 A hD) hS.1
  have hr := vx_runS (l := l) (e := e) (below := below) (meth := meth) (H := H) (locs := locs) (cells := cells) (slots := slots) (g := F0 m pc ls (As.reverse ++ rest)) (As := As) (rest := rest) ⟨C.1, C.2.1, C.2.2.1, C.2.2.2.1, C.2.2.2.2.1⟩ (hM H.size) cw ⟨zPc.blind, zPc.at_ C (hsub.1 D cl H hP) (hsub.2.1 A hD) hS.1⟩ rfl hn9 hl.1 rfl (lv_room hst) hdg hf
  intro T hT X
  rcases hr T hT X with ⟨v, st₀, t, T', L, h0, X', hL, e1, e2, hq, hst9⟩ | ⟨q, st₀, t, T', L, E9, ce, h0, X', hL, e1, e2, ⟨u, hp, ⟨hE, ⟨hP1, hK1, hD1⟩, hN1⟩, hFr⟩, hce, hcv, hcl9, hst9⟩
  · exact hq.elim
  · subst hE
    obtain ⟨k1, k2, k3⟩ := vx_keep h0 e1 hS.1 (fun q _ h => hF q h) (fun q h => hF q h) hL hFr
    rw [← e1] at hP1 hN1
    have h8 := hS.2
    obtain ⟨g1, g2⟩ := hsub.2.2 D cl A H T'.heap hP hD hF k2 hP1 hD1
    obtain ⟨t2, a1, b1⟩ := kk T'.heap (locs ++ L) ls q ce g1 g2 ⟨k3, by omega⟩ hl (by rw [e1]; exact hce) hcv hcl9 T' rfl X'
    exact ⟨t2, hst9.trans a1, b1⟩

/-- caught by the row x of this method's table -/
theorem z_catch {E name : String} (C : zK sa D cl tys A p s m args meth c cc nL own Ts ret) (pre : List ExceptionTableEntry) (x : ExceptionTableEntry) (suf : List ExceptionTableEntry) (hsplit : c.exceptionTable.toList = pre ++ x :: suf)
    (hpass : ∀ z ∈ pre, z.catchType ≠ 0 ∧ ∃ nm : String, Cond.classLink own z.catchType nm ∈ Ts ∧ (E, nm) ∈ zNcs) (hx : covers x pc = true) (h0 : x.catchType ≠ 0) (hlink : Cond.classLink own x.catchType name ∈ Ts) (hE : E ∈ zEs) (hname : name = E)
    (kk : ∀ q : Nat, zW cn p l e R s m args below meth c (Q) D cl A nL cells slots ws lv x.handlerPc [.ref q]) : zT cn p l e R s m args below meth c (Q) D cl A nL cells slots ws lv pc st E := by
  subst hname
  intro H locs ls q ce hP hD hS hl hq hv hcl
  have hG := C.2.2.2.2.2.2.2.1
  refine vx_catch C.2.2.2.1 pre x suf hsplit (fun z hz => ?_) hx h0 (C.2.2.2.2.1 _ hlink) (va_Nw.use rfl (hG.2.2.1 name hE)) hq hv hcl (kk q H locs ls hP hD hS hl)
  obtain ⟨h1, nm, h2, h3⟩ := hpass z hz
  exact Or.inr ⟨h1, nm, C.2.2.2.2.1 _ h2, hG.2.2.2.1 _ h3⟩
end ZC

