/-! The Z layer: a frame seen as a world and a list of locals; a row an instruction, a row a call. -/
section ZZ
def zStr : List (Nat × String) := [(195, "there is no such bank"), (202, "a value is out of range"), (204, "the bank is closed"), (79, "the account would be too large"), (199, "both banks are the same"), (111, "the bank would have too many papers"), (116, "there are no more payments to be had"), (206, "there is no such payment"), (128, "the payment does not wait"), (142, "there is no such place"), (152, "too many payments wait"), (208, "there are no more loans to be had"), (213, "the pledge does not cover the loan"), (215, "the lender would be below its floor")]
def zEI : String := "java/lang/IndexOutOfBoundsException"
def zEA : String := "java/lang/IllegalArgumentException"
def zES : String := "java/lang/IllegalStateException"
def zEs : List String := ["java/lang/IndexOutOfBoundsException", "java/lang/IllegalArgumentException", "java/lang/IllegalStateException"]
def zNcs : List (String × String) := [("java/lang/IllegalArgumentException", "java/lang/IndexOutOfBoundsException"), ("java/lang/IllegalStateException", "java/lang/IndexOutOfBoundsException"), ("java/lang/IllegalStateException", "java/lang/IllegalArgumentException")]
def zDs : List MethodName := [Bundle.initS "java/lang/RuntimeException", Bundle.initS "java/lang/Exception", Bundle.initS Bundle.tN]
/-- what the methods need beside their words: the texts, the nest mate's link, the exceptions' classes, the two statics of Throwable -/
def zG (sa : Nat → Nat) (A : Nat → Prop) (U : State) (H : Heap) : Prop :=
  (∀ q ∈ zStr, vk_R RX4 q.1 q.2 (sa q.1) U) ∧ va_Nw (.methodLinkNest RX3 18 yX4_pairOf RX4) U ∧ (∀ E ∈ zEs, va_Nw (.castable E E) U) ∧ (∀ q ∈ zNcs, va_Nc q.1 q.2 U) ∧ (∀ y ∈ zDs, va_Nw (.declares y) U) ∧
  vx_Zq Bundle.tN "UNASSIGNED_STACK" Bundle.steD A U H ∧ vx_Zq Bundle.tN "SUPPRESSED_SENTINEL" Bundle.listD A U H
theorem zG.go {sa : Nat → Nat} {A B : Nat → Prop} {s U : State} {H H1 : Heap} (hW : s.WarmedH U.vm) (h : zG sa A s H) (hq : ∀ a : Nat, a < H.size → ¬ A a → H1[a]? = H[a]?) (hAB : ∀ q, B q → A q) : zG sa B U H1 := by
  obtain ⟨h1, h2, h3, h4, h4d, h5, h6⟩ := h
  refine ⟨fun q hq => vk_R.warm hW (h1 q hq), va_Nw.warmM hW h2, fun E hE => ?_, fun q hq => va_Nc.moved hW.alike (h4 q hq), fun y hy => va_Nw.warmD hW (h4d y hy), vx_Zq.moved hW.alike ((h5.kept hq).narrow hAB), vx_Zq.moved hW.alike ((h6.kept hq).narrow hAB)⟩
  have h7 := h3 E hE
  have h8 : (Cond.castable E E).before #[] (s.setVm U.vm) = true := by
    rw [Cond.castable_setVm hW.alike]; exact h7
  exact va_tabs rfl (rfl : (s.setVm U.vm).vm = U.vm) h8
/-- a callee's world wc among ws; behind it w1 in its place: ws' -/
def zSub (ws wc w1 ws' : va_W) : Prop :=
  (∀ (D : va_G) (cl : List vw_C) (H : Heap), va_P D cl ws H → va_P D cl wc H) ∧ (∀ A : Nat → Prop, va_D A ws → va_D A wc) ∧
  ∀ (D : va_G) (cl : List vw_C) (A : Nat → Prop) (H H1 : Heap), va_P D cl ws H → va_D A ws → (∀ q : Nat, va_A wc H.size q → A q) → (∀ q : Nat, q < H.size → ¬ va_A wc H.size q → H1[q]? = H[q]?) → va_P D cl w1 H1 → va_D (va_A wc H.size) w1 → va_P D cl ws' H1 ∧ va_D A ws'
def zIn (ws wc : va_W) : Prop := (∀ (D : va_G) (cl : List vw_C) (H : Heap), va_P D cl ws H → va_P D cl wc H) ∧ ∀ A : Nat → Prop, va_D A ws → va_D A wc
theorem zIn.full {ws : va_W} : zIn ws ws := ⟨fun _ _ _ h => h, fun _ h => h⟩
theorem zIn.none {ws : va_W} : zIn ws [] := ⟨fun _ _ _ _ k q h => by simp at h, fun _ _ => ⟨fun i j p q h => by simp at h, fun k q h => by simp at h⟩⟩
theorem zSub.full {ws w1 : va_W} : zSub ws ws w1 w1 := ⟨fun _ _ _ h => h, fun _ h => h, fun D cl A H H1 hP hD hF hk hP1 hD1 => ⟨hP1, hD1.weaken (fun _ q _ h => hF q.1 h)⟩⟩
theorem zSub.none {ws : va_W} : zSub ws [] [] ws := by
  refine ⟨fun _ _ _ _ k q h => by simp at h, fun _ _ => ⟨fun i j p q h => by simp at h, fun k q h => by simp at h⟩, fun D cl A H H1 hP hD hF hk hP1 hD1 => ⟨hP.kept (fun k q hq => ?_), hD⟩⟩
  have hl := (hP k q hq).lt
  refine hk q.1 hl (fun z => ?_)
  rcases z with ⟨k2, e, h⟩ | h
  · simp at h
  · omega
theorem zfm {ws wc : va_W} : ∀ {is : List Nat}, is.map (fun i => ws[i]?) = wc.map some → is.filterMap (fun i => ws[i]?) = wc := by
  intro is h
  have h2 : is.filterMap (fun i => ws[i]?) = (is.map (fun i => ws[i]?)).filterMap id := by
    rw [List.filterMap_map]; rfl
  rw [h2, h, List.filterMap_map]
  simp
theorem zIn.of {ws wc : va_W} (isC : List Nat) (hC : isC.map (fun i => ws[i]?) = wc.map some) (hnC : va_nd isC = true) : zIn ws wc := ⟨fun D cl H hP => hP.sub isC (zfm hC), fun A hD => hD.sub isC hnC hC⟩
theorem zSub.of {ws wc wr w1 ws' : va_W} (isC isR ks : List Nat) (hC : isC.map (fun i => ws[i]?) = wc.map some) (hR : isR.map (fun i => ws[i]?) = wr.map some) (hnC : va_nd isC = true) (hnR : va_nd isR = true) (hdis : ∀ i ∈ isR, i ∉ isC)
    (hks : ks.map (fun i => (wr ++ w1)[i]?) = ws'.map some) (hnk : va_nd ks = true) : zSub ws wc w1 ws' := by
  refine ⟨fun D cl H hP => hP.sub isC (zfm hC), fun A hD => hD.sub isC hnC hC, fun D cl A H H1 hP hD hF hk hP1 hD1 => ?_⟩
  obtain ⟨g1, g2⟩ := va_join (wr := wr) (w1 := w1) hP hD isC isR hC hR hnR hdis hk hF hP1 hD1
  exact ⟨g1.sub ks (zfm hks), g2.sub ks hnk hks⟩
variable {p : Program} {l : Launch} {e : Env} {R : Room} {s : State} {m : MethodId} {args : Array Value} {below : List Frame} {meth : Method} {c : Code} {Q : State → Prop} {D : va_G} {cl : List vw_C} {A : Nat → Prop} {tys : List (ClassId × FieldType)} {cc : ByteArray} {nL : Nat} {own : String} {Ts : List Cond} {sa : Nat → Nat} {ret : Option FieldType}
variable {cn cells slots : Nat} {ws ws' : va_W} {lv lv' : List (Nat × Value)} {pc : Nat} {st rest : List Value}
/-- the method, the machine and the tables -/
def zK (sa : Nat → Nat) (D : va_G) (cl : List vw_C) (tys : List (ClassId × FieldType)) (A : Nat → Prop) (p : Program) (s : State) (m : MethodId) (args : Array Value) (meth : Method) (c : Code) (cc : ByteArray) (nL : Nat) (own : String) (Ts : List Cond) (ret : Option FieldType) : Prop :=
  p.tables.exec = Jvm.exec ∧ c.code = cc ∧ c.maxLocals = nL ∧ s.vm.findClass own = some m.cls ∧ (∀ w ∈ Ts, w.before args s = true) ∧ va_K D cl tys s ∧ (∀ q : Nat, s.heap.size ≤ q → A q) ∧ zG sa A s s.heap ∧ meth.locks = false ∧ meth.sig.returnType = ret
/-- at pc, over any heap that holds ws, with the locals lv and the stack st, the machine comes to Q -/
def zW (cn : Nat) (p : Program) (l : Launch) (e : Env) (R : Room) (s : State) (m : MethodId) (args : Array Value) (below : List Frame) (meth : Method) (c : Code) (Q : State → Prop) (D : va_G) (cl : List vw_C) (A : Nat → Prop) (nL cells slots : Nat) (ws : va_W) (lv : List (Nat × Value)) (pc : Nat) (st : List Value) : Prop :=
  ∀ (H : Heap) (locs : List Loc) (ls : Array Slot), va_P D cl ws H → va_D A ws → (va_S A s.heap H locs ∧ s.heap.size + cn ≤ H.size) → lv_has ls nL lv → W p l e R s m args below meth c H locs cells slots Q (F0 m pc ls st)
theorem z_iconst (C : zK sa D cl tys A p s m args meth c cc nL own Ts ret) {n : Int} {v : Int32} (hdg : decode cc pc = .ok (.iconst n, 1)) (hv : Int32.ofInt n = v) (kk : zW cn p l e R s m args below meth c Q D cl A nL cells slots ws lv (pc + 1) (.int v :: st)) : zW cn p l e R s m args below meth c Q D cl A nL cells slots ws lv pc st :=
  fun H locs ls hP hD hS hl => lv_iconst C.1 C.2.1 hdg hv (kk H locs ls hP hD hS hl)
theorem z_bipush (C : zK sa D cl tys A p s m args meth c cc nL own Ts ret) {n : Int} {v : Int32} (hdg : decode cc pc = .ok (.bipush n, 2)) (hv : (Int8.ofInt n).toInt32 = v) (kk : zW cn p l e R s m args below meth c Q D cl A nL cells slots ws lv (pc + 2) (.int v :: st)) : zW cn p l e R s m args below meth c Q D cl A nL cells slots ws lv pc st :=
  fun H locs ls hP hD hS hl => lv_bipush C.1 C.2.1 hdg hv (kk H locs ls hP hD hS hl)
theorem z_sipush (C : zK sa D cl tys A p s m args meth c cc nL own Ts ret) {n : Int} {v : Int32} (hdg : decode cc pc = .ok (.sipush n, 3)) (hv : (Int16.ofInt n).toInt32 = v) (kk : zW cn p l e R s m args below meth c Q D cl A nL cells slots ws lv (pc + 3) (.int v :: st)) : zW cn p l e R s m args below meth c Q D cl A nL cells slots ws lv pc st :=
  fun H locs ls hP hD hS hl => lv_sipush C.1 C.2.1 hdg hv (kk H locs ls hP hD hS hl)
theorem z_lconst (C : zK sa D cl tys A p s m args meth c cc nL own Ts ret) {n : Fin 2} {v : Int64} (hdg : decode cc pc = .ok (.lconst n, 1)) (hv : Int64.ofNat (n : Nat) = v) (kk : zW cn p l e R s m args below meth c Q D cl A nL cells slots ws lv (pc + 1) (.long v :: st)) : zW cn p l e R s m args below meth c Q D cl A nL cells slots ws lv pc st :=
  fun H locs ls hP hD hS hl => lv_lconst C.1 C.2.1 hdg hv (kk H locs ls hP hD hS hl)
theorem z_ldc (C : zK sa D cl tys A p s m args meth c cc nL own Ts ret) {index : Nat} {v : Int32} (hm : Cond.constant own index v ∈ Ts) (hdg : decode cc pc = .ok (.ldc index, 2)) (kk : zW cn p l e R s m args below meth c Q D cl A nL cells slots ws lv (pc + 2) (.int v :: st)) : zW cn p l e R s m args below meth c Q D cl A nL cells slots ws lv pc st :=
  fun H locs ls hP hD hS hl => lv_ldc C.1 C.2.1 C.2.2.2.1 (C.2.2.2.2.1 _ hm) hdg (kk H locs ls hP hD hS hl)
theorem z_ldc2 (C : zK sa D cl tys A p s m args meth c cc nL own Ts ret) {index : Nat} {v : Int64} (hm : Cond.constantLong own index v ∈ Ts) (hdg : decode cc pc = .ok (.ldc2_w index, 3)) (kk : zW cn p l e R s m args below meth c Q D cl A nL cells slots ws lv (pc + 3) (.long v :: st)) : zW cn p l e R s m args below meth c Q D cl A nL cells slots ws lv pc st :=
  fun H locs ls hP hD hS hl => lv_ldc2 C.1 C.2.1 C.2.2.2.1 (C.2.2.2.2.1 _ hm) hdg (kk H locs ls hP hD hS hl)
theorem z_iload_n (C : zK sa D cl tys A p s m args meth c cc nL own Ts ret) {k : Fin 4} {i : Nat} {x : Int32} (hdg : decode cc pc = .ok (.iload_n k, 1)) (hi : (k : Nat) = i) (j : Nat) (hj : lv[j]? = some (i, .int x)) (kk : zW cn p l e R s m args below meth c Q D cl A nL cells slots ws lv (pc + 1) (.int x :: st)) : zW cn p l e R s m args below meth c Q D cl A nL cells slots ws lv pc st :=
  fun H locs ls hP hD hS hl => lv_iload_n C.1 C.2.1 hdg hi (lv_at hl j hj) (kk H locs ls hP hD hS hl)
theorem z_iload (C : zK sa D cl tys A p s m args meth c cc nL own Ts ret) {i : Nat} {x : Int32} (hdg : decode cc pc = .ok (.iload i, 2)) (j : Nat) (hj : lv[j]? = some (i, .int x)) (kk : zW cn p l e R s m args below meth c Q D cl A nL cells slots ws lv (pc + 2) (.int x :: st)) : zW cn p l e R s m args below meth c Q D cl A nL cells slots ws lv pc st :=
  fun H locs ls hP hD hS hl => lv_iload C.1 C.2.1 hdg (lv_at hl j hj) (kk H locs ls hP hD hS hl)
theorem z_lload_n (C : zK sa D cl tys A p s m args meth c cc nL own Ts ret) {k : Fin 4} {i : Nat} {x : Int64} (hdg : decode cc pc = .ok (.lload_n k, 1)) (hi : (k : Nat) = i) (j : Nat) (hj : lv[j]? = some (i, .long x)) (kk : zW cn p l e R s m args below meth c Q D cl A nL cells slots ws lv (pc + 1) (.long x :: st)) : zW cn p l e R s m args below meth c Q D cl A nL cells slots ws lv pc st :=
  fun H locs ls hP hD hS hl => lv_lload_n C.1 C.2.1 hdg hi (lv_at hl j hj) (kk H locs ls hP hD hS hl)
theorem z_lload (C : zK sa D cl tys A p s m args meth c cc nL own Ts ret) {i : Nat} {x : Int64} (hdg : decode cc pc = .ok (.lload i, 2)) (j : Nat) (hj : lv[j]? = some (i, .long x)) (kk : zW cn p l e R s m args below meth c Q D cl A nL cells slots ws lv (pc + 2) (.long x :: st)) : zW cn p l e R s m args below meth c Q D cl A nL cells slots ws lv pc st :=
  fun H locs ls hP hD hS hl => lv_lload C.1 C.2.1 hdg (lv_at hl j hj) (kk H locs ls hP hD hS hl)
theorem z_aload_n (C : zK sa D cl tys A p s m args meth c cc nL own Ts ret) {k : Fin 4} {i : Nat} {x : Nat} (hdg : decode cc pc = .ok (.aload_n k, 1)) (hi : (k : Nat) = i) (j : Nat) (hj : lv[j]? = some (i, .ref x)) (kk : zW cn p l e R s m args below meth c Q D cl A nL cells slots ws lv (pc + 1) (.ref x :: st)) : zW cn p l e R s m args below meth c Q D cl A nL cells slots ws lv pc st :=
  fun H locs ls hP hD hS hl => lv_aload_n C.1 C.2.1 hdg hi (lv_at hl j hj) (kk H locs ls hP hD hS hl)
theorem z_aload (C : zK sa D cl tys A p s m args meth c cc nL own Ts ret) {i : Nat} {x : Nat} (hdg : decode cc pc = .ok (.aload i, 2)) (j : Nat) (hj : lv[j]? = some (i, .ref x)) (kk : zW cn p l e R s m args below meth c Q D cl A nL cells slots ws lv (pc + 2) (.ref x :: st)) : zW cn p l e R s m args below meth c Q D cl A nL cells slots ws lv pc st :=
  fun H locs ls hP hD hS hl => lv_aload C.1 C.2.1 hdg (lv_at hl j hj) (kk H locs ls hP hD hS hl)
theorem z_istore_n (C : zK sa D cl tys A p s m args meth c cc nL own Ts ret) {k : Fin 4} {i : Nat} {x : Int32} (hdg : decode cc pc = .ok (.istore_n k, 1)) (hi : (k : Nat) = i) (hn : i < nL) (lv' : List (Nat × Value)) (ks : List Nat) (hl9 : lv_pick ((i, Value.int x) :: lv.filter (fun q => !(q.1 == i) && !(q.1 + 1 == i && q.2.category == 2))) ks = lv') (kk : zW cn p l e R s m args below meth c Q D cl A nL cells slots ws lv' (pc + 1) st) : zW cn p l e R s m args below meth c Q D cl A nL cells slots ws lv pc (.int x :: st) :=
  fun H locs ls hP hD hS hl => lv_istore_n C.1 C.2.1 hdg hi hl hn rfl (fun ls1 hl1 => kk H locs ls1 hP hD hS (lv_sub hl1 ks hl9))
theorem z_istore (C : zK sa D cl tys A p s m args meth c cc nL own Ts ret) {i : Nat} {x : Int32} (hdg : decode cc pc = .ok (.istore i, 2)) (hn : i < nL) (lv' : List (Nat × Value)) (ks : List Nat) (hl9 : lv_pick ((i, Value.int x) :: lv.filter (fun q => !(q.1 == i) && !(q.1 + 1 == i && q.2.category == 2))) ks = lv') (kk : zW cn p l e R s m args below meth c Q D cl A nL cells slots ws lv' (pc + 2) st) : zW cn p l e R s m args below meth c Q D cl A nL cells slots ws lv pc (.int x :: st) :=
  fun H locs ls hP hD hS hl => lv_istore C.1 C.2.1 hdg hl hn rfl (fun ls1 hl1 => kk H locs ls1 hP hD hS (lv_sub hl1 ks hl9))
theorem z_astore_n (C : zK sa D cl tys A p s m args meth c cc nL own Ts ret) {k : Fin 4} {i : Nat} {x : Nat} (hdg : decode cc pc = .ok (.astore_n k, 1)) (hi : (k : Nat) = i) (hn : i < nL) (lv' : List (Nat × Value)) (ks : List Nat) (hl9 : lv_pick ((i, Value.ref x) :: lv.filter (fun q => !(q.1 == i) && !(q.1 + 1 == i && q.2.category == 2))) ks = lv') (kk : zW cn p l e R s m args below meth c Q D cl A nL cells slots ws lv' (pc + 1) st) : zW cn p l e R s m args below meth c Q D cl A nL cells slots ws lv pc (.ref x :: st) :=
  fun H locs ls hP hD hS hl => lv_astore_n C.1 C.2.1 hdg hi hl hn rfl (fun ls1 hl1 => kk H locs ls1 hP hD hS (lv_sub hl1 ks hl9))
theorem z_astore (C : zK sa D cl tys A p s m args meth c cc nL own Ts ret) {i : Nat} {x : Nat} (hdg : decode cc pc = .ok (.astore i, 2)) (hn : i < nL) (lv' : List (Nat × Value)) (ks : List Nat) (hl9 : lv_pick ((i, Value.ref x) :: lv.filter (fun q => !(q.1 == i) && !(q.1 + 1 == i && q.2.category == 2))) ks = lv') (kk : zW cn p l e R s m args below meth c Q D cl A nL cells slots ws lv' (pc + 2) st) : zW cn p l e R s m args below meth c Q D cl A nL cells slots ws lv pc (.ref x :: st) :=
  fun H locs ls hP hD hS hl => lv_astore C.1 C.2.1 hdg hl hn rfl (fun ls1 hl1 => kk H locs ls1 hP hD hS (lv_sub hl1 ks hl9))
theorem z_lstore_n (C : zK sa D cl tys A p s m args meth c cc nL own Ts ret) {k : Fin 4} {i : Nat} {x : Int64} (hdg : decode cc pc = .ok (.lstore_n k, 1)) (hi : (k : Nat) = i) (hn : i + 1 < nL) (lv' : List (Nat × Value)) (ks : List Nat) (hl9 : lv_pick ((i, Value.long x) :: lv.filter (fun q => !(q.1 == i) && (!(q.1 == i + 1) && !(q.1 + 1 == i && q.2.category == 2)))) ks = lv') (kk : zW cn p l e R s m args below meth c Q D cl A nL cells slots ws lv' (pc + 1) st) : zW cn p l e R s m args below meth c Q D cl A nL cells slots ws lv pc (.long x :: st) :=
  fun H locs ls hP hD hS hl => lv_lstore_n C.1 C.2.1 hdg hi hl hn rfl (fun ls1 hl1 => kk H locs ls1 hP hD hS (lv_sub hl1 ks hl9))
theorem z_lstore (C : zK sa D cl tys A p s m args meth c cc nL own Ts ret) {i : Nat} {x : Int64} (hdg : decode cc pc = .ok (.lstore i, 2)) (hn : i + 1 < nL) (lv' : List (Nat × Value)) (ks : List Nat) (hl9 : lv_pick ((i, Value.long x) :: lv.filter (fun q => !(q.1 == i) && (!(q.1 == i + 1) && !(q.1 + 1 == i && q.2.category == 2)))) ks = lv') (kk : zW cn p l e R s m args below meth c Q D cl A nL cells slots ws lv' (pc + 2) st) : zW cn p l e R s m args below meth c Q D cl A nL cells slots ws lv pc (.long x :: st) :=
  fun H locs ls hP hD hS hl => lv_lstore C.1 C.2.1 hdg hl hn rfl (fun ls1 hl1 => kk H locs ls1 hP hD hS (lv_sub hl1 ks hl9))
theorem z_iinc (C : zK sa D cl tys A p s m args meth c cc nL own Ts ret) {i : Nat} {n : Int} {x v : Int32} (hdg : decode cc pc = .ok (.iinc i n, 3)) (j : Nat) (hj : lv[j]? = some (i, .int x)) (hv : x + Int32.ofInt n = v) (hn : i < nL) (lv' : List (Nat × Value)) (ks : List Nat) (hl9 : lv_pick ((i, Value.int v) :: lv.filter (fun q => !(q.1 == i) && !(q.1 + 1 == i && q.2.category == 2))) ks = lv') (kk : zW cn p l e R s m args below meth c Q D cl A nL cells slots ws lv' (pc + 3) st) : zW cn p l e R s m args below meth c Q D cl A nL cells slots ws lv pc st :=
  fun H locs ls hP hD hS hl => lv_iinc C.1 C.2.1 hdg hl hj hv hn rfl (fun ls1 hl1 => kk H locs ls1 hP hD hS (lv_sub hl1 ks hl9))
theorem z_iadd (C : zK sa D cl tys A p s m args meth c cc nL own Ts ret) {x y v : Int32} (hdg : decode cc pc = .ok (.iadd, 1)) (hv : x + y = v) (kk : zW cn p l e R s m args below meth c Q D cl A nL cells slots ws lv (pc + 1) (.int v :: st)) : zW cn p l e R s m args below meth c Q D cl A nL cells slots ws lv pc (.int y :: .int x :: st) :=
  fun H locs ls hP hD hS hl => lv_iadd C.1 C.2.1 hdg (by rw [hv]; exact kk H locs ls hP hD hS hl)
theorem z_isub (C : zK sa D cl tys A p s m args meth c cc nL own Ts ret) {x y v : Int32} (hdg : decode cc pc = .ok (.isub, 1)) (hv : x - y = v) (kk : zW cn p l e R s m args below meth c Q D cl A nL cells slots ws lv (pc + 1) (.int v :: st)) : zW cn p l e R s m args below meth c Q D cl A nL cells slots ws lv pc (.int y :: .int x :: st) :=
  fun H locs ls hP hD hS hl => lv_isub C.1 C.2.1 hdg (by rw [hv]; exact kk H locs ls hP hD hS hl)
theorem z_imul (C : zK sa D cl tys A p s m args meth c cc nL own Ts ret) {x y v : Int32} (hdg : decode cc pc = .ok (.imul, 1)) (hv : x * y = v) (kk : zW cn p l e R s m args below meth c Q D cl A nL cells slots ws lv (pc + 1) (.int v :: st)) : zW cn p l e R s m args below meth c Q D cl A nL cells slots ws lv pc (.int y :: .int x :: st) :=
  fun H locs ls hP hD hS hl => lv_imul C.1 C.2.1 hdg (by rw [hv]; exact kk H locs ls hP hD hS hl)
theorem z_iand (C : zK sa D cl tys A p s m args meth c cc nL own Ts ret) {x y v : Int32} (hdg : decode cc pc = .ok (.iand, 1)) (hv : x &&& y = v) (kk : zW cn p l e R s m args below meth c Q D cl A nL cells slots ws lv (pc + 1) (.int v :: st)) : zW cn p l e R s m args below meth c Q D cl A nL cells slots ws lv pc (.int y :: .int x :: st) :=
  fun H locs ls hP hD hS hl => lv_iand C.1 C.2.1 hdg (by rw [hv]; exact kk H locs ls hP hD hS hl)
theorem z_ior (C : zK sa D cl tys A p s m args meth c cc nL own Ts ret) {x y v : Int32} (hdg : decode cc pc = .ok (.ior, 1)) (hv : x ||| y = v) (kk : zW cn p l e R s m args below meth c Q D cl A nL cells slots ws lv (pc + 1) (.int v :: st)) : zW cn p l e R s m args below meth c Q D cl A nL cells slots ws lv pc (.int y :: .int x :: st) :=
  fun H locs ls hP hD hS hl => lv_ior C.1 C.2.1 hdg (by rw [hv]; exact kk H locs ls hP hD hS hl)
theorem z_idiv (C : zK sa D cl tys A p s m args meth c cc nL own Ts ret) {x y v : Int32} (hdg : decode cc pc = .ok (.idiv, 1)) (hne : ¬ y = 0) (hv : x / y = v) (kk : zW cn p l e R s m args below meth c Q D cl A nL cells slots ws lv (pc + 1) (.int v :: st)) : zW cn p l e R s m args below meth c Q D cl A nL cells slots ws lv pc (.int y :: .int x :: st) :=
  fun H locs ls hP hD hS hl => lv_idiv C.1 C.2.1 hdg hne (by rw [hv]; exact kk H locs ls hP hD hS hl)
theorem z_ishl (C : zK sa D cl tys A p s m args meth c cc nL own Ts ret) {x y v : Int32} (hdg : decode cc pc = .ok (.ishl, 1)) (hv : x <<< (y &&& 31) = v) (kk : zW cn p l e R s m args below meth c Q D cl A nL cells slots ws lv (pc + 1) (.int v :: st)) : zW cn p l e R s m args below meth c Q D cl A nL cells slots ws lv pc (.int y :: .int x :: st) :=
  fun H locs ls hP hD hS hl => lv_ishl C.1 C.2.1 hdg (by rw [hv]; exact kk H locs ls hP hD hS hl)
theorem z_ishr (C : zK sa D cl tys A p s m args meth c cc nL own Ts ret) {x y v : Int32} (hdg : decode cc pc = .ok (.ishr, 1)) (hv : x >>> (y &&& 31) = v) (kk : zW cn p l e R s m args below meth c Q D cl A nL cells slots ws lv (pc + 1) (.int v :: st)) : zW cn p l e R s m args below meth c Q D cl A nL cells slots ws lv pc (.int y :: .int x :: st) :=
  fun H locs ls hP hD hS hl => lv_ishr C.1 C.2.1 hdg (by rw [hv]; exact kk H locs ls hP hD hS hl)
theorem z_irem (C : zK sa D cl tys A p s m args meth c cc nL own Ts ret) {x y v : Int32} (hdg : decode cc pc = .ok (.irem, 1)) (hne : ¬ y = 0) (hv : x - x / y * y = v) (kk : zW cn p l e R s m args below meth c Q D cl A nL cells slots ws lv (pc + 1) (.int v :: st)) : zW cn p l e R s m args below meth c Q D cl A nL cells slots ws lv pc (.int y :: .int x :: st) :=
  fun H locs ls hP hD hS hl => lv_irem C.1 C.2.1 hdg hne (by rw [hv]; exact kk H locs ls hP hD hS hl)
theorem z_ixor (C : zK sa D cl tys A p s m args meth c cc nL own Ts ret) {x y v : Int32} (hdg : decode cc pc = .ok (.ixor, 1)) (hv : x ^^^ y = v) (kk : zW cn p l e R s m args below meth c Q D cl A nL cells slots ws lv (pc + 1) (.int v :: st)) : zW cn p l e R s m args below meth c Q D cl A nL cells slots ws lv pc (.int y :: .int x :: st) :=
  fun H locs ls hP hD hS hl => lv_ixor C.1 C.2.1 hdg (by rw [hv]; exact kk H locs ls hP hD hS hl)
theorem z_ineg (C : zK sa D cl tys A p s m args meth c cc nL own Ts ret) {x v : Int32} (hdg : decode cc pc = .ok (.ineg, 1)) (hv : -x = v) (kk : zW cn p l e R s m args below meth c Q D cl A nL cells slots ws lv (pc + 1) (.int v :: st)) : zW cn p l e R s m args below meth c Q D cl A nL cells slots ws lv pc (.int x :: st) :=
  fun H locs ls hP hD hS hl => lv_ineg C.1 C.2.1 hdg (by rw [hv]; exact kk H locs ls hP hD hS hl)
theorem z_ladd (C : zK sa D cl tys A p s m args meth c cc nL own Ts ret) {x y v : Int64} (hdg : decode cc pc = .ok (.ladd, 1)) (hv : x + y = v) (kk : zW cn p l e R s m args below meth c Q D cl A nL cells slots ws lv (pc + 1) (.long v :: st)) : zW cn p l e R s m args below meth c Q D cl A nL cells slots ws lv pc (.long y :: .long x :: st) :=
  fun H locs ls hP hD hS hl => lv_ladd C.1 C.2.1 hdg (by rw [hv]; exact kk H locs ls hP hD hS hl)
theorem z_ialen (C : zK sa D cl tys A p s m args meth c cc nL own Ts ret) {a : Nat} (q0 : Nat) {cA : ClassId} {x : vp_A} (ha : ws[q0]? = some (a, .inl (cA, x))) (t0 : Nat) {ty : FieldType} (ht : tys[t0]? = some (cA, ty)) {v : Int32} (hv : Int32.ofNat x.1 = v) (hdg : decode cc pc = .ok (.arraylength, 1)) (kk : zW cn p l e R s m args below meth c Q D cl A nL cells slots ws lv (pc + 1) (.int v :: st)) : zW cn p l e R s m args below meth c Q D cl A nL cells slots ws lv pc (.ref a :: st) :=
  fun H locs ls hP hD hS hl => va_alen C.1 C.2.1 C.2.2.2.2.2.1 hP q0 t0 ha ht hv hdg (kk H locs ls hP hD hS hl)
theorem z_tabIn (C : zK sa D cl tys A p s m args meth c cc nL own Ts ret) {dflt lo hi : Int} {offs : Array Int} {len : Nat} {x : Int32} {off : Int} {tgt : Nat} (hdg : decode cc pc = .ok (.tableswitch dflt lo hi offs, len)) (h1 : ¬ x.toInt < lo) (h2 : ¬ hi < x.toInt) (ho : offs[(x.toInt - lo).toNat]? = some off) (ht : (pc : Int) + off = (tgt : Int)) (kk : zW cn p l e R s m args below meth c Q D cl A nL cells slots ws lv tgt st) : zW cn p l e R s m args below meth c Q D cl A nL cells slots ws lv pc (.int x :: st) :=
  fun H locs ls hP hD hS hl => lv_tableIn C.1 C.2.1 hdg h1 h2 ho ht (kk H locs ls hP hD hS hl)
theorem z_lmul (C : zK sa D cl tys A p s m args meth c cc nL own Ts ret) {x y v : Int64} (hdg : decode cc pc = .ok (.lmul, 1)) (hv : x * y = v) (kk : zW cn p l e R s m args below meth c Q D cl A nL cells slots ws lv (pc + 1) (.long v :: st)) : zW cn p l e R s m args below meth c Q D cl A nL cells slots ws lv pc (.long y :: .long x :: st) :=
  fun H locs ls hP hD hS hl => lv_lmul C.1 C.2.1 hdg (by rw [hv]; exact kk H locs ls hP hD hS hl)
theorem z_ldiv (C : zK sa D cl tys A p s m args meth c cc nL own Ts ret) {x y v : Int64} (hdg : decode cc pc = .ok (.ldiv, 1)) (hne : ¬ y = 0) (hv : x / y = v) (kk : zW cn p l e R s m args below meth c Q D cl A nL cells slots ws lv (pc + 1) (.long v :: st)) : zW cn p l e R s m args below meth c Q D cl A nL cells slots ws lv pc (.long y :: .long x :: st) :=
  fun H locs ls hP hD hS hl => lv_ldiv C.1 C.2.1 hdg hne (by rw [hv]; exact kk H locs ls hP hD hS hl)
theorem z_i2l (C : zK sa D cl tys A p s m args meth c cc nL own Ts ret) {x : Int32} {v : Int64} (hdg : decode cc pc = .ok (.i2l, 1)) (hv : x.toInt64 = v) (kk : zW cn p l e R s m args below meth c Q D cl A nL cells slots ws lv (pc + 1) (.long v :: st)) : zW cn p l e R s m args below meth c Q D cl A nL cells slots ws lv pc (.int x :: st) :=
  fun H locs ls hP hD hS hl => lv_i2l C.1 C.2.1 hdg hv (kk H locs ls hP hD hS hl)
theorem z_dup (C : zK sa D cl tys A p s m args meth c cc nL own Ts ret) {va : Value} (hdg : decode cc pc = .ok (.dup, 1)) (hva : va.category = 1) (kk : zW cn p l e R s m args below meth c Q D cl A nL cells slots ws lv (pc + 1) (va :: va :: st)) : zW cn p l e R s m args below meth c Q D cl A nL cells slots ws lv pc (va :: st) :=
  fun H locs ls hP hD hS hl => lv_dup C.1 C.2.1 hdg hva (kk H locs ls hP hD hS hl)
theorem z_dup2 (C : zK sa D cl tys A p s m args meth c cc nL own Ts ret) {va vb : Value} (hdg : decode cc pc = .ok (.dup2, 1)) (hva : va.category = 1) (hvb : vb.category = 1) (kk : zW cn p l e R s m args below meth c Q D cl A nL cells slots ws lv (pc + 1) (va :: vb :: va :: vb :: st)) : zW cn p l e R s m args below meth c Q D cl A nL cells slots ws lv pc (va :: vb :: st) :=
  fun H locs ls hP hD hS hl => lv_dup2_11 C.1 C.2.1 hdg hva hvb (kk H locs ls hP hD hS hl)
theorem z_if_eq (C : zK sa D cl tys A p s m args meth c cc nL own Ts ret) {x : Int32} {off : Int} {tgt : Nat} (hdg : decode cc pc = .ok (.ifCond .eq off, 3)) (ht : (pc : Int) + off = (tgt : Int)) (kt : x = 0 → zW cn p l e R s m args below meth c Q D cl A nL cells slots ws lv tgt st) (kf : ¬ x = 0 → zW cn p l e R s m args below meth c Q D cl A nL cells slots ws lv (pc + 3) st) : zW cn p l e R s m args below meth c Q D cl A nL cells slots ws lv pc (.int x :: st) :=
  fun H locs ls hP hD hS hl => lv_if_eq C.1 C.2.1 hdg ht (fun q => kt q H locs ls hP hD hS hl) (fun q => kf q H locs ls hP hD hS hl)
theorem z_icmp_eq (C : zK sa D cl tys A p s m args meth c cc nL own Ts ret) {x y : Int32} {off : Int} {tgt : Nat} (hdg : decode cc pc = .ok (.if_icmp .eq off, 3)) (ht : (pc : Int) + off = (tgt : Int)) (kt : x = y → zW cn p l e R s m args below meth c Q D cl A nL cells slots ws lv tgt st) (kf : ¬ x = y → zW cn p l e R s m args below meth c Q D cl A nL cells slots ws lv (pc + 3) st) : zW cn p l e R s m args below meth c Q D cl A nL cells slots ws lv pc (.int y :: .int x :: st) :=
  fun H locs ls hP hD hS hl => lv_icmp_eq C.1 C.2.1 hdg ht (fun q => kt q H locs ls hP hD hS hl) (fun q => kf q H locs ls hP hD hS hl)
theorem z_if_ne (C : zK sa D cl tys A p s m args meth c cc nL own Ts ret) {x : Int32} {off : Int} {tgt : Nat} (hdg : decode cc pc = .ok (.ifCond .ne off, 3)) (ht : (pc : Int) + off = (tgt : Int)) (kt : ¬ x = 0 → zW cn p l e R s m args below meth c Q D cl A nL cells slots ws lv tgt st) (kf : x = 0 → zW cn p l e R s m args below meth c Q D cl A nL cells slots ws lv (pc + 3) st) : zW cn p l e R s m args below meth c Q D cl A nL cells slots ws lv pc (.int x :: st) :=
  fun H locs ls hP hD hS hl => lv_if_ne C.1 C.2.1 hdg ht (fun q => kt q H locs ls hP hD hS hl) (fun q => kf q H locs ls hP hD hS hl)
theorem z_icmp_ne (C : zK sa D cl tys A p s m args meth c cc nL own Ts ret) {x y : Int32} {off : Int} {tgt : Nat} (hdg : decode cc pc = .ok (.if_icmp .ne off, 3)) (ht : (pc : Int) + off = (tgt : Int)) (kt : ¬ x = y → zW cn p l e R s m args below meth c Q D cl A nL cells slots ws lv tgt st) (kf : x = y → zW cn p l e R s m args below meth c Q D cl A nL cells slots ws lv (pc + 3) st) : zW cn p l e R s m args below meth c Q D cl A nL cells slots ws lv pc (.int y :: .int x :: st) :=
  fun H locs ls hP hD hS hl => lv_icmp_ne C.1 C.2.1 hdg ht (fun q => kt q H locs ls hP hD hS hl) (fun q => kf q H locs ls hP hD hS hl)
theorem z_if_lt (C : zK sa D cl tys A p s m args meth c cc nL own Ts ret) {x : Int32} {off : Int} {tgt : Nat} (hdg : decode cc pc = .ok (.ifCond .lt off, 3)) (ht : (pc : Int) + off = (tgt : Int)) (kt : x < 0 → zW cn p l e R s m args below meth c Q D cl A nL cells slots ws lv tgt st) (kf : ¬ x < 0 → zW cn p l e R s m args below meth c Q D cl A nL cells slots ws lv (pc + 3) st) : zW cn p l e R s m args below meth c Q D cl A nL cells slots ws lv pc (.int x :: st) :=
  fun H locs ls hP hD hS hl => lv_if_lt C.1 C.2.1 hdg ht (fun q => kt q H locs ls hP hD hS hl) (fun q => kf q H locs ls hP hD hS hl)
theorem z_icmp_lt (C : zK sa D cl tys A p s m args meth c cc nL own Ts ret) {x y : Int32} {off : Int} {tgt : Nat} (hdg : decode cc pc = .ok (.if_icmp .lt off, 3)) (ht : (pc : Int) + off = (tgt : Int)) (kt : x < y → zW cn p l e R s m args below meth c Q D cl A nL cells slots ws lv tgt st) (kf : ¬ x < y → zW cn p l e R s m args below meth c Q D cl A nL cells slots ws lv (pc + 3) st) : zW cn p l e R s m args below meth c Q D cl A nL cells slots ws lv pc (.int y :: .int x :: st) :=
  fun H locs ls hP hD hS hl => lv_icmp_lt C.1 C.2.1 hdg ht (fun q => kt q H locs ls hP hD hS hl) (fun q => kf q H locs ls hP hD hS hl)
theorem z_if_ge (C : zK sa D cl tys A p s m args meth c cc nL own Ts ret) {x : Int32} {off : Int} {tgt : Nat} (hdg : decode cc pc = .ok (.ifCond .ge off, 3)) (ht : (pc : Int) + off = (tgt : Int)) (kt : 0 ≤ x → zW cn p l e R s m args below meth c Q D cl A nL cells slots ws lv tgt st) (kf : ¬ 0 ≤ x → zW cn p l e R s m args below meth c Q D cl A nL cells slots ws lv (pc + 3) st) : zW cn p l e R s m args below meth c Q D cl A nL cells slots ws lv pc (.int x :: st) :=
  fun H locs ls hP hD hS hl => lv_if_ge C.1 C.2.1 hdg ht (fun q => kt q H locs ls hP hD hS hl) (fun q => kf q H locs ls hP hD hS hl)
theorem z_icmp_ge (C : zK sa D cl tys A p s m args meth c cc nL own Ts ret) {x y : Int32} {off : Int} {tgt : Nat} (hdg : decode cc pc = .ok (.if_icmp .ge off, 3)) (ht : (pc : Int) + off = (tgt : Int)) (kt : y ≤ x → zW cn p l e R s m args below meth c Q D cl A nL cells slots ws lv tgt st) (kf : ¬ y ≤ x → zW cn p l e R s m args below meth c Q D cl A nL cells slots ws lv (pc + 3) st) : zW cn p l e R s m args below meth c Q D cl A nL cells slots ws lv pc (.int y :: .int x :: st) :=
  fun H locs ls hP hD hS hl => lv_icmp_ge C.1 C.2.1 hdg ht (fun q => kt q H locs ls hP hD hS hl) (fun q => kf q H locs ls hP hD hS hl)
theorem z_if_gt (C : zK sa D cl tys A p s m args meth c cc nL own Ts ret) {x : Int32} {off : Int} {tgt : Nat} (hdg : decode cc pc = .ok (.ifCond .gt off, 3)) (ht : (pc : Int) + off = (tgt : Int)) (kt : 0 < x → zW cn p l e R s m args below meth c Q D cl A nL cells slots ws lv tgt st) (kf : ¬ 0 < x → zW cn p l e R s m args below meth c Q D cl A nL cells slots ws lv (pc + 3) st) : zW cn p l e R s m args below meth c Q D cl A nL cells slots ws lv pc (.int x :: st) :=
  fun H locs ls hP hD hS hl => lv_if_gt C.1 C.2.1 hdg ht (fun q => kt q H locs ls hP hD hS hl) (fun q => kf q H locs ls hP hD hS hl)
theorem z_icmp_gt (C : zK sa D cl tys A p s m args meth c cc nL own Ts ret) {x y : Int32} {off : Int} {tgt : Nat} (hdg : decode cc pc = .ok (.if_icmp .gt off, 3)) (ht : (pc : Int) + off = (tgt : Int)) (kt : y < x → zW cn p l e R s m args below meth c Q D cl A nL cells slots ws lv tgt st) (kf : ¬ y < x → zW cn p l e R s m args below meth c Q D cl A nL cells slots ws lv (pc + 3) st) : zW cn p l e R s m args below meth c Q D cl A nL cells slots ws lv pc (.int y :: .int x :: st) :=
  fun H locs ls hP hD hS hl => lv_icmp_gt C.1 C.2.1 hdg ht (fun q => kt q H locs ls hP hD hS hl) (fun q => kf q H locs ls hP hD hS hl)
theorem z_if_le (C : zK sa D cl tys A p s m args meth c cc nL own Ts ret) {x : Int32} {off : Int} {tgt : Nat} (hdg : decode cc pc = .ok (.ifCond .le off, 3)) (ht : (pc : Int) + off = (tgt : Int)) (kt : x ≤ 0 → zW cn p l e R s m args below meth c Q D cl A nL cells slots ws lv tgt st) (kf : ¬ x ≤ 0 → zW cn p l e R s m args below meth c Q D cl A nL cells slots ws lv (pc + 3) st) : zW cn p l e R s m args below meth c Q D cl A nL cells slots ws lv pc (.int x :: st) :=
  fun H locs ls hP hD hS hl => lv_if_le C.1 C.2.1 hdg ht (fun q => kt q H locs ls hP hD hS hl) (fun q => kf q H locs ls hP hD hS hl)
theorem z_icmp_le (C : zK sa D cl tys A p s m args meth c cc nL own Ts ret) {x y : Int32} {off : Int} {tgt : Nat} (hdg : decode cc pc = .ok (.if_icmp .le off, 3)) (ht : (pc : Int) + off = (tgt : Int)) (kt : x ≤ y → zW cn p l e R s m args below meth c Q D cl A nL cells slots ws lv tgt st) (kf : ¬ x ≤ y → zW cn p l e R s m args below meth c Q D cl A nL cells slots ws lv (pc + 3) st) : zW cn p l e R s m args below meth c Q D cl A nL cells slots ws lv pc (.int y :: .int x :: st) :=
  fun H locs ls hP hD hS hl => lv_icmp_le C.1 C.2.1 hdg ht (fun q => kt q H locs ls hP hD hS hl) (fun q => kf q H locs ls hP hD hS hl)
theorem z_goto (C : zK sa D cl tys A p s m args meth c cc nL own Ts ret) {off : Int} {tgt : Nat} (hdg : decode cc pc = .ok (.goto off, 3)) (ht : (pc : Int) + off = (tgt : Int)) (kk : zW cn p l e R s m args below meth c Q D cl A nL cells slots ws lv tgt st) : zW cn p l e R s m args below meth c Q D cl A nL cells slots ws lv pc st :=
  fun H locs ls hP hD hS hl => lv_goto C.1 C.2.1 hdg ht (kk H locs ls hP hD hS hl)
theorem z_case (b : Prop) (kt : b → zW cn p l e R s m args below meth c Q D cl A nL cells slots ws lv pc st) (kf : ¬ b → zW cn p l e R s m args below meth c Q D cl A nL cells slots ws lv pc st) : zW cn p l e R s m args below meth c Q D cl A nL cells slots ws lv pc st := by
  by_cases h : b
  · exact kt h
  · exact kf h
theorem z_get (C : zK sa D cl tys A p s m args meth c cc nL own Ts ret) {ref C9 : String} {T : u_T} {N ci index : Nat} {a : Nat} (q0 : Nat) {fs : List Value} (he : ws[q0]? = some (a, .inr (ci, fs))) (hin : ∀ w ∈ u_ws C9 T N, w ∈ Ts) (hc : cl[ci]? = some (C9, T, N)) (k : Nat) (hk : k < N) (hlk : Cond.fieldLink own index ref (T k).2.1 (T k).2.2.1 ∈ Ts) (hrf : (T k).1 = ref) {v : Value} (hv : fs[k]? = some v) (hdg : decode cc pc = .ok (.getfield index, 3)) (kk : zW cn p l e R s m args below meth c Q D cl A nL cells slots ws lv (pc + 3) (v :: st)) : zW cn p l e R s m args below meth c Q D cl A nL cells slots ws lv pc (.ref a :: st) :=
  fun H locs ls hP hD hS hl => va_get C.1 C.2.1 C.2.2.2.2.1 hin C.2.2.2.1 C.2.2.2.2.2.1 hP q0 he hc k hk (C.2.2.2.2.1 _ hlk) (fun _ h9 => hrf ▸ h9) hv hdg (kk H locs ls hP hD hS hl)
theorem z_put (C : zK sa D cl tys A p s m args meth c cc nL own Ts ret) {ref C9 : String} {T : u_T} {N ci index : Nat} {a : Nat} (q0 : Nat) {fs : List Value} (he : ws[q0]? = some (a, .inr (ci, fs))) (hin : ∀ w ∈ u_ws C9 T N, w ∈ Ts) (hc : cl[ci]? = some (C9, T, N)) (k : Nat) (hk : k < N) (hlk : Cond.fieldLink own index ref (T k).2.1 (T k).2.2.1 ∈ Ts) (hrf : (T k).1 = ref) (ty0 : Nat → FieldType) (hty : ∀ k, k < N → parseFieldDescriptor (T k).2.2.1 = some (ty0 k)) (hnm : ∀ a, a < N → ∀ b, b < N → a ≠ b → (T a).2.1 ≠ (T b).2.1) (hfin : (T k).2.2.2 = false) {ty : FieldType} {v : Value} (hd : parseFieldDescriptor (T k).2.2.1 = some ty) (hn : narrow ty v = v) (hfit : fits ty v = true) (hlen : k < fs.length) (hdg : decode cc pc = .ok (.putfield index, 3)) (ws' : va_W) (hw : ws.set q0 (a, .inr (ci, fs.set k v)) = ws') (kk : zW 0 p l e R s m args below meth c Q D cl A nL cells slots ws' lv (pc + 3) st) : zW cn p l e R s m args below meth c Q D cl A nL cells slots ws lv pc (v :: .ref a :: st) :=
  fun H locs ls hP hD hS hl => va_put C.1 C.2.1 C.2.2.2.2.1 hin ty0 hty hnm C.2.2.2.1 C.2.2.2.2.2.1 hP hD hS.1 q0 he hc k hk (C.2.2.2.2.1 _ hlk) (fun _ h9 => hrf ▸ h9) hfin hd hn hfit hlen hdg (fun H1 locs1 hP1 hD1 hS1 => kk H1 locs1 ls (hw ▸ hP1) (hw ▸ hD1) ⟨hS1, hS1.1⟩ hl)
theorem z_putF (C : zK sa D cl tys A p s m args meth c cc nL own Ts ret) {ref C9 : String} {T : u_T} {N ci index : Nat} {a : Nat} (q0 : Nat) {fs : List Value} (he : ws[q0]? = some (a, .inr (ci, fs))) (hin : ∀ w ∈ u_ws C9 T N, w ∈ Ts) (hc : cl[ci]? = some (C9, T, N)) (k : Nat) (hk : k < N) (hlk : Cond.fieldLink own index ref (T k).2.1 (T k).2.2.1 ∈ Ts) (hrf : (T k).1 = ref) (ty0 : Nat → FieldType) (hty : ∀ k, k < N → parseFieldDescriptor (T k).2.2.1 = some (ty0 k)) (hnm : ∀ a, a < N → ∀ b, b < N → a ≠ b → (T a).2.1 ≠ (T b).2.1) (hfin : (T k).2.2.2 = true) (hin2 : meth.name = "<init>") (hdecl : (T k).1 = own) {ty : FieldType} {v : Value} (hd : parseFieldDescriptor (T k).2.2.1 = some ty) (hn : narrow ty v = v) (hfit : fits ty v = true) (hlen : k < fs.length) (hdg : decode cc pc = .ok (.putfield index, 3)) (ws' : va_W) (hw : ws.set q0 (a, .inr (ci, fs.set k v)) = ws') (kk : zW 0 p l e R s m args below meth c Q D cl A nL cells slots ws' lv (pc + 3) st) : zW cn p l e R s m args below meth c Q D cl A nL cells slots ws lv pc (v :: .ref a :: st) :=
  fun H locs ls hP hD hS hl => va_putF C.1 C.2.1 C.2.2.2.2.1 hin ty0 hty hnm C.2.2.2.1 C.2.2.2.2.2.1 hP hD hS.1 q0 he hc k hk (C.2.2.2.2.1 _ hlk) (fun _ h9 => hrf ▸ h9) hfin hin2 hdecl hd hn hfit hlen hdg (fun H1 locs1 hP1 hD1 hS1 => kk H1 locs1 ls (hw ▸ hP1) (hw ▸ hD1) ⟨hS1, hS1.1⟩ hl)
theorem z_iald (C : zK sa D cl tys A p s m args meth c cc nL own Ts ret) {a : Nat} (q0 t0 : Nat) {cA : ClassId} {n : Nat} {f : Nat → Int32} (ha : ws[q0]? = some (a, .inl (cA, n, .inl f))) (ht : tys[t0]? = some (cA, .int)) {i : Int32} (k : Nat) (hk : i.toNatClampNeg = k) (hin : vp_in i n) (v : Int32) (hv : f k = v) (hdg : decode cc pc = .ok (.iaload, 1)) (kk : zW cn p l e R s m args below meth c Q D cl A nL cells slots ws lv (pc + 1) (.int v :: st)) : zW cn p l e R s m args below meth c Q D cl A nL cells slots ws lv pc (.int i :: .ref a :: st) :=
  by
  subst hk
  subst hv
  exact fun H locs ls hP hD hS hl => va_iald C.1 C.2.1 C.2.2.2.2.2.1 hP q0 t0 ha ht hin hdg (kk H locs ls hP hD hS hl)
theorem z_zald (C : zK sa D cl tys A p s m args meth c cc nL own Ts ret) {a : Nat} (q0 t0 : Nat) {cA : ClassId} {n : Nat} {f : Nat → Int32} (ha : ws[q0]? = some (a, .inl (cA, n, .inl f))) (ht : tys[t0]? = some (cA, .boolean)) {i : Int32} (k : Nat) (hk : i.toNatClampNeg = k) (hin : vp_in i n) (v : Int32) (hv : f k = v) (hdg : decode cc pc = .ok (.baload, 1)) (kk : zW cn p l e R s m args below meth c Q D cl A nL cells slots ws lv (pc + 1) (.int v :: st)) : zW cn p l e R s m args below meth c Q D cl A nL cells slots ws lv pc (.int i :: .ref a :: st) :=
  by
  subst hk
  subst hv
  exact fun H locs ls hP hD hS hl => va_zald C.1 C.2.1 C.2.2.2.2.2.1 hP q0 t0 ha ht hin hdg (kk H locs ls hP hD hS hl)
theorem z_lald (C : zK sa D cl tys A p s m args meth c cc nL own Ts ret) {a : Nat} (q0 t0 : Nat) {cA : ClassId} {n : Nat} {f : Nat → Int64} (ha : ws[q0]? = some (a, .inl (cA, n, .inr (.inl f)))) (ht : tys[t0]? = some (cA, .long)) {i : Int32} (k : Nat) (hk : i.toNatClampNeg = k) (hin : vp_in i n) (hdg : decode cc pc = .ok (.laload, 1)) (kk : zW cn p l e R s m args below meth c Q D cl A nL cells slots ws lv (pc + 1) (.long (f k) :: st)) : zW cn p l e R s m args below meth c Q D cl A nL cells slots ws lv pc (.int i :: .ref a :: st) :=
  by
  subst hk
  exact fun H locs ls hP hD hS hl => va_lald C.1 C.2.1 C.2.2.2.2.2.1 hP q0 t0 ha ht hin hdg (kk H locs ls hP hD hS hl)
theorem z_iast (C : zK sa D cl tys A p s m args meth c cc nL own Ts ret) {a : Nat} (q0 t0 : Nat) {cA : ClassId} {n : Nat} {f : Nat → Int32} (ha : ws[q0]? = some (a, .inl (cA, n, .inl f))) (ht : tys[t0]? = some (cA, .int)) {i x : Int32} (k : Nat) (hk : i.toNatClampNeg = k) (hin : vp_in i n) (v : Int32) (hv : narrow .int (.int x) = .int v) (hdg : decode cc pc = .ok (.iastore, 1)) (ws' : va_W) (hw : ws.set q0 (a, .inl (cA, n, .inl (upd f k v))) = ws') (kk : zW 0 p l e R s m args below meth c Q D cl A nL cells slots ws' lv (pc + 1) st) : zW cn p l e R s m args below meth c Q D cl A nL cells slots ws lv pc (.int x :: .int i :: .ref a :: st) :=
  by
  subst hk
  have hv : v = vp_nar .int x := by unfold vp_nar; rw [hv]
  subst hv
  subst hw
  exact fun H locs ls hP hD hS hl => va_iast C.1 C.2.1 C.2.2.2.2.2.1 hP hD hS.1 q0 t0 ha ht hin hdg (fun H1 locs1 hP1 hD1 hS1 => kk H1 locs1 ls hP1 hD1 ⟨hS1, hS1.1⟩ hl)
theorem z_zast (C : zK sa D cl tys A p s m args meth c cc nL own Ts ret) {a : Nat} (q0 t0 : Nat) {cA : ClassId} {n : Nat} {f : Nat → Int32} (ha : ws[q0]? = some (a, .inl (cA, n, .inl f))) (ht : tys[t0]? = some (cA, .boolean)) {i x : Int32} (k : Nat) (hk : i.toNatClampNeg = k) (hin : vp_in i n) (v : Int32) (hv : narrow .boolean (.int x) = .int v) (hdg : decode cc pc = .ok (.bastore, 1)) (ws' : va_W) (hw : ws.set q0 (a, .inl (cA, n, .inl (upd f k v))) = ws') (kk : zW 0 p l e R s m args below meth c Q D cl A nL cells slots ws' lv (pc + 1) st) : zW cn p l e R s m args below meth c Q D cl A nL cells slots ws lv pc (.int x :: .int i :: .ref a :: st) :=
  by
  subst hk
  have hv : v = vp_nar .boolean x := by unfold vp_nar; rw [hv]
  subst hv
  subst hw
  exact fun H locs ls hP hD hS hl => va_zast C.1 C.2.1 C.2.2.2.2.2.1 hP hD hS.1 q0 t0 ha ht hin hdg (fun H1 locs1 hP1 hD1 hS1 => kk H1 locs1 ls hP1 hD1 ⟨hS1, hS1.1⟩ hl)
theorem z_last (C : zK sa D cl tys A p s m args meth c cc nL own Ts ret) {a : Nat} (q0 t0 : Nat) {cA : ClassId} {n : Nat} {f : Nat → Int64} (ha : ws[q0]? = some (a, .inl (cA, n, .inr (.inl f)))) (ht : tys[t0]? = some (cA, .long)) {i : Int32} {x : Int64} (k : Nat) (hk : i.toNatClampNeg = k) (hin : vp_in i n) (hdg : decode cc pc = .ok (.lastore, 1)) (ws' : va_W) (hw : ws.set q0 (a, .inl (cA, n, .inr (.inl (vp_updL f k x)))) = ws') (kk : zW 0 p l e R s m args below meth c Q D cl A nL cells slots ws' lv (pc + 1) st) : zW cn p l e R s m args below meth c Q D cl A nL cells slots ws lv pc (.long x :: .int i :: .ref a :: st) :=
  by
  subst hk
  subst hw
  exact fun H locs ls hP hD hS hl => va_last C.1 C.2.1 C.2.2.2.2.2.1 hP hD hS.1 q0 t0 ha ht hin hdg (fun H1 locs1 hP1 hD1 hS1 => kk H1 locs1 ls hP1 hD1 ⟨hS1, hS1.1⟩ hl)
theorem z_mmin (C : zK sa D cl tys A p s m args meth c cc nL own Ts ret) {index : Nat} {x y v : Int32} (h1 : Cond.methodLink own index Lib.Math.min.name ∈ Ts) (h2 : Cond.static Lib.Math.min.name ∈ Ts) (h3 : Cond.initialized "java/lang/Math" ∈ Ts) (h4 : Cond.code Lib.Math.min.name Lib.Math.min.code 2 (some .int) ∈ Ts) (hR : 1 ≤ R.frames ∧ (st.map fun v => v.category).sum + 13 ≤ R.locals ∧ cells ≤ R.cells ∧ slots ≤ R.slots) (hdg : decode cc pc = .ok (.invokestatic index, 3)) (hv : (if y < x then y else x) = v) (kk : zW cn p l e R s m args below meth c Q D cl A nL cells slots ws lv (pc + 3) (.int v :: st)) : zW cn p l e R s m args below meth c Q D cl A nL cells slots ws lv pc (.int y :: .int x :: st) :=
  fun H locs ls hP hD hS hl => va_mmin C.1 C.2.1 (by rw [C.2.2.1]; exact hl.1.symm) C.2.2.2.1 (C.2.2.2.2.1 _ h1) (C.2.2.2.2.1 _ h2) (C.2.2.2.2.1 _ h3) (C.2.2.2.2.1 _ h4) hR.1 hR.2.1 hR.2.2.1 hR.2.2.2 hdg (by rw [hv]; exact kk H locs ls hP hD hS hl)
theorem z_mmax (C : zK sa D cl tys A p s m args meth c cc nL own Ts ret) {index : Nat} {x y v : Int32} (h1 : Cond.methodLink own index Lib.Math.max.name ∈ Ts) (h2 : Cond.static Lib.Math.max.name ∈ Ts) (h3 : Cond.initialized "java/lang/Math" ∈ Ts) (h4 : Cond.code Lib.Math.max.name Lib.Math.max.code 2 (some .int) ∈ Ts) (hR : 1 ≤ R.frames ∧ (st.map fun v => v.category).sum + 13 ≤ R.locals ∧ cells ≤ R.cells ∧ slots ≤ R.slots) (hdg : decode cc pc = .ok (.invokestatic index, 3)) (hv : (if x < y then y else x) = v) (kk : zW cn p l e R s m args below meth c Q D cl A nL cells slots ws lv (pc + 3) (.int v :: st)) : zW cn p l e R s m args below meth c Q D cl A nL cells slots ws lv pc (.int y :: .int x :: st) :=
  fun H locs ls hP hD hS hl => va_mmax C.1 C.2.1 (by rw [C.2.2.1]; exact hl.1.symm) C.2.2.2.1 (C.2.2.2.2.1 _ h1) (C.2.2.2.2.1 _ h2) (C.2.2.2.2.1 _ h3) (C.2.2.2.2.1 _ h4) hR.1 hR.2.1 hR.2.2.1 hR.2.2.2 hdg (by rw [hv]; exact kk H locs ls hP hD hS hl)
theorem z_widen {k n : Nat} (h1 : cells ≤ k) (h2 : slots ≤ n) (kk : zW cn p l e R s m args below meth c Q D cl A nL k n ws lv pc st) : zW cn p l e R s m args below meth c Q D cl A nL cells slots ws lv pc st :=
  fun H locs ls hP hD hS hl => W.widen h1 h2 (kk H locs ls hP hD hS hl)
theorem z_perm (ws' : va_W) (ks : List Nat) (hks : ks.map (fun i => ws[i]?) = ws'.map some) (hnk : va_nd ks = true) (kk : zW cn p l e R s m args below meth c Q D cl A nL cells slots ws' lv pc st) : zW cn p l e R s m args below meth c Q D cl A nL cells slots ws lv pc st :=
  fun H locs ls hP hD hS hl => kk H locs ls (hP.sub ks (zfm hks)) (hD.sub ks hnk hks) hS hl
theorem z_lv (lv' : List (Nat × Value)) (ks : List Nat) (hks : lv_pick lv ks = lv') (kk : zW cn p l e R s m args below meth c Q D cl A nL cells slots ws lv' pc st) : zW cn p l e R s m args below meth c Q D cl A nL cells slots ws lv pc st :=
  fun H locs ls hP hD hS hl => kk H locs ls hP hD hS (lv_sub hl ks hks)
theorem z_eq {pc' : Nat} (h : pc = pc') (kk : zW cn p l e R s m args below meth c Q D cl A nL cells slots ws lv pc' st) : zW cn p l e R s m args below meth c Q D cl A nL cells slots ws lv pc st := h ▸ kk
/-- how a method starts: its arguments, its world, and what zG says -/
def zPc (sa : Nat → Nat) (D : va_G) (cl : List vw_C) (tys : List (ClassId × FieldType)) (av : List Value) (wc : va_W) (sz : Nat) : Array Value → State → Prop := va_Pc av (fun U => U.heap.size = sz ∧ va_P D cl wc U.heap ∧ va_K D cl tys U ∧ va_D (fun _ => True) wc ∧ zG sa (va_A wc sz) U U.heap)
def zB (D : va_G) (cl : List vw_C) (tys : List (ClassId × FieldType)) (wc : va_W) (sz : Nat) (w1 : va_W) (t : State) : Prop := va_P D cl w1 t.heap ∧ va_K D cl tys t ∧ va_D (va_A wc sz) w1
/-- returns an int (or a boolean) -/
def zMi {T : Type} (sa : Nat → Nat) (D : va_G) (cl : List vw_C) (tys : List (ClassId × FieldType)) (l : Launch) (y : MethodName) (wsy : List Cond) (rm : Room) (av : List Value) (wc : va_W) (post : Int32 → T → Prop) (w1 : T → va_W) (mc ms : Nat) : Prop :=
  ∀ sz : Nat, Met l y wsy rm (zPc sa D cl tys av wc sz) (va_Qi post (fun u t => zB D cl tys wc sz (w1 u) t) (va_A wc sz)) mc ms (va_A wc sz)
/-- returns a long -/
def zMl {T : Type} (sa : Nat → Nat) (D : va_G) (cl : List vw_C) (tys : List (ClassId × FieldType)) (l : Launch) (y : MethodName) (wsy : List Cond) (rm : Room) (av : List Value) (wc : va_W) (post : Int64 → T → Prop) (w1 : T → va_W) (mc ms : Nat) : Prop :=
  ∀ sz : Nat, Met l y wsy rm (zPc sa D cl tys av wc sz) (va_Ql post (fun u t => zB D cl tys wc sz (w1 u) t) (va_A wc sz)) mc ms (va_A wc sz)
/-- returns an int, and has made k cells or more -/
def zNi {T : Type} (k : Nat) (sa : Nat → Nat) (D : va_G) (cl : List vw_C) (tys : List (ClassId × FieldType)) (l : Launch) (y : MethodName) (wsy : List Cond) (rm : Room) (av : List Value) (wc : va_W) (post : Int32 → T → Prop) (w1 : T → va_W) (mc ms : Nat) : Prop :=
  ∀ sz : Nat, Met l y wsy rm (zPc sa D cl tys av wc sz) (va_Qi post (fun u t => zB D cl tys wc sz (w1 u) t ∧ sz + k ≤ t.heap.size) (va_A wc sz)) mc ms (va_A wc sz)
/-- returns nothing -/
def zMv {T : Type} (sa : Nat → Nat) (D : va_G) (cl : List vw_C) (tys : List (ClassId × FieldType)) (l : Launch) (y : MethodName) (wsy : List Cond) (rm : Room) (av : List Value) (wc : va_W) (post : T → Prop) (w1 : T → va_W) (mc ms : Nat) : Prop :=
  ∀ sz : Nat, Met l y wsy rm (zPc sa D cl tys av wc sz) (va_Qv post (fun u t => zB D cl tys wc sz (w1 u) t) (va_A wc sz)) mc ms (va_A wc sz)
/-- throws an E, the world as it was -/
def zXC (D : va_G) (cl : List vw_C) (tys : List (ClassId × FieldType)) (E : String) (wc : va_W) (sz : Nat) : String → State → State → Prop := vx_X (S := Unit) (fun _ => True) (fun E1 _ t => E1 = E ∧ zB D cl tys wc sz wc t ∧ sz + 1 ≤ t.heap.size) (va_A wc sz)
def zX (sa : Nat → Nat) (D : va_G) (cl : List vw_C) (tys : List (ClassId × FieldType)) (l : Launch) (y : MethodName) (wsy : List Cond) (rm : Room) (av : List Value) (wc : va_W) (E : String) (mc ms : Nat) : Prop :=
  ∀ sz : Nat, vx_Met l y wsy rm (zPc sa D cl tys av wc sz) (fun _ _ _ _ => False) (zXC D cl tys E wc sz) mc ms (va_A wc sz)
theorem zPc.blind {sa : Nat → Nat} {D : va_G} {cl : List vw_C} {tys : List (ClassId × FieldType)} {av : List Value} {wc : va_W} {sz : Nat} : FrameBlind (zPc sa D cl tys av wc sz) := fun a U g mk q => by
  obtain ⟨q0, q1, qP, qK, qD, qG⟩ := q
  exact ⟨q0, q1, qP, va_K.moved (u := U) (U := U.calling g mk a) (Vm.Alike.refl U.vm) qK, qD, zG.go (U := U.calling g mk a) (State.WarmedH.refl U) qG (fun _ _ _ => rfl) (fun _ h => h)⟩
theorem zPc.at_ (C : zK sa D cl tys A p s m args meth c cc nL own Ts ret) {H : Heap} {locs : List Loc} {av : List Value} {wc : va_W} (hP : va_P D cl wc H) (hD : va_D A wc) (hS : va_S A s.heap H locs) : ∀ U : State, U.heap = H → s.WarmedH U.vm → zPc sa D cl tys av wc H.size av.toArray U := by
  intro U hU hW
  subst hU
  refine ⟨rfl, rfl, hP, va_K.moved hW.alike C.2.2.2.2.2.1, hD.weaken (fun _ _ _ _ => trivial), zG.go hW C.2.2.2.2.2.2.2.1 hS.2.1 (fun q h => ?_)⟩
  rcases h with ⟨k, e, h⟩ | h
  · exact hD.2 k (q, e) h
  · exact C.2.2.2.2.2.2.1 q (Nat.le_trans hS.1 h)
theorem zPc.free (C : zK sa D cl tys A p s m args meth c cc nL own Ts ret) {H : Heap} {locs : List Loc} {wc : va_W} (hD : va_D A wc) (hS : va_S A s.heap H locs) : ∀ q : Nat, va_A wc H.size q → A q := by
  intro q h
  rcases h with ⟨k, e, h⟩ | h
  · exact hD.2 k (q, e) h
  · exact C.2.2.2.2.2.2.1 q (Nat.le_trans hS.1 h)
theorem z_callVi (C : zK sa D cl tys A p s m args meth c cc nL own Ts ret) {T : Type} {y : MethodName} {wsy : List Cond} {rm : Room} {bytes : ByteArray} {maxL mc ms n index : Nat} {ret9 : Option FieldType} {Cn : String} {a : Nat} {As : List Value} {wc : va_W} {post : Int32 → T → Prop} {w1 : T → va_W} {ws' : T → va_W} (hM : zMi sa D cl tys l y wsy rm (.ref a :: As) wc post w1 mc ms) (cw : CallW R s args own Cn index y bytes maxL ret9 wsy rm mc ms n) (q0 : Nat) {ci : Nat} {fs : List Value} {cq : vw_C} (he : ws[q0]? = some (a, .inr (ci, fs))) (hcl : cl[ci]? = some cq) (hcq : cq.1 = Cn) (hsub : ∀ u, zSub ws wc (w1 u) (ws' u)) (hex : zIn ws wc) (hn9 : As.length = n) (hst : (rest.map fun v => v.category).sum ≤ 8) (hf : cells + mc ≤ R.cells ∧ slots + ms ≤ R.slots) (hdg : decode cc pc = .ok (.invokevirtual index, 3)) (kk : ∀ (r : Int32) (u : T), post r u → zW cn p l e R s m args below meth c Q D cl A nL (cells + mc) (slots + ms) (ws' u) lv (pc + 3) (.int r :: rest)) : zW cn p l e R s m args below meth c Q D cl A nL cells slots ws lv pc (As.reverse ++ .ref a :: rest) :=
  by
  intro H locs ls hP hD hS hl
  have hsub0 := hex
  have hF : ∀ q : Nat, va_A wc H.size q → A q := zPc.free C (hsub0.2 A hD) hS.1
  refine va_calli (va_runV (As := As) (rest := rest) ⟨C.1, C.2.1, C.2.2.1, C.2.2.2.1, C.2.2.2.2.1⟩ (hM H.size) cw ⟨zPc.blind, (by rw [← hcq]; exact va_recv C.2.2.2.2.2.1 hP hcl he), zPc.at_ C (hsub0.1 D cl H hP) (hsub0.2 A hD) hS.1⟩ rfl hn9 hl.1 rfl (lv_room hst) hdg hf) hS.1 (fun q _ h => hF q h) hF (fun r u t H1 locs1 ht hvm hw hB hz1 hk1 hS1 => ?_)
  obtain ⟨hP1, hK1, hD1⟩ := hB
  rw [ht] at hP1
  obtain ⟨g1, g2⟩ := (hsub u).2.2 D cl A H H1 hP hD hF hk1 hP1 hD1
  exact kk r u hw H1 locs1 ls g1 g2 ⟨hS1, (Nat.le_trans hS.2 hz1)⟩ hl
theorem z_callVv (C : zK sa D cl tys A p s m args meth c cc nL own Ts ret) {T : Type} {y : MethodName} {wsy : List Cond} {rm : Room} {bytes : ByteArray} {maxL mc ms n index : Nat} {ret9 : Option FieldType} {Cn : String} {a : Nat} {As : List Value} {wc : va_W} {post : T → Prop} {w1 : T → va_W} {ws' : T → va_W} (hM : zMv sa D cl tys l y wsy rm (.ref a :: As) wc post w1 mc ms) (cw : CallW R s args own Cn index y bytes maxL ret9 wsy rm mc ms n) (q0 : Nat) {ci : Nat} {fs : List Value} {cq : vw_C} (he : ws[q0]? = some (a, .inr (ci, fs))) (hcl : cl[ci]? = some cq) (hcq : cq.1 = Cn) (hsub : ∀ u, zSub ws wc (w1 u) (ws' u)) (hex : zIn ws wc) (hn9 : As.length = n) (hst : (rest.map fun v => v.category).sum ≤ 8) (hf : cells + mc ≤ R.cells ∧ slots + ms ≤ R.slots) (hdg : decode cc pc = .ok (.invokevirtual index, 3)) (kk : ∀ (u : T), post u → zW cn p l e R s m args below meth c Q D cl A nL (cells + mc) (slots + ms) (ws' u) lv (pc + 3) rest) : zW cn p l e R s m args below meth c Q D cl A nL cells slots ws lv pc (As.reverse ++ .ref a :: rest) :=
  by
  intro H locs ls hP hD hS hl
  have hsub0 := hex
  have hF : ∀ q : Nat, va_A wc H.size q → A q := zPc.free C (hsub0.2 A hD) hS.1
  refine va_callv (va_runV (As := As) (rest := rest) ⟨C.1, C.2.1, C.2.2.1, C.2.2.2.1, C.2.2.2.2.1⟩ (hM H.size) cw ⟨zPc.blind, (by rw [← hcq]; exact va_recv C.2.2.2.2.2.1 hP hcl he), zPc.at_ C (hsub0.1 D cl H hP) (hsub0.2 A hD) hS.1⟩ rfl hn9 hl.1 rfl (lv_room hst) hdg hf) hS.1 (fun q _ h => hF q h) hF (fun u t H1 locs1 ht hvm hw hB hz1 hk1 hS1 => ?_)
  obtain ⟨hP1, hK1, hD1⟩ := hB
  rw [ht] at hP1
  obtain ⟨g1, g2⟩ := (hsub u).2.2 D cl A H H1 hP hD hF hk1 hP1 hD1
  exact kk u hw H1 locs1 ls g1 g2 ⟨hS1, (Nat.le_trans hS.2 hz1)⟩ hl
theorem z_callSi (C : zK sa D cl tys A p s m args meth c cc nL own Ts ret) {T : Type} {y : MethodName} {wsy : List Cond} {rm : Room} {bytes : ByteArray} {maxL mc ms n index : Nat} {ret9 : Option FieldType} {As : List Value} {wc : va_W} {post : Int32 → T → Prop} {w1 : T → va_W} {ws' : T → va_W} (hM : zMi sa D cl tys l y wsy rm As wc post w1 mc ms) (cw : CallB R s args own index y bytes maxL ret9 wsy rm mc ms n ∧ (Cond.static y).before args s = true) (hsub : ∀ u, zSub ws wc (w1 u) (ws' u)) (hex : zIn ws wc) (hn9 : As.length = n) (hst : (rest.map fun v => v.category).sum ≤ 8) (hf : cells + mc ≤ R.cells ∧ slots + ms ≤ R.slots) (hdg : decode cc pc = .ok (.invokestatic index, 3)) (kk : ∀ (r : Int32) (u : T), post r u → zW cn p l e R s m args below meth c Q D cl A nL (cells + mc) (slots + ms) (ws' u) lv (pc + 3) (.int r :: rest)) : zW cn p l e R s m args below meth c Q D cl A nL cells slots ws lv pc (As.reverse ++ rest) :=
  by
  intro H locs ls hP hD hS hl
  have hsub0 := hex
  have hF : ∀ q : Nat, va_A wc H.size q → A q := zPc.free C (hsub0.2 A hD) hS.1
  refine va_calli (va_runS (As := As) (rest := rest) ⟨C.1, C.2.1, C.2.2.1, C.2.2.2.1, C.2.2.2.2.1⟩ (hM H.size) cw ⟨zPc.blind, zPc.at_ C (hsub0.1 D cl H hP) (hsub0.2 A hD) hS.1⟩ rfl hn9 hl.1 rfl (lv_room hst) hdg hf) hS.1 (fun q _ h => hF q h) hF (fun r u t H1 locs1 ht hvm hw hB hz1 hk1 hS1 => ?_)
  obtain ⟨hP1, hK1, hD1⟩ := hB
  rw [ht] at hP1
  obtain ⟨g1, g2⟩ := (hsub u).2.2 D cl A H H1 hP hD hF hk1 hP1 hD1
  exact kk r u hw H1 locs1 ls g1 g2 ⟨hS1, (Nat.le_trans hS.2 hz1)⟩ hl
theorem z_callSv (C : zK sa D cl tys A p s m args meth c cc nL own Ts ret) {T : Type} {y : MethodName} {wsy : List Cond} {rm : Room} {bytes : ByteArray} {maxL mc ms n index : Nat} {ret9 : Option FieldType} {As : List Value} {wc : va_W} {post : T → Prop} {w1 : T → va_W} {ws' : T → va_W} (hM : zMv sa D cl tys l y wsy rm As wc post w1 mc ms) (cw : CallB R s args own index y bytes maxL ret9 wsy rm mc ms n ∧ (Cond.static y).before args s = true) (hsub : ∀ u, zSub ws wc (w1 u) (ws' u)) (hex : zIn ws wc) (hn9 : As.length = n) (hst : (rest.map fun v => v.category).sum ≤ 8) (hf : cells + mc ≤ R.cells ∧ slots + ms ≤ R.slots) (hdg : decode cc pc = .ok (.invokestatic index, 3)) (kk : ∀ (u : T), post u → zW cn p l e R s m args below meth c Q D cl A nL (cells + mc) (slots + ms) (ws' u) lv (pc + 3) rest) : zW cn p l e R s m args below meth c Q D cl A nL cells slots ws lv pc (As.reverse ++ rest) :=
  by
  intro H locs ls hP hD hS hl
  have hsub0 := hex
  have hF : ∀ q : Nat, va_A wc H.size q → A q := zPc.free C (hsub0.2 A hD) hS.1
  refine va_callv (va_runS (As := As) (rest := rest) ⟨C.1, C.2.1, C.2.2.1, C.2.2.2.1, C.2.2.2.2.1⟩ (hM H.size) cw ⟨zPc.blind, zPc.at_ C (hsub0.1 D cl H hP) (hsub0.2 A hD) hS.1⟩ rfl hn9 hl.1 rfl (lv_room hst) hdg hf) hS.1 (fun q _ h => hF q h) hF (fun u t H1 locs1 ht hvm hw hB hz1 hk1 hS1 => ?_)
  obtain ⟨hP1, hK1, hD1⟩ := hB
  rw [ht] at hP1
  obtain ⟨g1, g2⟩ := (hsub u).2.2 D cl A H H1 hP hD hF hk1 hP1 hD1
  exact kk u hw H1 locs1 ls g1 g2 ⟨hS1, (Nat.le_trans hS.2 hz1)⟩ hl
theorem z_callSNi (C : zK sa D cl tys A p s m args meth c cc nL own Ts ret) {T : Type} {y : MethodName} {wsy : List Cond} {rm : Room} {bytes : ByteArray} {maxL mc ms n index : Nat} {ret9 : Option FieldType} {As : List Value} {wc : va_W} {post : Int32 → T → Prop} {w1 : T → va_W} {ws' : T → va_W} (hM : zMi sa D cl tys l y wsy rm As wc post w1 mc ms) (cw : va_CN R s args own index y RX4 bytes maxL ret9 wsy rm mc ms n ∧ (Cond.static y).before args s = true ∧ True) (hsub : ∀ u, zSub ws wc (w1 u) (ws' u)) (hex : zIn ws wc) (hn9 : As.length = n) (hst : (rest.map fun v => v.category).sum ≤ 8) (hf : cells + mc ≤ R.cells ∧ slots + ms ≤ R.slots) (hdg : decode cc pc = .ok (.invokestatic index, 3)) (kk : ∀ (r : Int32) (u : T), post r u → zW cn p l e R s m args below meth c Q D cl A nL (cells + mc) (slots + ms) (ws' u) lv (pc + 3) (.int r :: rest)) : zW cn p l e R s m args below meth c Q D cl A nL cells slots ws lv pc (As.reverse ++ rest) :=
  by
  intro H locs ls hP hD hS hl
  have hsub0 := hex
  have hF : ∀ q : Nat, va_A wc H.size q → A q := zPc.free C (hsub0.2 A hD) hS.1
  refine va_calli (va_runSN (As := As) (rest := rest) ⟨C.1, C.2.1, C.2.2.1, C.2.2.2.1, C.2.2.2.2.1⟩ (hM H.size) cw ⟨zPc.blind, zPc.at_ C (hsub0.1 D cl H hP) (hsub0.2 A hD) hS.1⟩ rfl hn9 hl.1 rfl (lv_room hst) hdg hf) hS.1 (fun q _ h => hF q h) hF (fun r u t H1 locs1 ht hvm hw hB hz1 hk1 hS1 => ?_)
  obtain ⟨hP1, hK1, hD1⟩ := hB
  rw [ht] at hP1
  obtain ⟨g1, g2⟩ := (hsub u).2.2 D cl A H H1 hP hD hF hk1 hP1 hD1
  exact kk r u hw H1 locs1 ls g1 g2 ⟨hS1, (Nat.le_trans hS.2 hz1)⟩ hl
theorem z_callIv (C : zK sa D cl tys A p s m args meth c cc nL own Ts ret) {T : Type} {y : MethodName} {wsy : List Cond} {rm : Room} {bytes : ByteArray} {maxL mc ms n index : Nat} {ret9 : Option FieldType} {a : Nat} {As : List Value} {wc : va_W} {post : T → Prop} {w1 : T → va_W} {ws' : T → va_W} (hM : zMv sa D cl tys l y wsy rm (.ref a :: As) wc post w1 mc ms) (cw : CallB R s args own index y bytes maxL none wsy rm mc ms n ∧ y.name = "<init>" ∧ (Cond.instanceMethod y).before args s = true) (hsub : ∀ u, zSub ws wc (w1 u) (ws' u)) (hex : zIn ws wc) (hn9 : As.length = n) (hst : (rest.map fun v => v.category).sum ≤ 8) (hf : cells + mc ≤ R.cells ∧ slots + ms ≤ R.slots) (hdg : decode cc pc = .ok (.invokespecial index, 3)) (kk : ∀ (u : T), post u → zW cn p l e R s m args below meth c Q D cl A nL (cells + mc) (slots + ms) (ws' u) lv (pc + 3) rest) : zW cn p l e R s m args below meth c Q D cl A nL cells slots ws lv pc (As.reverse ++ .ref a :: rest) :=
  by
  intro H locs ls hP hD hS hl
  have hsub0 := hex
  have hF : ∀ q : Nat, va_A wc H.size q → A q := zPc.free C (hsub0.2 A hD) hS.1
  refine va_callv (va_runI (As := As) (rest := rest) ⟨C.1, C.2.1, C.2.2.1, C.2.2.2.1, C.2.2.2.2.1⟩ (hM H.size) cw ⟨zPc.blind, zPc.at_ C (hsub0.1 D cl H hP) (hsub0.2 A hD) hS.1⟩ rfl hn9 hl.1 rfl (lv_room hst) hdg hf) hS.1 (fun q _ h => hF q h) hF (fun u t H1 locs1 ht hvm hw hB hz1 hk1 hS1 => ?_)
  obtain ⟨hP1, hK1, hD1⟩ := hB
  rw [ht] at hP1
  obtain ⟨g1, g2⟩ := (hsub u).2.2 D cl A H H1 hP hD hF hk1 hP1 hD1
  exact kk u hw H1 locs1 ls g1 g2 ⟨hS1, (Nat.le_trans hS.2 hz1)⟩ hl
theorem z_callSl (C : zK sa D cl tys A p s m args meth c cc nL own Ts ret) {T : Type} {y : MethodName} {wsy : List Cond} {rm : Room} {bytes : ByteArray} {maxL mc ms n index : Nat} {ret9 : Option FieldType} {As : List Value} {wc : va_W} {post : Int64 → T → Prop} {w1 : T → va_W} {ws' : T → va_W} (hM : zMl sa D cl tys l y wsy rm As wc post w1 mc ms) (cw : CallB R s args own index y bytes maxL ret9 wsy rm mc ms n ∧ (Cond.static y).before args s = true) (hsub : ∀ u, zSub ws wc (w1 u) (ws' u)) (hex : zIn ws wc) (hn9 : As.length = n) (hst : (rest.map fun v => v.category).sum ≤ 8) (hf : cells + mc ≤ R.cells ∧ slots + ms ≤ R.slots) (hdg : decode cc pc = .ok (.invokestatic index, 3)) (kk : ∀ (r : Int64) (u : T), post r u → zW cn p l e R s m args below meth c Q D cl A nL (cells + mc) (slots + ms) (ws' u) lv (pc + 3) (.long r :: rest)) : zW cn p l e R s m args below meth c Q D cl A nL cells slots ws lv pc (As.reverse ++ rest) :=
  by
  intro H locs ls hP hD hS hl
  have hsub0 := hex
  have hF : ∀ q : Nat, va_A wc H.size q → A q := zPc.free C (hsub0.2 A hD) hS.1
  refine va_calll (va_runS (As := As) (rest := rest) ⟨C.1, C.2.1, C.2.2.1, C.2.2.2.1, C.2.2.2.2.1⟩ (hM H.size) cw ⟨zPc.blind, zPc.at_ C (hsub0.1 D cl H hP) (hsub0.2 A hD) hS.1⟩ rfl hn9 hl.1 rfl (lv_room hst) hdg hf) hS.1 (fun q _ h => hF q h) hF (fun r u t H1 locs1 ht hvm hw hB hz1 hk1 hS1 => ?_)
  obtain ⟨hP1, hK1, hD1⟩ := hB
  rw [ht] at hP1
  obtain ⟨g1, g2⟩ := (hsub u).2.2 D cl A H H1 hP hD hF hk1 hP1 hD1
  exact kk r u hw H1 locs1 ls g1 g2 ⟨hS1, (Nat.le_trans hS.2 hz1)⟩ hl
theorem z_callSn (C : zK sa D cl tys A p s m args meth c cc nL own Ts ret) {T : Type} {y : MethodName} {wsy : List Cond} {rm : Room} {bytes : ByteArray} {maxL mc ms n index : Nat} {ret9 : Option FieldType} {As : List Value} {wc : va_W} {post : Int32 → T → Prop} {w1 : T → va_W} {ws' : T → va_W} {kc : Nat} (hM : zNi kc sa D cl tys l y wsy rm As wc post w1 mc ms) (cw : CallB R s args own index y bytes maxL ret9 wsy rm mc ms n ∧ (Cond.static y).before args s = true) (hsub : ∀ u, zSub ws wc (w1 u) (ws' u)) (hex : zIn ws wc) (hn9 : As.length = n) (hst : (rest.map fun v => v.category).sum ≤ 8) (hf : cells + mc ≤ R.cells ∧ slots + ms ≤ R.slots) (hdg : decode cc pc = .ok (.invokestatic index, 3)) (kk : ∀ (r : Int32) (u : T), post r u → zW (cn + kc) p l e R s m args below meth c Q D cl A nL (cells + mc) (slots + ms) (ws' u) lv (pc + 3) (.int r :: rest)) : zW cn p l e R s m args below meth c Q D cl A nL cells slots ws lv pc (As.reverse ++ rest) :=
  by
  intro H locs ls hP hD hS hl
  have hsub0 := hex
  have hF : ∀ q : Nat, va_A wc H.size q → A q := zPc.free C (hsub0.2 A hD) hS.1
  refine va_calli (va_runS (As := As) (rest := rest) ⟨C.1, C.2.1, C.2.2.1, C.2.2.2.1, C.2.2.2.2.1⟩ (hM H.size) cw ⟨zPc.blind, zPc.at_ C (hsub0.1 D cl H hP) (hsub0.2 A hD) hS.1⟩ rfl hn9 hl.1 rfl (lv_room hst) hdg hf) hS.1 (fun q _ h => hF q h) hF (fun r u t H1 locs1 ht hvm hw hB hz1 hk1 hS1 => ?_)
  obtain ⟨⟨hP1, hK1, hD1⟩, hcn⟩ := hB
  rw [ht] at hP1
  rw [ht] at hcn
  obtain ⟨g1, g2⟩ := (hsub u).2.2 D cl A H H1 hP hD hF hk1 hP1 hD1
  exact kk r u hw H1 locs1 ls g1 g2 ⟨hS1, (by have h8 := hS.2; omega)⟩ hl
theorem z_callSWi (C : zK sa D cl tys A p s m args meth c cc nL own Ts ret) {T : Type} {y : MethodName} {wsy : List Cond} {rm : Room} {bytes : ByteArray} {maxL mc ms n index : Nat} {ret9 : Option FieldType} {As : List Value} {wc : va_W} {post : Int32 → T → Prop} {w1 : T → va_W} {ws' : T → va_W} {hh : List (Nat × Nat × Nat × Nat)} (hM : zMi sa D cl tys l y wsy rm As wc post w1 mc ms) (cw : vx_CSW R s args own index y bytes maxL ret9 hh wsy rm mc ms n) (hsub : ∀ u, zSub ws wc (w1 u) (ws' u)) (hex : zIn ws wc) (hn9 : As.length = n) (hst : (rest.map fun v => v.category).sum ≤ 8) (hf : cells + mc ≤ R.cells ∧ slots + ms ≤ R.slots) (hdg : decode cc pc = .ok (.invokestatic index, 3)) (kk : ∀ (r : Int32) (u : T), post r u → zW cn p l e R s m args below meth c Q D cl A nL (cells + mc) (slots + ms) (ws' u) lv (pc + 3) (.int r :: rest)) : zW cn p l e R s m args below meth c Q D cl A nL cells slots ws lv pc (As.reverse ++ rest) :=
  by
  intro H locs ls hP hD hS hl
  have hsub0 := hex
  have hF : ∀ q : Nat, va_A wc H.size q → A q := zPc.free C (hsub0.2 A hD) hS.1
  refine va_calli (vx_runSW (As := As) (rest := rest) ⟨C.1, C.2.1, C.2.2.1, C.2.2.2.1, C.2.2.2.2.1⟩ (hM H.size) cw ⟨zPc.blind, zPc.at_ C (hsub0.1 D cl H hP) (hsub0.2 A hD) hS.1⟩ rfl hn9 hl.1 rfl (lv_room hst) hdg hf) hS.1 (fun q _ h => hF q h) hF (fun r u t H1 locs1 ht hvm hw hB hz1 hk1 hS1 => ?_)
  obtain ⟨hP1, hK1, hD1⟩ := hB
  rw [ht] at hP1
  obtain ⟨g1, g2⟩ := (hsub u).2.2 D cl A H H1 hP hD hF hk1 hP1 hD1
  exact kk r u hw H1 locs1 ls g1 g2 ⟨hS1, (Nat.le_trans hS.2 hz1)⟩ hl
theorem z_callSWn (C : zK sa D cl tys A p s m args meth c cc nL own Ts ret) {T : Type} {y : MethodName} {wsy : List Cond} {rm : Room} {bytes : ByteArray} {maxL mc ms n index : Nat} {ret9 : Option FieldType} {As : List Value} {wc : va_W} {post : Int32 → T → Prop} {w1 : T → va_W} {ws' : T → va_W} {hh : List (Nat × Nat × Nat × Nat)} {kc : Nat} (hM : zNi kc sa D cl tys l y wsy rm As wc post w1 mc ms) (cw : vx_CSW R s args own index y bytes maxL ret9 hh wsy rm mc ms n) (hsub : ∀ u, zSub ws wc (w1 u) (ws' u)) (hex : zIn ws wc) (hn9 : As.length = n) (hst : (rest.map fun v => v.category).sum ≤ 8) (hf : cells + mc ≤ R.cells ∧ slots + ms ≤ R.slots) (hdg : decode cc pc = .ok (.invokestatic index, 3)) (kk : ∀ (r : Int32) (u : T), post r u → zW (cn + kc) p l e R s m args below meth c Q D cl A nL (cells + mc) (slots + ms) (ws' u) lv (pc + 3) (.int r :: rest)) : zW cn p l e R s m args below meth c Q D cl A nL cells slots ws lv pc (As.reverse ++ rest) :=
  by
  intro H locs ls hP hD hS hl
  have hsub0 := hex
  have hF : ∀ q : Nat, va_A wc H.size q → A q := zPc.free C (hsub0.2 A hD) hS.1
  refine va_calli (vx_runSW (As := As) (rest := rest) ⟨C.1, C.2.1, C.2.2.1, C.2.2.2.1, C.2.2.2.2.1⟩ (hM H.size) cw ⟨zPc.blind, zPc.at_ C (hsub0.1 D cl H hP) (hsub0.2 A hD) hS.1⟩ rfl hn9 hl.1 rfl (lv_room hst) hdg hf) hS.1 (fun q _ h => hF q h) hF (fun r u t H1 locs1 ht hvm hw hB hz1 hk1 hS1 => ?_)
  obtain ⟨⟨hP1, hK1, hD1⟩, hcn⟩ := hB
  rw [ht] at hP1
  rw [ht] at hcn
  obtain ⟨g1, g2⟩ := (hsub u).2.2 D cl A H H1 hP hD hF hk1 hP1 hD1
  exact kk r u hw H1 locs1 ls g1 g2 ⟨hS1, (by have h8 := hS.2; omega)⟩ hl
end ZZ
