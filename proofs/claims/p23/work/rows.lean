section
-- ===== PART A: goes FIRST, ahead of the names: the tables' words, and 'selects' of the private methods out of them =====
/-- a private method of a class that the tables say can be made, by its rows of tables_1 -/
def lw_okq (q : MethodName × Nat) : Prop := (q.1.cls ≠ "java/lang/invoke/MethodHandle" ∧ q.1.cls ≠ "java/lang/invoke/VarHandle") ∧ Cond.instantiable q.1.cls q.2 ∈ tables_1 ∧ Cond.privateMethod q.1 ∈ tables_1 ∧ Cond.instanceMethod q.1 ∈ tables_1
theorem lw_p0 : lw_okq (⟨"Queuefloat", "goThroughBanks", "()I"⟩, 12) := ⟨⟨by decide +kernel, by decide +kernel⟩, List.mem_of_getElem? (i := 16) (by decide +kernel), List.mem_of_getElem? (i := 164) (by decide +kernel), List.mem_of_getElem? (i := 165) (by decide +kernel)⟩
theorem lw_p1 : lw_okq (⟨"Queuefloat", "nextToGo", "(I)I"⟩, 12) := ⟨⟨by decide +kernel, by decide +kernel⟩, List.mem_of_getElem? (i := 16) (by decide +kernel), List.mem_of_getElem? (i := 168) (by decide +kernel), List.mem_of_getElem? (i := 169) (by decide +kernel)⟩
theorem lw_p2 : lw_okq (⟨"Queuefloat", "obstacle", "(I)I"⟩, 12) := ⟨⟨by decide +kernel, by decide +kernel⟩, List.mem_of_getElem? (i := 16) (by decide +kernel), List.mem_of_getElem? (i := 180) (by decide +kernel), List.mem_of_getElem? (i := 181) (by decide +kernel)⟩
theorem lw_p3 : lw_okq (⟨"Queuefloat", "firstSmallFree", "(I)I"⟩, 12) := ⟨⟨by decide +kernel, by decide +kernel⟩, List.mem_of_getElem? (i := 16) (by decide +kernel), List.mem_of_getElem? (i := 187) (by decide +kernel), List.mem_of_getElem? (i := 188) (by decide +kernel)⟩
theorem lw_p4 : lw_okq (⟨"Queuefloat", "send", "(I)V"⟩, 12) := ⟨⟨by decide +kernel, by decide +kernel⟩, List.mem_of_getElem? (i := 16) (by decide +kernel), List.mem_of_getElem? (i := 192) (by decide +kernel), List.mem_of_getElem? (i := 193) (by decide +kernel)⟩
theorem lw_p5 : lw_okq (⟨"Queuefloat", "sendLargestSet", "()I"⟩, 12) := ⟨⟨by decide +kernel, by decide +kernel⟩, List.mem_of_getElem? (i := 16) (by decide +kernel), List.mem_of_getElem? (i := 209) (by decide +kernel), List.mem_of_getElem? (i := 210) (by decide +kernel)⟩
theorem lw_p6 : lw_okq (⟨"Queuefloat", "canGoTogether", "(II)Z"⟩, 12) := ⟨⟨by decide +kernel, by decide +kernel⟩, List.mem_of_getElem? (i := 16) (by decide +kernel), List.mem_of_getElem? (i := 219) (by decide +kernel), List.mem_of_getElem? (i := 220) (by decide +kernel)⟩
theorem lw_p7 : lw_okq (⟨"Queuefloat", "canRepay", "(I)Z"⟩, 12) := ⟨⟨by decide +kernel, by decide +kernel⟩, List.mem_of_getElem? (i := 16) (by decide +kernel), List.mem_of_getElem? (i := 245) (by decide +kernel), List.mem_of_getElem? (i := 246) (by decide +kernel)⟩
theorem lw_p8 : lw_okq (⟨"Queuefloat", "repay", "(I)V"⟩, 12) := ⟨⟨by decide +kernel, by decide +kernel⟩, List.mem_of_getElem? (i := 16) (by decide +kernel), List.mem_of_getElem? (i := 249) (by decide +kernel), List.mem_of_getElem? (i := 250) (by decide +kernel)⟩
theorem lw_p9 : lw_okq (⟨"Queuefloat", "close", "(I)I"⟩, 12) := ⟨⟨by decide +kernel, by decide +kernel⟩, List.mem_of_getElem? (i := 16) (by decide +kernel), List.mem_of_getElem? (i := 254) (by decide +kernel), List.mem_of_getElem? (i := 255) (by decide +kernel)⟩
theorem lw_p10 : lw_okq (⟨"Queuefloat", "sellPledge", "(I)V"⟩, 12) := ⟨⟨by decide +kernel, by decide +kernel⟩, List.mem_of_getElem? (i := 16) (by decide +kernel), List.mem_of_getElem? (i := 262) (by decide +kernel), List.mem_of_getElem? (i := 263) (by decide +kernel)⟩
theorem lw_p11 : lw_okq (⟨"java/lang/Throwable", "fillInStackTrace", "(I)Ljava/lang/Throwable;"⟩, 6) := ⟨⟨by decide +kernel, by decide +kernel⟩, List.mem_of_getElem? (i := 334) (by decide +kernel), List.mem_of_getElem? (i := 332) (by decide +kernel), List.mem_of_getElem? (i := 333) (by decide +kernel)⟩
theorem lw_p12 : lw_okq (⟨"Queuefloat", "requirePayment", "(I)V"⟩, 12) := ⟨⟨by decide +kernel, by decide +kernel⟩, List.mem_of_getElem? (i := 16) (by decide +kernel), List.mem_of_getElem? (i := 389) (by decide +kernel), List.mem_of_getElem? (i := 390) (by decide +kernel)⟩
theorem lw_p13 : lw_okq (⟨"Queuefloat", "requireOpen", "(I)V"⟩, 12) := ⟨⟨by decide +kernel, by decide +kernel⟩, List.mem_of_getElem? (i := 16) (by decide +kernel), List.mem_of_getElem? (i := 430) (by decide +kernel), List.mem_of_getElem? (i := 431) (by decide +kernel)⟩
theorem lw_p14 : lw_okq (⟨"Queuefloat", "listWaiting", "()I"⟩, 12) := ⟨⟨by decide +kernel, by decide +kernel⟩, List.mem_of_getElem? (i := 16) (by decide +kernel), List.mem_of_getElem? (i := 501) (by decide +kernel), List.mem_of_getElem? (i := 502) (by decide +kernel)⟩
theorem lw_p15 : lw_okq (⟨"Queuefloat", "requireLoanable", "(IIII)V"⟩, 12) := ⟨⟨by decide +kernel, by decide +kernel⟩, List.mem_of_getElem? (i := 16) (by decide +kernel), List.mem_of_getElem? (i := 534) (by decide +kernel), List.mem_of_getElem? (i := 535) (by decide +kernel)⟩
def lw_privs_1 : List (MethodName × Nat) := [(⟨"Queuefloat", "goThroughBanks", "()I"⟩, 12), (⟨"Queuefloat", "nextToGo", "(I)I"⟩, 12), (⟨"Queuefloat", "obstacle", "(I)I"⟩, 12), (⟨"Queuefloat", "firstSmallFree", "(I)I"⟩, 12), (⟨"Queuefloat", "send", "(I)V"⟩, 12), (⟨"Queuefloat", "sendLargestSet", "()I"⟩, 12), (⟨"Queuefloat", "canGoTogether", "(II)Z"⟩, 12), (⟨"Queuefloat", "canRepay", "(I)Z"⟩, 12), (⟨"Queuefloat", "repay", "(I)V"⟩, 12), (⟨"Queuefloat", "close", "(I)I"⟩, 12), (⟨"Queuefloat", "sellPledge", "(I)V"⟩, 12), (⟨"java/lang/Throwable", "fillInStackTrace", "(I)Ljava/lang/Throwable;"⟩, 6), (⟨"Queuefloat", "requirePayment", "(I)V"⟩, 12), (⟨"Queuefloat", "requireOpen", "(I)V"⟩, 12), (⟨"Queuefloat", "listWaiting", "()I"⟩, 12), (⟨"Queuefloat", "requireLoanable", "(IIII)V"⟩, 12)]
theorem lw_r1 : ∀ q ∈ lw_privs_1, lw_okq q := List.forall_mem_cons.mpr ⟨lw_p0, List.forall_mem_cons.mpr ⟨lw_p1, List.forall_mem_cons.mpr ⟨lw_p2, List.forall_mem_cons.mpr ⟨lw_p3, List.forall_mem_cons.mpr ⟨lw_p4, List.forall_mem_cons.mpr ⟨lw_p5, List.forall_mem_cons.mpr ⟨lw_p6, List.forall_mem_cons.mpr ⟨lw_p7, List.forall_mem_cons.mpr ⟨lw_p8, List.forall_mem_cons.mpr ⟨lw_p9, List.forall_mem_cons.mpr ⟨lw_p10, List.forall_mem_cons.mpr ⟨lw_p11, List.forall_mem_cons.mpr ⟨lw_p12, List.forall_mem_cons.mpr ⟨lw_p13, List.forall_mem_cons.mpr ⟨lw_p14, List.forall_mem_cons.mpr ⟨lw_p15, fun _ h => absurd h List.not_mem_nil⟩⟩⟩⟩⟩⟩⟩⟩⟩⟩⟩⟩⟩⟩⟩⟩
theorem lw_p16 : lw_okq (⟨"Queuefloat", "pledgeWorth", "(I)I"⟩, 12) := ⟨⟨by decide +kernel, by decide +kernel⟩, List.mem_of_getElem? (i := 16) (by decide +kernel), List.mem_of_getElem? (i := 539) (by decide +kernel), List.mem_of_getElem? (i := 540) (by decide +kernel)⟩
def lw_privs_2 : List (MethodName × Nat) := [(⟨"Queuefloat", "pledgeWorth", "(I)I"⟩, 12)]
theorem lw_r2 : ∀ q ∈ lw_privs_2, lw_okq q := List.forall_mem_cons.mpr ⟨lw_p16, fun _ h => absurd h List.not_mem_nil⟩
def lw_privs : List (MethodName × Nat) := lw_privs_1 ++ (lw_privs_2)
def lw_tbl : List Cond := k2_sels lw_privs ++ tables_1
theorem lw_privs_ok : ∀ q ∈ lw_privs, lw_okq q := by
  show ∀ q ∈ lw_privs_1 ++ (lw_privs_2), lw_okq q
  exact List.forall_mem_append.mpr ⟨lw_r1, lw_r2⟩
-- ===== end of PART A; then your names; then what follows =====
end
section
/-! ===== BEGIN words of one list among another's, by their places ===== -/
theorem goodIn_r {big : List Cond} (ws : List Cond) (ps : List Nat) (hp : ws = ps.filterMap (fun i => big[i]?)) (h : ws.all goodWord = true) : GoodIn big ws := by
  intro w hw
  have h1 := List.all_eq_true.mp h w hw
  rw [hp] at hw
  obtain ⟨i, -, hi⟩ := List.mem_filterMap.mp hw
  have hm : w ∈ big := by first | exact List.mem_of_getElem? hi | exact List.getElem?_mem hi
  exact ⟨hm, good_of_word h1⟩
theorem goodIn_app {big a b : List Cond} (ha : GoodIn big a) (hb : GoodIn big b) : GoodIn big (a ++ b) := fun w h => (List.mem_append.mp h).elim (ha w) (hb w)
theorem goodIn_ca {big a b : List Cond} {c : Cond} (ha : GoodIn big (c :: a)) (hb : GoodIn big b) : GoodIn big (c :: (a ++ b)) := fun w h => (List.mem_cons.mp h).elim (fun e => ha w (List.mem_cons.mpr (Or.inl e))) (fun h => (List.mem_append.mp h).elim (fun h => ha w (List.mem_cons.mpr (Or.inr h))) (hb w))
theorem goodIn_sub {big ws : List Cond} (hm : ∀ w ∈ ws, w ∈ big) (h : ws.all goodWord = true) : GoodIn big ws := fun w hw => ⟨hm w hw, good_of_word (List.all_eq_true.mp h w hw)⟩
/-! ===== END ===== -/

/-! ===== BEGIN exceptions that leave a method, and their catching by the caller (launches without stack traces) ===== -/
section VXA
/-! The laws vx_back, vx_callV, vx_callS, vx_callSW, vx_throw0, vx_throwS follow proofs of the library, with one case more: JvmDerived/Free/Laws.lean (Back.of_free), Shelf42/LK1.lean (callV, callS), Shelf/KitTraced.lean (throwNew0V, throwNewS). -/
/-- where a method has thrown q: the class by its name, the cell, what was written, the world -/
def vx_T (XC : String → State → State → Prop) (st : State) (q : Addr) (t : State) (mc ms : Nat) (free : Addr → Prop) : Prop :=
  ∃ (E : String) (ce : Cell) (L : List Loc), XC E st t ∧ t.heap[q]? = some ce ∧ ce.vm = .none ∧ st.vm.findClass E = some ce.cls ∧ st.WarmedH t.vm ∧ st.sameButNew ({ t with vm := st.vm } : State) L mc ms ∧ ∀ z ∈ L, free z.base
def vx_Q (Qc : Array Value → State → Outcome → State → Prop) (XC : String → State → State → Prop) (mc ms : Nat) (free : Addr → Prop) : Array Value → State → Outcome → State → Prop := fun a st o t =>
  (Qc a st o t ∧ ∃ L, FrameEnd st o t L mc ms ∧ ∀ q ∈ L, free q.base) ∨ ∃ q, o = .threw q ∧ vx_T XC st q t mc ms free
/-- a callee that returns or throws -/
def vx_Met (l : Launch) (y : MethodName) (ws : List Cond) (rm : Room) (Pc : Array Value → State → Prop) (Qc : Array Value → State → Outcome → State → Prop) (XC : String → State → State → Prop) (mc ms : Nat) (free : Addr → Prop) : Prop :=
  MetFree l y (headSpec ws rm) Pc (fun _ _ _ _ _ => True) (vx_Q Qc XC mc ms free)
def vx_Post (XC : String → State → State → Prop) (mc ms : Nat) (free : Addr → Prop) : Pt → Array Value → Addr → Pt → Prop := fun A a q B =>
  ∃ (g : JFrame) (mk : MethodId) (t : State) (L : List Loc) (E : String) (ce : Cell), B.U.heap = t.heap ∧ B.U.vm = t.vm ∧ XC E (A.U.calling g mk a) t ∧ t.heap[q]? = some ce ∧ ce.vm = .none ∧ A.U.vm.findClass E = some ce.cls ∧ B.locs = A.locs ++ L ∧ (∀ z ∈ L, free z.base) ∧ B.cells = A.cells + mc ∧ B.slots = A.slots + ms
def vx_Back (l : Launch) (R : Room) (p : Program) (e : Env) (below : List Frame) (s : State) (sargs : Array Value) (y : MethodName) (len W9 : Nat)
    (Pre : Pt → Array Value → Prop) (Post : Pt → Array Value → Option Value → Pt → Prop) (PostX : Pt → Array Value → Addr → Pt → Prop) : Prop :=
  ∀ (m : MethodId) (meth : Method) (c : Code) (A : Pt) (g : JFrame) (ig : Instr) (mk : MethodId) (a : Array Value),
    Stand p l e R s m sargs below meth c A.U A.locs A.cells A.slots → g.method = m → g.locals.size = c.maxLocals → decode c.code g.pc = .ok (ig, len) →
    2 * g.monitorRoom + (g.stack.map fun v => v.category).sum ≤ W9 → A.U.methodNamed? y = some mk → Pre A a →
    (∃ (v : Option Value) (B : Pt), Stand p l e R s m sargs below meth c B.U B.locs B.cells B.slots ∧ Post A a v B ∧
      Steps p.tables e below (doInvoke e (A.U.setTop g) [] mk a).1 (B.U.setTop { g with pc := g.pc + len, stack := v.toList ++ g.stack })) ∨
    (∃ (q : Addr) (B : Pt), Stand p l e R s m sargs below meth c B.U B.locs B.cells B.slots ∧ PostX A a q B ∧
      Steps p.tables e below (doInvoke e (A.U.setTop g) [] mk a).1 ((B.U.setTop g).pushFrame (.throwing q)))
section Payer
variable {l : Launch} {R : Room} {p : Program} {e : Env} {below : List Frame} {s : State} {sargs : Array Value} {y : MethodName} {len W9 : Nat}
theorem vx_back {ws : List Cond} {rm : Room} {Pc : Array Value → State → Prop} {Qc : Array Value → State → Outcome → State → Prop} {XC : String → State → State → Prop} {mc ms : Nat} {free : Addr → Prop} {bytes : ByteArray} {maxL : Nat} {ret : Option FieldType}
    (hM : vx_Met l y ws rm Pc Qc XC mc ms free) (hblind : FrameBlind Pc) (hrc : rm.cells = mc) (hrs : rm.slots = ms)
    (hframes : rm.frames + 1 ≤ R.frames) (hlocals : W9 + (maxL + 11) + rm.locals ≤ R.locals)
    (hws : ∀ w ∈ ws, ∀ a' U, s.WarmedH U.vm → w.before a' U = true) (hcode : Cond.code y bytes maxL ret ∈ ws) (hinit : ∀ a' U, s.WarmedH U.vm → (Cond.initialized y.cls).before a' U = true) :
    vx_Back l R p e below s sargs y len W9 (PreOf R mc ms Pc) (PostOf Qc mc ms free) (vx_Post XC mc ms free) := by
  intro m meth c A g ig mk a X hg hsize hdg hW hn hp
  have h1 : (headSpec ws rm).pre.before a A.U = true := atoms_intro fun w hw => hws w hw _ _ X.warmed
  have h2 : (Cond.code y bytes maxL ret).before a A.U = true := hws _ hcode _ _ X.warmed
  have h3 : (Cond.initialized y.cls).before a A.U = true := hinit _ _ X.warmed
  have h4 : A.cells + (headSpec ws rm).room.cells ≤ R.cells := by rw [show (headSpec ws rm).room.cells = mc from hrc]; exact hp.1
  have h5 : A.slots + (headSpec ws rm).room.slots ≤ R.slots := by rw [show (headSpec ws rm).room.slots = ms from hrs]; exact hp.2.1
  have hPc : Pc a (A.U.calling g mk a) := hblind _ _ _ _ hp.2.2
  obtain ⟨U, Ls, c0, s0⟩ := A
  dsimp only [Pt.U, Pt.locs, Pt.cells, Pt.slots] at h1 h2 h3 h4 h5 X hn hPc ⊢
  obtain ⟨methY, cY, hmY, hcY, -, hlY, -, -, -, -⟩ := Cond.code_spec hn h2
  obtain ⟨kY, hkY, -⟩ := className_of_methodNamed hn
  have hinitY : kY.init = .initialized := Cond.initialized_spec (findClass_of_methodNamed hn) hkY h3
  have h : At U g.method c below := by rw [hg]; exact X.here
  have hlocals9 : W9 + (maxL + 11) + (headSpec ws rm).room.locals ≤ R.locals := hlocals
  have happ : (headSpec ws rm).appliesLoose y e.platform (U.calling g mk a) = true :=
    Spec.appliesLoose_calling (g := g) h hdg hn hkY hinitY
      (X.room_calling (g := g) (R' := (headSpec ws rm).room) hsize hmY hcY hframes (by rw [hlY]; omega) h4 h5) h1
  obtain ⟨mid, hmid⟩ := h.above
  have hfr : (U.setTop g).frames = (.java g :: mid) ++ below := by rw [State.frames_setTop' g h.top, hmid]; rfl
  obtain ⟨o, s₂, hsteps, -, hend, hq⟩ := Steps.callFree hM p X.admits X.cas X.clock (acts := []) hfr happ hPc trivial
  have hq' : vx_Q Qc XC mc ms free a (U.calling g mk a) o s₂ := hq
  rw [State.frames_setTop' g h.top] at hend
  obtain ⟨g₀, hg0⟩ := Option.isSome_iff_exists.mp h.top
  obtain ⟨r, hr⟩ := State.topJava?_eq_some.mp hg0
  have hr' : (({ U with heap := s₂.heap, slotsUsed := s₂.slotsUsed } : State).setVm s₂.vm).frames = .java g₀ :: r := hr
  rcases hq' with ⟨hqc, L, hfe, hL⟩ | ⟨q, rfl, E, ce, L, hx, hce, hcv, hcl, hW₂, hsm, hL⟩
  · obtain ⟨⟨v, rfl⟩, hW₂, e2, q2, q3, q4, q5, q6⟩ := id hfe
    have e3 : s₂ = ({ (U.calling g mk a).setFrames s₂.frames with heap := s₂.heap, slotsUsed := s₂.slotsUsed } : State).setVm s₂.vm := by
      have : s₂ = ({ s₂ with vm := (U.calling g mk a).vm } : State).setVm s₂.vm := rfl
      rw [e2] at this
      exact this
    obtain ⟨c₂, i₂, len₂, hc₂, hd₂, hf₂⟩ := hend
    have hW' : U.WarmedH s₂.vm := hW₂
    have hcc : c₂ = c := by
      have h1 : s₂.code? g.method = U.code? g.method := by
        rw [State.code?_eq, State.code?_eq, hW'.alike.method?]
      exact Option.some.inj (hc₂.symm.trans (h1.trans h.code))
    subst hcc
    have hlen : len₂ = len := by rw [hdg] at hd₂; cases hd₂; rfl
    subst hlen
    have hs₂ : s₂ = (({ U with heap := s₂.heap, slotsUsed := s₂.slotsUsed } : State).setVm s₂.vm).setTop { g with pc := g.pc + len₂, stack := v.toList ++ g.stack } := by
      refine e3.trans ?_
      rw [hf₂, State.calling_eq h.top, State.setFrames_setFrames, State.setTop_of_frames _ hr', hr]
      rfl
    have hsame : U.sameButNew ({ U with heap := s₂.heap, slotsUsed := s₂.slotsUsed } : State) L mc ms := by
      refine ⟨?_, q2, q3, q4, q5, q6⟩
      obtain ⟨t, ht, -⟩ := State.frames_cons hr
      show ({ U with heap := s₂.heap, slotsUsed := s₂.slotsUsed } : State) = { U.setFrames U.frames with heap := s₂.heap, slotsUsed := s₂.slotsUsed }
      rw [State.setFrames_self ht]
    subst hg
    refine Or.inl ⟨v, ⟨(({ U with heap := s₂.heap, slotsUsed := s₂.slotsUsed } : State).setVm s₂.vm), Ls ++ L, c0 + mc, s0 + ms⟩,
      ⟨X.admits, X.cas, X.clock, X.frames, X.room, X.hears, X.method, X.code, (X.here.setHeapUsed s₂.heap s₂.slotsUsed).setVm hW'.alike, X.tail, State.WarmedH.trans X.warmed hW', X.limits, X.bytes, X.same.trans (hsame.setVm s.vm)⟩,
      ⟨g, mk, s₂, L, rfl, rfl, hqc, rfl, hL, rfl, rfl⟩, ?_⟩
    show Steps p.tables e below _ ((({ U with heap := s₂.heap, slotsUsed := s₂.slotsUsed } : State).setVm s₂.vm).setTop { g with pc := g.pc + len₂, stack := v.toList ++ g.stack })
    rw [← hs₂]
    exact hsteps
  · obtain ⟨e2, q2, q3, q4, q5, q6⟩ := id hsm
    have e3 : s₂ = ({ (U.calling g mk a).setFrames s₂.frames with heap := s₂.heap, slotsUsed := s₂.slotsUsed } : State).setVm s₂.vm := by
      have : s₂ = ({ s₂ with vm := (U.calling g mk a).vm } : State).setVm s₂.vm := rfl
      rw [e2] at this
      exact this
    have hf₂ : s₂.frames = .throwing q :: .java g :: U.frames.tail := hend
    have hW' : U.WarmedH s₂.vm := hW₂
    have hs₂ : s₂ = ((({ U with heap := s₂.heap, slotsUsed := s₂.slotsUsed } : State).setVm s₂.vm).setTop g).pushFrame (.throwing q) := by
      refine e3.trans ?_
      rw [hf₂, State.calling_eq h.top, State.setFrames_setFrames, State.pushFrame, State.frames_setTop _ hr', State.setTop_of_frames _ hr', State.setFrames_setFrames, hr]
      rfl
    have hsame : U.sameButNew ({ U with heap := s₂.heap, slotsUsed := s₂.slotsUsed } : State) L mc ms := by
      refine ⟨?_, q2, q3, q4, q5, q6⟩
      obtain ⟨t, ht, -⟩ := State.frames_cons hr
      show ({ U with heap := s₂.heap, slotsUsed := s₂.slotsUsed } : State) = { U.setFrames U.frames with heap := s₂.heap, slotsUsed := s₂.slotsUsed }
      rw [State.setFrames_self ht]
    subst hg
    refine Or.inr ⟨q, ⟨(({ U with heap := s₂.heap, slotsUsed := s₂.slotsUsed } : State).setVm s₂.vm), Ls ++ L, c0 + mc, s0 + ms⟩,
      ⟨X.admits, X.cas, X.clock, X.frames, X.room, X.hears, X.method, X.code, (X.here.setHeapUsed s₂.heap s₂.slotsUsed).setVm hW'.alike, X.tail, State.WarmedH.trans X.warmed hW', X.limits, X.bytes, X.same.trans (hsame.setVm s.vm)⟩,
      ⟨g, mk, s₂, L, E, ce, rfl, rfl, hx, hce, hcv, hcl, rfl, hL, rfl, rfl⟩, ?_⟩
    show Steps p.tables e below _ (((({ U with heap := s₂.heap, slotsUsed := s₂.slotsUsed } : State).setVm s₂.vm).setTop g).pushFrame (.throwing q))
    rw [← hs₂]
    exact hsteps
end Payer
section Calls
variable {p : Program} {l : Launch} {e : Env} {R : Room} {s : State} {m : MethodId} {args : Array Value} {below : List Frame} {meth : Method} {c : Code} {T : State} {locs : List Loc} {cells slots : Nat}
theorem vx_callV (X : Stand p l e R s m args below meth c T locs cells slots) (hexec : p.tables.exec = Jvm.exec) {own C : String} {index : Nat} {y : MethodName} {bytes : ByteArray} {maxL : Nat} {ret : Option FieldType}
    (hown : s.vm.findClass own = some m.cls) (hlink : (Cond.methodLink own index y).before args s = true) (hinst : (Cond.instanceMethod y).before args s = true) (hsel : (Cond.selects C y y).before args s = true)
    (hcode : (Cond.code y bytes maxL ret).before args s = true) (hy : y.cls ≠ "java/lang/invoke/MethodHandle" ∧ y.cls ≠ "java/lang/invoke/VarHandle")
    {W9 : Nat} {Pre : Pt → Array Value → Prop} {Post : Pt → Array Value → Option Value → Pt → Prop} {PostX : Pt → Array Value → Addr → Pt → Prop} (hK : vx_Back l R p e below s args y 3 W9 Pre Post PostX)
    {b : Addr} {cellB : Cell} (hcell : T.heap[b]? = some cellB) (hobj : cellB.vm.isStatics = false) (hcls : s.vm.findClass C = some cellB.cls)
    {g : JFrame} (hg : g.method = m) (hsize : g.locals.size = c.maxLocals) {argsL rest : List Value} (hlen : ∀ sig, parseMethodDescriptor y.desc = some sig → argsL.length = sig.parameters.length)
    (hstack : g.stack = argsL.reverse ++ .ref b :: rest) (hW : 2 * g.monitorRoom + (rest.map fun v => v.category).sum ≤ W9) (hdg : decode c.code g.pc = .ok (.invokevirtual index, 3))
    (hpre : ∀ vm₁, s.WarmedH vm₁ → Pre ⟨T.setVm vm₁, locs, cells, slots⟩ (Value.ref b :: argsL).toArray) :
    (∃ (v : Option Value) (vm₁ : Vm) (B : Pt), s.WarmedH vm₁ ∧ Stand p l e R s m args below meth c B.U B.locs B.cells B.slots ∧ Post ⟨T.setVm vm₁, locs, cells, slots⟩ (Value.ref b :: argsL).toArray v B ∧
      ∀ target, Steps p.tables e below (B.U.setTop { g with pc := g.pc + 3, stack := v.toList ++ rest }) target → Steps p.tables e below (T.setTop g) target) ∨
    (∃ (q : Addr) (vm₁ : Vm) (B : Pt), s.WarmedH vm₁ ∧ Stand p l e R s m args below meth c B.U B.locs B.cells B.slots ∧ PostX ⟨T.setVm vm₁, locs, cells, slots⟩ (Value.ref b :: argsL).toArray q B ∧
      Steps p.tables e below (T.setTop g) ((B.U.setTop { g with stack := rest }).pushFrame (.throwing q))) := by
  obtain ⟨mk, methM, hnamed, hmethM, hstM, habM⟩ := Cond.instanceMethod_spec hinst
  obtain ⟨methM', cM, hmethM', -, -, -, -, -, -, hsigM⟩ := Cond.code_spec hnamed hcode
  cases hmethM.symm.trans hmethM'
  obtain ⟨c2, r2, m2, q1, q2, q3, q4, kP, hkP, hkPi⟩ := Cond.selects_spec hsel
  cases hcls.symm.trans q1
  cases (State.methodFound?_of_named hnamed hy).symm.trans q2
  cases hnamed.symm.trans q3
  have hselP : selectMethod e.platform s.vm cellB.cls mk = .method mk := by rw [Launch.admits_selectMethod X.admits]; exact q4
  obtain ⟨vm₁, X₁, hstep₁⟩ := X.invokevirtual hexec hown hlink hnamed hmethM hstM hkP hkPi hy (a := b) (cell := cellB) hcell
    (fun z h => by rw [h] at hobj; cases hobj) hselP hmethM habM hkP hkPi (g := g) hg (argsL := argsL) (rest := rest) (hlen _ hsigM) hstack hdg
  rcases hK m meth c ⟨T.setVm vm₁, locs, cells, slots⟩ { g with stack := rest } (.invokevirtual index) mk (Value.ref b :: argsL).toArray X₁ hg hsize hdg hW (X₁.named hnamed) (hpre vm₁ X₁.warmed) with ⟨v, B, X', hpost, hsteps⟩ | ⟨q, B, X', hpost, hsteps⟩
  · exact Or.inl ⟨v, vm₁, B, X₁.warmed, X', hpost, fun target h => hstep₁ _ fun acts => by rw [doInvoke_state]; exact hsteps.trans h⟩
  · exact Or.inr ⟨q, vm₁, B, X₁.warmed, X', hpost, hstep₁ _ fun acts => by rw [doInvoke_state]; exact hsteps⟩
theorem vx_callS (X : Stand p l e R s m args below meth c T locs cells slots) (hexec : p.tables.exec = Jvm.exec) {own : String} {index : Nat} {y : MethodName} {bytes : ByteArray} {maxL : Nat} {ret : Option FieldType}
    (hown : s.vm.findClass own = some m.cls) (hlink : (Cond.methodLink own index y).before args s = true) (hstat : (Cond.static y).before args s = true) (hinit : (Cond.initialized y.cls).before args s = true)
    (hcode : (Cond.code y bytes maxL ret).before args s = true) (hy : y.cls ≠ "java/lang/invoke/MethodHandle" ∧ y.cls ≠ "java/lang/invoke/VarHandle")
    {W9 : Nat} {Pre : Pt → Array Value → Prop} {Post : Pt → Array Value → Option Value → Pt → Prop} {PostX : Pt → Array Value → Addr → Pt → Prop} (hK : vx_Back l R p e below s args y 3 W9 Pre Post PostX)
    {g : JFrame} (hg : g.method = m) (hsize : g.locals.size = c.maxLocals) {argsL rest : List Value} (hlen : ∀ sig, parseMethodDescriptor y.desc = some sig → argsL.length = sig.parameters.length)
    (hstack : g.stack = argsL.reverse ++ rest) (hW : 2 * g.monitorRoom + (rest.map fun v => v.category).sum ≤ W9) (hdg : decode c.code g.pc = .ok (.invokestatic index, 3))
    (hpre : ∀ vm₁, s.WarmedH vm₁ → Pre ⟨T.setVm vm₁, locs, cells, slots⟩ argsL.toArray) :
    (∃ (v : Option Value) (vm₁ : Vm) (B : Pt), s.WarmedH vm₁ ∧ Stand p l e R s m args below meth c B.U B.locs B.cells B.slots ∧ Post ⟨T.setVm vm₁, locs, cells, slots⟩ argsL.toArray v B ∧
      ∀ target, Steps p.tables e below (B.U.setTop { g with pc := g.pc + 3, stack := v.toList ++ rest }) target → Steps p.tables e below (T.setTop g) target) ∨
    (∃ (q : Addr) (vm₁ : Vm) (B : Pt), s.WarmedH vm₁ ∧ Stand p l e R s m args below meth c B.U B.locs B.cells B.slots ∧ PostX ⟨T.setVm vm₁, locs, cells, slots⟩ argsL.toArray q B ∧
      Steps p.tables e below (T.setTop g) ((B.U.setTop { g with stack := rest }).pushFrame (.throwing q))) := by
  obtain ⟨mk, hnamed⟩ := Cond.code_named hcode
  obtain ⟨methM, cM, hmethM, -, -, -, -, -, -, hsigM⟩ := Cond.code_spec hnamed hcode
  have hstatic : methM.isStatic = true := Cond.static_spec hnamed hmethM hstat
  obtain ⟨kP, hkP, -⟩ := className_of_methodNamed hnamed
  have hinitP : kP.init = .initialized := Cond.initialized_spec (findClass_of_methodNamed hnamed) hkP hinit
  obtain ⟨vm₁, X₁, hstep₁⟩ := X.invokestatic hexec hown hlink hnamed hmethM hstatic hkP hinitP hy (g := g) hg (argsL := argsL) (rest := rest) (hlen _ hsigM) hstack hdg
  rcases hK m meth c ⟨T.setVm vm₁, locs, cells, slots⟩ { g with stack := rest } (.invokestatic index) mk argsL.toArray X₁ hg hsize hdg hW (X₁.named hnamed) (hpre vm₁ X₁.warmed) with ⟨v, B, X', hpost, hsteps⟩ | ⟨q, B, X', hpost, hsteps⟩
  · exact Or.inl ⟨v, vm₁, B, X₁.warmed, X', hpost, fun target h => hstep₁ _ fun acts => by rw [doInvoke_state]; exact hsteps.trans h⟩
  · exact Or.inr ⟨q, vm₁, B, X₁.warmed, X', hpost, hstep₁ _ fun acts => by rw [doInvoke_state]; exact hsteps⟩
end Calls
theorem vx_cls {s : State} {T : State} {vm₁ : Vm} {E : String} {k : ClassId} (hW : s.WarmedH vm₁) (h : (T.setVm vm₁).vm.findClass E = some k) : s.vm.findClass E = some k := by
  have h1 : vm₁.findClass E = some k := h
  rw [hW.alike.findClass] at h1
  exact h1
/-- the method's frame g, with q thrown over it -/
def vx_W (p : Program) (l : Launch) (e : Env) (R : Room) (s : State) (m : MethodId) (args : Array Value) (below : List Frame) (meth : Method) (c : Code) (H : Heap) (locs : List Loc) (cells slots : Nat) (Q : State → Prop) (g : JFrame) (q : Addr) : Prop :=
  ∀ T : State, T.heap = H → Stand p l e R s m args below meth c T locs cells slots → ∃ t, Steps p.tables e below ((T.setTop g).pushFrame (.throwing q)) t ∧ Q t
def vx_Run (p : Program) (l : Launch) (e : Env) (R : Room) (s : State) (m : MethodId) (args : Array Value) (below : List Frame) (meth : Method) (c : Code) (H : Heap) (locs : List Loc) (cells slots mc ms : Nat) (g : JFrame) (rest : List Value) (Qa : State → Outcome → State → Prop) (XC : String → State → State → Prop) (free : Addr → Prop) : Prop :=
  ∀ T : State, T.heap = H → Stand p l e R s m args below meth c T locs cells slots →
    (∃ (v : Option Value) (st₀ t T' : State) (L : List Loc), st₀.heap = H ∧ Stand p l e R s m args below meth c T' (locs ++ L) (cells + mc) (slots + ms) ∧ (∀ q ∈ L, free q.base) ∧ T'.heap = t.heap ∧ T'.vm = t.vm ∧ Qa st₀ (.returned v) t ∧
      Goes p e below T g T' { g with pc := g.pc + 3, stack := v.toList ++ rest }) ∨
    (∃ (q : Addr) (st₀ t T' : State) (L : List Loc) (E : String) (ce : Cell), st₀.heap = H ∧ Stand p l e R s m args below meth c T' (locs ++ L) (cells + mc) (slots + ms) ∧ (∀ z ∈ L, free z.base) ∧ T'.heap = t.heap ∧ T'.vm = t.vm ∧ XC E st₀ t ∧ t.heap[q]? = some ce ∧ ce.vm = .none ∧ s.vm.findClass E = some ce.cls ∧
      Steps p.tables e below (T.setTop g) ((T'.setTop { g with stack := rest }).pushFrame (.throwing q)))
def vx_X {S : Type} (px : S → Prop) (B : String → S → State → Prop) (A : Nat → Prop) : String → State → State → Prop := fun E st t => ∃ u : S, px u ∧ B E u t ∧ va_F A st t
section Runs
variable {p : Program} {l : Launch} {e : Env} {R : Room} {s : State} {m : MethodId} {args : Array Value} {below : List Frame} {meth : Method} {c : Code} {H : Heap} {locs : List Loc} {cells slots : Nat}
variable {y : MethodName} {bytes cc : ByteArray} {maxL nL mc ms n index : Nat} {ret : Option FieldType} {ws : List Cond} {rm : Room} {Pc : Array Value → State → Prop} {Qc : Array Value → State → Outcome → State → Prop} {XC : String → State → State → Prop} {free : Addr → Prop} {Ts : List Cond} {own C : String} {b : Addr} {As rest : List Value} {g : JFrame}
theorem vx_callBack (cb : CallB R s args own index y bytes maxL ret ws rm mc ms n) (hM : vx_Met l y ws rm Pc Qc XC mc ms free) (hbl : FrameBlind Pc) : vx_Back l R p e below s args y 3 8 (PreOf R mc ms Pc) (PostOf Qc mc ms free) (vx_Post XC mc ms free) := by
  obtain ⟨hrc, hrs, hfr, hlo, hws, hcw, -, hini, -⟩ := cb
  exact vx_back (bytes := bytes) (maxL := maxL) (ret := ret) hM hbl hrc hrs hfr hlo hws hcw (fun a' U hW => word_at hW (Or.inl (by first | rfl | simp [Cond.onTables, Cond.keeps, Cond.steady])) hini)
theorem vx_runV (S : CallFix p m c cc nL s args Ts own) (hM : vx_Met l y ws rm Pc Qc XC mc ms free) (cw : CallW R s args own C index y bytes maxL ret ws rm mc ms n) (hp : PreV s H C b Pc As)
    (hg : g.method = m) (hn : As.length = n) (hsize : g.locals.size = nL) (hstack : g.stack = As.reverse ++ .ref b :: rest) (hW : 2 * g.monitorRoom + (rest.map fun v => v.category).sum ≤ 8) (hdg : decode cc g.pc = .ok (.invokevirtual index, 3)) (hf : cells + mc ≤ R.cells ∧ slots + ms ≤ R.slots) :
    vx_Run p l e R s m args below meth c H locs cells slots mc ms g rest (Qc (Value.ref b :: As).toArray) XC free := by
  have hK : vx_Back l R p e below s args y 3 8 (PreOf R mc ms Pc) (PostOf Qc mc ms free) (vx_Post XC mc ms free) := vx_callBack cw.1 hM hp.1
  obtain ⟨⟨-, -, -, -, -, -, hcode, -, hy, hlen, hl⟩, hin, hse⟩ := cw
  obtain ⟨hx, hb, hml, ho, -⟩ := S
  obtain ⟨-, ⟨cellB, hcB, hoB, hclB⟩, hPc⟩ := hp
  intro T hT X
  rcases vx_callV X hx (C := C) (bytes := bytes) (maxL := maxL) (ret := ret) ho hl hin hse hcode hy hK (by rw [hT]; exact hcB) hoB hclB hg (hsize.trans hml.symm) (argsL := As) (rest := rest) (fun sig h => hn.trans (hlen sig h)) hstack hW (by rw [hb]; exact hdg)
    (fun vm₁ hW₁ => ⟨hf.1, hf.2, hPc (T.setVm vm₁) hT hW₁⟩) with ⟨v, vm₁, ⟨U', l2, c2, s2⟩, hW₁, X', ⟨g', mk, t, L, e1, e2, hq, h1, hL, h2, h3⟩, st⟩ | ⟨q, vm₁, ⟨U', l2, c2, s2⟩, hW₁, X', ⟨g', mk, t, L, E, ce, e1, e2, hq, hce, hcv, hcl, h1, hL, h2, h3⟩, st⟩
  · dsimp only [Pt.U, Pt.locs, Pt.cells, Pt.slots] at X' e1 e2 h1 h2 h3 st
    subst h1; subst h2; subst h3
    exact Or.inl ⟨v, (T.setVm vm₁).calling g' mk (Value.ref b :: As).toArray, t, U', L, hT, X', hL, e1, e2, hq, st⟩
  · dsimp only [Pt.U, Pt.locs, Pt.cells, Pt.slots] at X' e1 e2 h1 h2 h3 st hcl
    subst h1; subst h2; subst h3
    exact Or.inr ⟨q, (T.setVm vm₁).calling g' mk (Value.ref b :: As).toArray, t, U', L, E, ce, hT, X', hL, e1, e2, hq, hce, hcv, vx_cls hW₁ hcl, st⟩
theorem vx_runS (S : CallFix p m c cc nL s args Ts own) (hM : vx_Met l y ws rm Pc Qc XC mc ms free) (cw : CallB R s args own index y bytes maxL ret ws rm mc ms n ∧ (Cond.static y).before args s = true) (hp : PreS s H Pc As)
    (hg : g.method = m) (hn : As.length = n) (hsize : g.locals.size = nL) (hstack : g.stack = As.reverse ++ rest) (hW : 2 * g.monitorRoom + (rest.map fun v => v.category).sum ≤ 8) (hdg : decode cc g.pc = .ok (.invokestatic index, 3)) (hf : cells + mc ≤ R.cells ∧ slots + ms ≤ R.slots) :
    vx_Run p l e R s m args below meth c H locs cells slots mc ms g rest (Qc As.toArray) XC free := by
  have hK : vx_Back l R p e below s args y 3 8 (PreOf R mc ms Pc) (PostOf Qc mc ms free) (vx_Post XC mc ms free) := vx_callBack cw.1 hM hp.1
  obtain ⟨⟨-, -, -, -, -, -, hcode, hini, hy, hlen, hl⟩, hstt⟩ := cw
  obtain ⟨hx, hb, hml, ho, -⟩ := S
  intro T hT X
  rcases vx_callS X hx (bytes := bytes) (maxL := maxL) (ret := ret) ho hl hstt hini hcode hy hK hg (hsize.trans hml.symm) (argsL := As) (rest := rest) (fun sig h => hn.trans (hlen sig h)) hstack hW (by rw [hb]; exact hdg)
    (fun vm₁ hW₁ => ⟨hf.1, hf.2, hp.2 (T.setVm vm₁) hT hW₁⟩) with ⟨v, vm₁, ⟨U', l2, c2, s2⟩, hW₁, X', ⟨g', mk, t, L, e1, e2, hq, h1, hL, h2, h3⟩, st⟩ | ⟨q, vm₁, ⟨U', l2, c2, s2⟩, hW₁, X', ⟨g', mk, t, L, E, ce, e1, e2, hq, hce, hcv, hcl, h1, hL, h2, h3⟩, st⟩
  · dsimp only [Pt.U, Pt.locs, Pt.cells, Pt.slots] at X' e1 e2 h1 h2 h3 st
    subst h1; subst h2; subst h3
    exact Or.inl ⟨v, (T.setVm vm₁).calling g' mk As.toArray, t, U', L, hT, X', hL, e1, e2, hq, st⟩
  · dsimp only [Pt.U, Pt.locs, Pt.cells, Pt.slots] at X' e1 e2 h1 h2 h3 st hcl
    subst h1; subst h2; subst h3
    exact Or.inr ⟨q, (T.setVm vm₁).calling g' mk As.toArray, t, U', L, E, ce, hT, X', hL, e1, e2, hq, hce, hcv, vx_cls hW₁ hcl, st⟩
end Runs
section Rows
variable {p : Program} {l : Launch} {e : Env} {R : Room} {s : State} {m : MethodId} {args : Array Value} {below : List Frame} {meth : Method} {c : Code} {H : Heap} {locs : List Loc} {cells slots : Nat} {Q : State → Prop}
variable {mc ms : Nat} {free : Addr → Prop} {A0 A1 : Nat → Prop} {H0 : Heap} {a : Array Value} {pc : Nat} {ls : Array Slot} {st0 rest : List Value}
theorem vx_keep {st₀ t T' : State} {L : List Loc} (h0 : st₀.heap = H) (e1 : T'.heap = t.heap) (hS : va_S A0 H0 H locs) (hA : ∀ q, q < H.size → A1 q → A0 q) (hf : ∀ q, free q → A0 q) (hL : ∀ q ∈ L, free q.base) (hF : va_F A1 st₀ t) :
    H.size ≤ T'.heap.size ∧ (∀ q : Nat, q < H.size → ¬ A1 q → T'.heap[q]? = H[q]?) ∧ va_S A0 H0 T'.heap (locs ++ L) := by
  obtain ⟨hz, hk⟩ := hF
  rw [h0] at hz hk
  exact ⟨by rw [e1]; exact hz, fun q h1 h2 => by rw [e1]; exact hk q h1 h2,
    ⟨Nat.le_trans hS.1 (by rw [e1]; exact hz), fun q h1 h2 => by rw [e1, hk q (Nat.lt_of_lt_of_le h1 hS.1) (fun z => h2 (hA q (Nat.lt_of_lt_of_le h1 hS.1) z))]; exact hS.2.1 q h1 h2, fun q hq => by
      rcases List.mem_append.mp hq with h | h
      · exact hS.2.2 q h
      · exact hf _ (hL q h)⟩⟩
theorem vx_calli {S SX : Type} {post : Int32 → S → Prop} {px : SX → Prop} {B : S → State → Prop} {BX : String → SX → State → Prop} {AX : Nat → Prop} (hr : vx_Run p l e R s m args below meth c H locs cells slots mc ms (F0 m pc ls st0) rest (va_Qi post B A1 a) (vx_X px BX AX) free) (hS : va_S A0 H0 H locs) (hA : ∀ q, q < H.size → A1 q → A0 q) (hf : ∀ q, free q → A0 q) (hAX : ∀ q, q < H.size → AX q → A0 q)
    (kx : ∀ (E : String) (ce : Cell) (q9 : Addr) (u : SX) (t : State) (H1 : Heap) (locs1 : List Loc), t.heap = H1 → s.vm.Alike t.vm → px u → BX E u t → H.size ≤ H1.size → (∀ q : Nat, q < H.size → ¬ AX q → H1[q]? = H[q]?) → va_S A0 H0 H1 locs1 → H1[q9]? = some ce → ce.vm = .none → s.vm.findClass E = some ce.cls → vx_W p l e R s m args below meth c H1 locs1 (cells + mc) (slots + ms) Q (F0 m pc ls rest) q9)
    (kk : ∀ (r : Int32) (u : S) (t : State) (H1 : Heap) (locs1 : List Loc), t.heap = H1 → s.vm.Alike t.vm → post r u → B u t → H.size ≤ H1.size → (∀ q : Nat, q < H.size → ¬ A1 q → H1[q]? = H[q]?) → va_S A0 H0 H1 locs1 → W p l e R s m args below meth c H1 locs1 (cells + mc) (slots + ms) Q (F0 m (pc + 3) ls (.int r :: rest))) : W p l e R s m args below meth c H locs cells slots Q (F0 m pc ls st0) := by
  intro T hT X
  rcases hr T hT X with ⟨v, st₀, t, T', L, h0, X', hL, e1, e2, ⟨⟨r, u, hv, hp, hb⟩, hF⟩, st⟩ | ⟨q, st₀, t, T', L, E, ce, h0, X', hL, e1, e2, ⟨u, hp, hb, hF⟩, hce, hcv, hcl, st⟩
  · cases hv
    obtain ⟨k1, k2, k3⟩ := vx_keep h0 e1 hS hA hf hL hF
    obtain ⟨t2, a1, b1⟩ := kk r u t T'.heap (locs ++ L) e1.symm (by rw [← e2]; exact X'.warmed.alike) hp hb k1 k2 k3 T' rfl X'
    exact ⟨t2, st t2 a1, b1⟩
  · obtain ⟨k1, k2, k3⟩ := vx_keep h0 e1 hS hAX hf hL hF
    obtain ⟨t2, a1, b1⟩ := kx E ce q u t T'.heap (locs ++ L) e1.symm (by rw [← e2]; exact X'.warmed.alike) hp hb k1 k2 k3 (by rw [e1]; exact hce) hcv hcl T' rfl X'
    exact ⟨t2, st.trans a1, b1⟩
theorem vx_calll {S SX : Type} {post : Int64 → S → Prop} {px : SX → Prop} {B : S → State → Prop} {BX : String → SX → State → Prop} {AX : Nat → Prop} (hr : vx_Run p l e R s m args below meth c H locs cells slots mc ms (F0 m pc ls st0) rest (va_Ql post B A1 a) (vx_X px BX AX) free) (hS : va_S A0 H0 H locs) (hA : ∀ q, q < H.size → A1 q → A0 q) (hf : ∀ q, free q → A0 q) (hAX : ∀ q, q < H.size → AX q → A0 q)
    (kx : ∀ (E : String) (ce : Cell) (q9 : Addr) (u : SX) (t : State) (H1 : Heap) (locs1 : List Loc), t.heap = H1 → s.vm.Alike t.vm → px u → BX E u t → H.size ≤ H1.size → (∀ q : Nat, q < H.size → ¬ AX q → H1[q]? = H[q]?) → va_S A0 H0 H1 locs1 → H1[q9]? = some ce → ce.vm = .none → s.vm.findClass E = some ce.cls → vx_W p l e R s m args below meth c H1 locs1 (cells + mc) (slots + ms) Q (F0 m pc ls rest) q9)
    (kk : ∀ (r : Int64) (u : S) (t : State) (H1 : Heap) (locs1 : List Loc), t.heap = H1 → s.vm.Alike t.vm → post r u → B u t → H.size ≤ H1.size → (∀ q : Nat, q < H.size → ¬ A1 q → H1[q]? = H[q]?) → va_S A0 H0 H1 locs1 → W p l e R s m args below meth c H1 locs1 (cells + mc) (slots + ms) Q (F0 m (pc + 3) ls (.long r :: rest))) : W p l e R s m args below meth c H locs cells slots Q (F0 m pc ls st0) := by
  intro T hT X
  rcases hr T hT X with ⟨v, st₀, t, T', L, h0, X', hL, e1, e2, ⟨⟨r, u, hv, hp, hb⟩, hF⟩, st⟩ | ⟨q, st₀, t, T', L, E, ce, h0, X', hL, e1, e2, ⟨u, hp, hb, hF⟩, hce, hcv, hcl, st⟩
  · cases hv
    obtain ⟨k1, k2, k3⟩ := vx_keep h0 e1 hS hA hf hL hF
    obtain ⟨t2, a1, b1⟩ := kk r u t T'.heap (locs ++ L) e1.symm (by rw [← e2]; exact X'.warmed.alike) hp hb k1 k2 k3 T' rfl X'
    exact ⟨t2, st t2 a1, b1⟩
  · obtain ⟨k1, k2, k3⟩ := vx_keep h0 e1 hS hAX hf hL hF
    obtain ⟨t2, a1, b1⟩ := kx E ce q u t T'.heap (locs ++ L) e1.symm (by rw [← e2]; exact X'.warmed.alike) hp hb k1 k2 k3 (by rw [e1]; exact hce) hcv hcl T' rfl X'
    exact ⟨t2, st.trans a1, b1⟩
theorem vx_callf {S SX : Type} {post : UInt32 → S → Prop} {px : SX → Prop} {B : S → State → Prop} {BX : String → SX → State → Prop} {AX : Nat → Prop} (hr : vx_Run p l e R s m args below meth c H locs cells slots mc ms (F0 m pc ls st0) rest (va_Qf post B A1 a) (vx_X px BX AX) free) (hS : va_S A0 H0 H locs) (hA : ∀ q, q < H.size → A1 q → A0 q) (hf : ∀ q, free q → A0 q) (hAX : ∀ q, q < H.size → AX q → A0 q)
    (kx : ∀ (E : String) (ce : Cell) (q9 : Addr) (u : SX) (t : State) (H1 : Heap) (locs1 : List Loc), t.heap = H1 → s.vm.Alike t.vm → px u → BX E u t → H.size ≤ H1.size → (∀ q : Nat, q < H.size → ¬ AX q → H1[q]? = H[q]?) → va_S A0 H0 H1 locs1 → H1[q9]? = some ce → ce.vm = .none → s.vm.findClass E = some ce.cls → vx_W p l e R s m args below meth c H1 locs1 (cells + mc) (slots + ms) Q (F0 m pc ls rest) q9)
    (kk : ∀ (r : UInt32) (u : S) (t : State) (H1 : Heap) (locs1 : List Loc), t.heap = H1 → s.vm.Alike t.vm → post r u → B u t → H.size ≤ H1.size → (∀ q : Nat, q < H.size → ¬ A1 q → H1[q]? = H[q]?) → va_S A0 H0 H1 locs1 → W p l e R s m args below meth c H1 locs1 (cells + mc) (slots + ms) Q (F0 m (pc + 3) ls (.float r :: rest))) : W p l e R s m args below meth c H locs cells slots Q (F0 m pc ls st0) := by
  intro T hT X
  rcases hr T hT X with ⟨v, st₀, t, T', L, h0, X', hL, e1, e2, ⟨⟨r, u, hv, hp, hb⟩, hF⟩, st⟩ | ⟨q, st₀, t, T', L, E, ce, h0, X', hL, e1, e2, ⟨u, hp, hb, hF⟩, hce, hcv, hcl, st⟩
  · cases hv
    obtain ⟨k1, k2, k3⟩ := vx_keep h0 e1 hS hA hf hL hF
    obtain ⟨t2, a1, b1⟩ := kk r u t T'.heap (locs ++ L) e1.symm (by rw [← e2]; exact X'.warmed.alike) hp hb k1 k2 k3 T' rfl X'
    exact ⟨t2, st t2 a1, b1⟩
  · obtain ⟨k1, k2, k3⟩ := vx_keep h0 e1 hS hAX hf hL hF
    obtain ⟨t2, a1, b1⟩ := kx E ce q u t T'.heap (locs ++ L) e1.symm (by rw [← e2]; exact X'.warmed.alike) hp hb k1 k2 k3 (by rw [e1]; exact hce) hcv hcl T' rfl X'
    exact ⟨t2, st.trans a1, b1⟩
theorem vx_calld {S SX : Type} {post : UInt64 → S → Prop} {px : SX → Prop} {B : S → State → Prop} {BX : String → SX → State → Prop} {AX : Nat → Prop} (hr : vx_Run p l e R s m args below meth c H locs cells slots mc ms (F0 m pc ls st0) rest (va_Qd post B A1 a) (vx_X px BX AX) free) (hS : va_S A0 H0 H locs) (hA : ∀ q, q < H.size → A1 q → A0 q) (hf : ∀ q, free q → A0 q) (hAX : ∀ q, q < H.size → AX q → A0 q)
    (kx : ∀ (E : String) (ce : Cell) (q9 : Addr) (u : SX) (t : State) (H1 : Heap) (locs1 : List Loc), t.heap = H1 → s.vm.Alike t.vm → px u → BX E u t → H.size ≤ H1.size → (∀ q : Nat, q < H.size → ¬ AX q → H1[q]? = H[q]?) → va_S A0 H0 H1 locs1 → H1[q9]? = some ce → ce.vm = .none → s.vm.findClass E = some ce.cls → vx_W p l e R s m args below meth c H1 locs1 (cells + mc) (slots + ms) Q (F0 m pc ls rest) q9)
    (kk : ∀ (r : UInt64) (u : S) (t : State) (H1 : Heap) (locs1 : List Loc), t.heap = H1 → s.vm.Alike t.vm → post r u → B u t → H.size ≤ H1.size → (∀ q : Nat, q < H.size → ¬ A1 q → H1[q]? = H[q]?) → va_S A0 H0 H1 locs1 → W p l e R s m args below meth c H1 locs1 (cells + mc) (slots + ms) Q (F0 m (pc + 3) ls (.double r :: rest))) : W p l e R s m args below meth c H locs cells slots Q (F0 m pc ls st0) := by
  intro T hT X
  rcases hr T hT X with ⟨v, st₀, t, T', L, h0, X', hL, e1, e2, ⟨⟨r, u, hv, hp, hb⟩, hF⟩, st⟩ | ⟨q, st₀, t, T', L, E, ce, h0, X', hL, e1, e2, ⟨u, hp, hb, hF⟩, hce, hcv, hcl, st⟩
  · cases hv
    obtain ⟨k1, k2, k3⟩ := vx_keep h0 e1 hS hA hf hL hF
    obtain ⟨t2, a1, b1⟩ := kk r u t T'.heap (locs ++ L) e1.symm (by rw [← e2]; exact X'.warmed.alike) hp hb k1 k2 k3 T' rfl X'
    exact ⟨t2, st t2 a1, b1⟩
  · obtain ⟨k1, k2, k3⟩ := vx_keep h0 e1 hS hAX hf hL hF
    obtain ⟨t2, a1, b1⟩ := kx E ce q u t T'.heap (locs ++ L) e1.symm (by rw [← e2]; exact X'.warmed.alike) hp hb k1 k2 k3 (by rw [e1]; exact hce) hcv hcl T' rfl X'
    exact ⟨t2, st.trans a1, b1⟩
theorem vx_callv {S SX : Type} {post : S → Prop} {px : SX → Prop} {B : S → State → Prop} {BX : String → SX → State → Prop} {AX : Nat → Prop} (hr : vx_Run p l e R s m args below meth c H locs cells slots mc ms (F0 m pc ls st0) rest (va_Qv post B A1 a) (vx_X px BX AX) free) (hS : va_S A0 H0 H locs) (hA : ∀ q, q < H.size → A1 q → A0 q) (hf : ∀ q, free q → A0 q) (hAX : ∀ q, q < H.size → AX q → A0 q)
    (kx : ∀ (E : String) (ce : Cell) (q9 : Addr) (u : SX) (t : State) (H1 : Heap) (locs1 : List Loc), t.heap = H1 → s.vm.Alike t.vm → px u → BX E u t → H.size ≤ H1.size → (∀ q : Nat, q < H.size → ¬ AX q → H1[q]? = H[q]?) → va_S A0 H0 H1 locs1 → H1[q9]? = some ce → ce.vm = .none → s.vm.findClass E = some ce.cls → vx_W p l e R s m args below meth c H1 locs1 (cells + mc) (slots + ms) Q (F0 m pc ls rest) q9)
    (kk : ∀ (u : S) (t : State) (H1 : Heap) (locs1 : List Loc), t.heap = H1 → s.vm.Alike t.vm → post u → B u t → H.size ≤ H1.size → (∀ q : Nat, q < H.size → ¬ A1 q → H1[q]? = H[q]?) → va_S A0 H0 H1 locs1 → W p l e R s m args below meth c H1 locs1 (cells + mc) (slots + ms) Q (F0 m (pc + 3) ls (rest))) : W p l e R s m args below meth c H locs cells slots Q (F0 m pc ls st0) := by
  intro T hT X
  rcases hr T hT X with ⟨v, st₀, t, T', L, h0, X', hL, e1, e2, ⟨⟨u, hv, hp, hb⟩, hF⟩, st⟩ | ⟨q, st₀, t, T', L, E, ce, h0, X', hL, e1, e2, ⟨u, hp, hb, hF⟩, hce, hcv, hcl, st⟩
  · cases hv
    obtain ⟨k1, k2, k3⟩ := vx_keep h0 e1 hS hA hf hL hF
    obtain ⟨t2, a1, b1⟩ := kk u t T'.heap (locs ++ L) e1.symm (by rw [← e2]; exact X'.warmed.alike) hp hb k1 k2 k3 T' rfl X'
    exact ⟨t2, st t2 a1, b1⟩
  · obtain ⟨k1, k2, k3⟩ := vx_keep h0 e1 hS hAX hf hL hF
    obtain ⟨t2, a1, b1⟩ := kx E ce q u t T'.heap (locs ++ L) e1.symm (by rw [← e2]; exact X'.warmed.alike) hp hb k1 k2 k3 (by rw [e1]; exact hce) hcv hcl T' rfl X'
    exact ⟨t2, st.trans a1, b1⟩
/-- caught by the row x of this method's table; the rows ahead don't take it -/
theorem vx_catch {own name : String} {E : String} {ce : Cell} {q : Addr} (hown : s.vm.findClass own = some m.cls) (pre : List ExceptionTableEntry) (x : ExceptionTableEntry) (suf : List ExceptionTableEntry) (hsplit : c.exceptionTable.toList = pre ++ x :: suf)
    (hpass : ∀ z ∈ pre, covers z pc = false ∨ (z.catchType ≠ 0 ∧ ∃ nm : String, (Cond.classLink own z.catchType nm).before args s = true ∧ va_Nc E nm s)) (hx : covers x pc = true) (h0 : x.catchType ≠ 0)
    (hlink : (Cond.classLink own x.catchType name).before args s = true) (hcast : (Cond.castable E name).before args s = true) (hcell : H[q]? = some ce) (hv : ce.vm = .none) (hcl : s.vm.findClass E = some ce.cls)
    (kk : W p l e R s m args below meth c H locs cells slots Q (F0 m x.handlerPc ls [.ref q])) : vx_W p l e R s m args below meth c H locs cells slots Q (F0 m pc ls rest) q := by
  intro T hT X
  have hpl : e.platform.magicAccessors = ({} : Platform).magicAccessors := by rw [X.admits.platform]
  obtain ⟨c3, c4, hc3, hc4, hasg⟩ := Cond.castable_spec hcast
  cases Option.some.inj (hc3.symm.trans hcl)
  obtain ⟨c5, hc5, hcl5⟩ := Cond.classLink_spec hown hlink e.platform hpl
  cases Option.some.inj (hc4.symm.trans hc5)
  obtain ⟨vm', X', st⟩ := X.thenCaughtThrough q (g := F0 m pc ls rest) rfl (Steps.refl _) (by rw [hT]; exact hcell) (by rw [hv]; rfl) (by obtain ⟨k9, h9, -⟩ := Vm.findClass_spec hcl; exact ⟨k9, h9⟩) pre x suf hsplit
    (fun z hz => by
      rcases hpass z hz with h | ⟨hz0, nm, hl1, hn1⟩
      · exact Or.inl h
      · obtain ⟨c6, hc6, hcl6⟩ := Cond.classLink_spec hown hl1 e.platform hpl
        obtain ⟨a8, b8, h1, h2, h3⟩ := hn1
        cases Option.some.inj (h1.symm.trans hcl)
        cases Option.some.inj (h2.symm.trans hc6)
        exact Or.inr ⟨hz0, _, hcl6, h3⟩) hx (Or.inr ⟨h0, c4, hcl5, hasg⟩)
  obtain ⟨t, a1, b1⟩ := kk (T.setVm vm') hT X'
  exact ⟨t, st.trans a1, b1⟩
end Rows
section Ends
variable {p : Program} {l : Launch} {e : Env} {R : Room} {s : State} {m : MethodId} {args : Array Value} {below : List Frame} {meth : Method} {c : Code} {H : Heap} {locs : List Loc} {cells slots : Nat} {Q : State → Prop}
variable {mc ms : Nat} {free : Addr → Prop} {A0 A1 : Nat → Prop} {H0 : Heap} {a : Array Value} {ls : Array Slot} {st0 rest : List Value}
variable {Qc : Array Value → State → Outcome → State → Prop} {XC : String → State → State → Prop}
/-- what a body that may throw owes at its end -/
def vx_MQ (below : List Frame) (Qc : Array Value → State → Outcome → State → Prop) (XC : String → State → State → Prop) (a : Array Value) (s : State) (mc ms : Nat) (free : Addr → Prop) : State → Prop := fun t =>
  ∃ o, t.status = .running ∧ Ended t below o ∧ vx_Q Qc XC mc ms free a s o t
theorem vx_ret {g : JFrame} {mc ms : Nat} (k : W p l e R s m args below meth c H locs cells slots (MQ below Qc args s mc ms free) g) : W p l e R s m args below meth c H locs cells slots (vx_MQ below Qc XC args s mc ms free) g := by
  intro T hT X
  obtain ⟨t, a1, o, b1, b2, b3, b4⟩ := k T hT X
  exact ⟨t, a1, o, b1, b2, Or.inl ⟨b3, b4⟩⟩
/-- not caught here: it goes on to the caller -/
theorem vx_widen {g : JFrame} {q : Addr} {k n : Nat} (h1 : cells ≤ k) (h2 : slots ≤ n) (kk : vx_W p l e R s m args below meth c H locs k n Q g q) : vx_W p l e R s m args below meth c H locs cells slots Q g q := fun T hT X => kk T hT (stand_widen X h1 h2)
theorem vx_out {pc : Nat} {E : String} {ce : Cell} {q : Addr} {mc ms : Nat} (hout : ∀ x ∈ c.exceptionTable.toList, covers x pc = false) (hlocks : meth.locks = false) (hcell : H[q]? = some ce) (hv : ce.vm = .none) (hcl : s.vm.findClass E = some ce.cls)
    (hx : ∀ t : State, t.heap = H → s.vm.Alike t.vm → XC E s t) (hf : ∀ z ∈ locs, free z.base) (hc : cells ≤ mc) (hs : slots ≤ ms) :
    vx_W p l e R s m args below meth c H locs cells slots (vx_MQ below Qc XC args s mc ms free) (F0 m pc ls rest) q := by
  intro T hT X
  obtain ⟨st1, hrun, hend, hW, hsm⟩ := X.leaveThrown q (g := F0 m pc ls rest) rfl rfl rfl hout hlocks
  have hcell9 : (T.setFrames (.throwing q :: below)).heap[q]? = some ce := by
    show T.heap[q]? = some ce
    rw [hT]; exact hcell
  exact ⟨_, st1, .threw q, hrun, hend, Or.inr ⟨q, rfl, E, ce, locs, hx _ hT hW.alike, hcell9, hv, hcl, hW, hsm.mono hc hs, hf⟩⟩
theorem vx_frame {U : State} {k n : Nat} (h : s.sameButNew ({ U with vm := s.vm } : State) locs k n) : s.heap.size ≤ U.heap.size ∧ ∀ q : Nat, q < s.heap.size → (∀ z ∈ locs, z.base ≠ q) → U.heap[q]? = s.heap[q]? := by
  obtain ⟨-, h2, -, -, -, h6⟩ := h
  refine ⟨h2, fun q hq hz => ?_⟩
  obtain ⟨c9, e1, e2, e3, e4⟩ := h6 q _ (Array.getElem?_eq_getElem hq)
  have hs : c9.slots = (s.heap[q]).slots := Array.ext_getElem? fun i => e4 i fun hm => hz _ hm rfl
  have h9 : c9 = s.heap[q] := by
    rw [hs] at e2
    exact e2
  have e5 : U.heap[q]? = some c9 := e1
  rw [e5, h9, Array.getElem?_eq_getElem hq]
/-- the words of a throw but the four that speak of the heap -/
def vx_no (w : Cond) : Bool := decide (w ≠ .isRef (.static Bundle.tN "UNASSIGNED_STACK" Bundle.steD)) && decide (w ≠ .isRef (.static Bundle.tN "SUPPRESSED_SENTINEL" Bundle.listD)) && decide (w ≠ .laysStatic Bundle.tN "UNASSIGNED_STACK" Bundle.steD) && decide (w ≠ .laysStatic Bundle.tN "SUPPRESSED_SENTINEL" Bundle.listD)
def vx_at0 (own : String) (ic : Nat) (X : String) (names : List String) : List Cond := (Bundle.ownAtoms0 own ic X names).filter vx_no
def vx_atS (own : String) (ic : Nat) (X : String) (names : List String) : List Cond := (Bundle.ownAtoms own ic X names).filter vx_no
/-- a word that the tables alone decide, or a good one -/
def vx_ot (w : Cond) : Bool := w.onTables || goodWord w
theorem vx_ot_at {args a' : Array Value} {s U : State} {w : Cond} (hW : s.WarmedH U.vm) (hvm : s.vm = U.vm) (hg : vx_ot w = true) (h : w.before args s = true) : w.before a' U = true := by
  simp only [vx_ot, Bool.or_eq_true] at hg
  rcases hg with hg | hg
  · exact va_tabs hg hvm h
  · exact word_at hW (good_of_word hg) h
/-- a list's words: the good ones out of the method's own list, the others by premises of their own -/
theorem vx_hat {args : Array Value} {s : State} {L B : List Cond} (h1 : ∀ w ∈ L.filter goodWord, w.before args s = true) (h2 : ∀ w ∈ L.filter (fun w => !goodWord w), w ∈ B) (h3 : ∀ w ∈ B, w.before args s = true) : ∀ w ∈ L, w.before args s = true := by
  intro w hw
  by_cases g : goodWord w = true
  · exact h1 w (List.mem_filter.mpr ⟨hw, g⟩)
  · refine h3 w (h2 w (List.mem_filter.mpr ⟨hw, ?_⟩))
    show (!goodWord w) = true
    cases hgw : goodWord w
    · rfl
    · exact absurd hgw g
theorem vx_c {args : Array Value} {s : State} {w : Cond} {B : List Cond} (h : w.before args s = true) (t : ∀ w ∈ B, w.before args s = true) : ∀ w' ∈ w :: B, w'.before args s = true := fun w' h' => (List.mem_cons.mp h').elim (fun e => by rw [e]; exact h) (t w')
theorem vx_n {args : Array Value} {s : State} : ∀ w ∈ ([] : List Cond), w.before args s = true := fun _ h => nomatch h
theorem vx_own {args : Array Value} {s : State} {L : List Cond} (h1 : ∀ w ∈ L.filter vx_no, w.before args s = true)
    (hU : (Cond.isRef (.static Bundle.tN "UNASSIGNED_STACK" Bundle.steD)).before args s = true) (hN : (Cond.isRef (.static Bundle.tN "SUPPRESSED_SENTINEL" Bundle.listD)).before args s = true)
    (lU : (Cond.laysStatic Bundle.tN "UNASSIGNED_STACK" Bundle.steD).before args s = true) (lN : (Cond.laysStatic Bundle.tN "SUPPRESSED_SENTINEL" Bundle.listD).before args s = true) : ∀ w ∈ L, w.before args s = true := by
  intro w hw
  by_cases e1 : w = .isRef (.static Bundle.tN "UNASSIGNED_STACK" Bundle.steD)
  · rw [e1]; exact hU
  · by_cases e2 : w = .isRef (.static Bundle.tN "SUPPRESSED_SENTINEL" Bundle.listD)
    · rw [e2]; exact hN
    · by_cases e3 : w = .laysStatic Bundle.tN "UNASSIGNED_STACK" Bundle.steD
      · rw [e3]; exact lU
      · by_cases e4 : w = .laysStatic Bundle.tN "SUPPRESSED_SENTINEL" Bundle.listD
        · rw [e4]; exact lN
        · exact h1 w (List.mem_filter.mpr ⟨hw, by unfold vx_no; rw [decide_eq_true e1, decide_eq_true e2, decide_eq_true e3, decide_eq_true e4]; rfl⟩)
/-- where a static field lies, its class's statics cell in H -/
def vx_L (C n d : String) (A : Nat → Prop) (U : State) (H : Heap) : Prop := ∃ (c : ClassId) (k : Class) (i : Nat) (f : Field) (a : Nat) (cell : Cell), U.vm.findClass C = some c ∧ U.fieldFound? C n d = some (c, k, i, f) ∧ f.isStatic = true ∧ k.statics = some a ∧ H[a]? = some cell ∧ cell.vm.isStatics = true ∧ cell.cls = c ∧ f.slot < cell.slots.size ∧ k.staticTypes[f.slot]? = some f.type ∧ ¬ A a
theorem vx_L.moved {C n d : String} {A : Nat → Prop} {u U : State} {H : Heap} (hvm : u.vm.Alike U.vm) (h : vx_L C n d A u H) : vx_L C n d A U H := by
  obtain ⟨c, k, i, f, a, cell, h1, h2, h3, h4, h5, h6, h7, h8, h9, h10⟩ := h
  obtain ⟨k', hi', he⟩ := State.fieldFound?_setVm hvm h2
  exact ⟨c, k', i, f, a, cell, by rw [hvm.findClass]; exact h1, hi', h3, by rw [he]; exact h4, h5, h6, h7, h8, by rw [he]; exact h9, h10⟩
theorem vx_L.kept {C n d : String} {A : Nat → Prop} {U : State} {H H1 : Heap} (h : vx_L C n d A U H) (hq : ∀ a : Nat, a < H.size → ¬ A a → H1[a]? = H[a]?) : vx_L C n d A U H1 := by
  obtain ⟨c, k, i, f, a, cell, h1, h2, h3, h4, h5, h6, h7, h8, h9, h10⟩ := h
  exact ⟨c, k, i, f, a, cell, h1, h2, h3, h4, by rw [hq a (Array.getElem?_eq_some_iff.mp h5).1 h10]; exact h5, h6, h7, h8, h9, h10⟩
theorem vx_L.narrow {C n d : String} {A B : Nat → Prop} {U : State} {H : Heap} (h : vx_L C n d A U H) (hAB : ∀ q, B q → A q) : vx_L C n d B U H := by
  obtain ⟨c, k, i, f, a, cell, h1, h2, h3, h4, h5, h6, h7, h8, h9, h10⟩ := h
  exact ⟨c, k, i, f, a, cell, h1, h2, h3, h4, h5, h6, h7, h8, h9, fun z => h10 (hAB _ z)⟩
theorem vx_L.word {C n d : String} {A : Nat → Prop} {s : State} {args : Array Value} (h : vx_L C n d A s s.heap) : (Cond.laysStatic C n d).before args s = true := by
  obtain ⟨c, k, i, f, a, cell, h1, h2, h3, h4, h5, h6, h7, h8, h9, -⟩ := h
  show (Cond.laysStatic C n d).holds args s none s [] = true
  exact Cond.laysStatic_of h1 h2 h3 h4 h5 h6 h7 h8 h9
/-- .. and what it holds: null or some reference -/
def vx_Zq (C n d : String) (A : Nat → Prop) (U : State) (H : Heap) : Prop := va_Zq C n d A U H ∧ vx_L C n d A U H
theorem vx_Zq.moved {C n d : String} {A : Nat → Prop} {u U : State} {H : Heap} (hvm : u.vm.Alike U.vm) (h : vx_Zq C n d A u H) : vx_Zq C n d A U H := ⟨va_Zq.moved hvm h.1, vx_L.moved hvm h.2⟩
theorem vx_Zq.kept {C n d : String} {A : Nat → Prop} {U : State} {H H1 : Heap} (h : vx_Zq C n d A U H) (hq : ∀ a : Nat, a < H.size → ¬ A a → H1[a]? = H[a]?) : vx_Zq C n d A U H1 := ⟨va_Zq.kept h.1 hq, vx_L.kept h.2 hq⟩
theorem vx_Zq.narrow {C n d : String} {A B : Nat → Prop} {U : State} {H : Heap} (h : vx_Zq C n d A U H) (hAB : ∀ q, B q → A q) : vx_Zq C n d B U H := ⟨va_Zq.narrow h.1 hAB, vx_L.narrow h.2 hAB⟩
theorem vx_Zqof {args : Array Value} {s : State} {C n d : String} {A : Nat → Prop} (hl : (Cond.laysStatic C n d).before args s = true) (hini : (Cond.initialized C).before args s = true) (h : (Cond.isRef (.static C n d)).before args s = true) (hA : ∀ a : Nat, a < s.heap.size → ¬ A a) : vx_Zq C n d A s s.heap := by
  refine ⟨va_Zqof hl hini h hA, ?_⟩
  obtain ⟨c, k, i, f, a, cell, h1, h2, h3, h4, h5, h6, h7, h8, h9⟩ := Cond.laysStatic_spec hl
  exact ⟨c, k, i, f, a, cell, h1, h2, h3, h4, h5, h6, h7, h8, h9, hA a (Array.getElem?_eq_some_iff.mp h5).1⟩
theorem vx_isRef {C n d : String} {v : Value} {A : Nat → Prop} {s : State} {args : Array Value} (h : va_Z C n d v A s s.heap) (hv : v.isRef = true) : (Cond.isRef (.static C n d)).before args s = true := by
  obtain ⟨cf, kf, fi, f, a, cell, h1, h2, h3, h4, h5, h6, h7, -⟩ := h
  have he : (Term.static C n d).eval args s none [] s = some v := by
    simp [Term.eval, State.fieldNamed?, h1, h2, h4, h5, h6, h7]
  simp only [Cond.before, Cond.holds, Cond.value, he]
  cases v <;> simp_all [Value.isRef]
theorem vx_isRefq {C n d : String} {A : Nat → Prop} {s : State} {args : Array Value} (h : va_Zq C n d A s s.heap) : (Cond.isRef (.static C n d)).before args s = true := by
  rcases h with h | ⟨t, h⟩
  · exact vx_isRef h rfl
  · exact vx_isRef h rfl
/-- the same frame, seen from here: as if the method were called anew in this heap -/
theorem vx_rebase {T : State} (X : Stand p l e R s m args below meth c T locs cells slots) {R' : Room} (hf : R'.frames ≤ R.frames) (hl : R'.locals ≤ R.locals) (hc : cells + R'.cells ≤ R.cells) (hs : slots + R'.slots ≤ R.slots) :
    Stand p l e R' ((T.setVm s.vm).setFrames (.invoking m args :: below)) m args below meth c T [] 0 0 := by
  have htop : (T.setVm s.vm).topJava?.isSome := X.here.top
  have hF : ((T.setVm s.vm).setFrames (.invoking m args :: below)).frames = .invoking m args :: below := State.frames_setFrames _ (State.cur_lt_of_top htop)
  obtain ⟨g₀, hg0⟩ := Option.isSome_iff_exists.mp htop
  obtain ⟨r, hr⟩ := State.topJava?_eq_some.mp hg0
  have hl9 : e.platform.stackLimits (T.setVm s.vm).me = e.platform.stackLimits s.me := X.limits
  have hb9 : (T.setVm s.vm).me.stackBytes = s.me.stackBytes := X.bytes
  refine ⟨X.admits, X.cas, X.clock, hF, ?_, X.hears, X.method, X.code, X.here, X.tail, X.warmed, ?_, ?_, ?_⟩
  · have h := X.room
    have hU : ((T.setVm s.vm).setFrames (.invoking m args :: below)).localsInUse = s.localsInUse := by
      rw [State.localsInUse_invoking hF (meth := meth) (c := c) X.method X.code, State.localsInUse_invoking X.frames X.method X.code]
    simp only [State.hasRoom, Bool.and_eq_true, decide_eq_true_eq] at h ⊢
    obtain ⟨⟨⟨⟨h1, h2, h3, h4, h5, h6⟩, h7⟩, h8⟩, h9⟩ := h
    rw [X.frames, List.length_cons] at h2 h3
    have q1 := X.heapSize
    have q2 := X.used
    simp only [hF, hU, List.length_cons, State.stackLimits_setFrames, State.stackBytes_setFrames, hl9, hb9]
    refine ⟨⟨⟨⟨by omega, by omega, by omega, by omega, by omega, h6⟩, ?_⟩, ?_⟩, X.book⟩
    · show T.heap.size + R'.cells ≤ e.platform.maxCells
      omega
    · show T.slotsUsed + R'.slots ≤ e.platform.maxSlots
      omega
  · rw [State.stackLimits_setFrames]; rfl
  · rw [State.stackBytes_setFrames]; rfl
  · refine ⟨?_, Nat.le_refl _, Nat.le_refl _, ?_, ?_, fun a c9 h9 => ⟨c9, h9, rfl, rfl, fun _ _ => rfl⟩⟩
    · obtain ⟨t, ht, -⟩ := State.frames_cons hr
      show T.setVm s.vm = { ((T.setVm s.vm).setFrames (.invoking m args :: below)).setFrames (T.setVm s.vm).frames with heap := T.heap, slotsUsed := T.slotsUsed }
      rw [State.setFrames_setFrames, State.setFrames_self ht]
      rfl
    · show T.slotsUsed = T.slotsUsed + ((T.heap.toList.drop T.heap.size).map (·.slots.size)).sum
      rw [List.drop_eq_nil_of_le (Nat.le_of_eq Array.length_toList)]
      rfl
    · show ((T.heap.toList.drop T.heap.size).map (·.slots.size)).sum ≤ 0
      rw [List.drop_eq_nil_of_le (Nat.le_of_eq Array.length_toList)]
      exact Nat.le_refl _
/-- 'throw new E()': new; dup; invokespecial; athrow -/
theorem vx_throw0 {cc : ByteArray} {pc : Nat} (hexec : p.tables.exec = Jvm.exec) (hb : c.code = cc) (hl : l.stackTraces = false) {own cls : String} {names : List String} {ik ic mc ms : Nat} {A : Nat → Prop}
    (hown : s.vm.findClass own = some m.cls) (hcls : Bundle.fit cls = true) (hnames : ∀ n ∈ names, Bundle.fit n = true)
    (hk : (Cond.classLink own ik cls).before args s = true) (hini : (Cond.initialized cls).before args s = true) (hat : ∀ w ∈ vx_at0 own ic cls names, w.before args s = true)
    (hgood : ∀ w ∈ Cond.classLink own ik cls :: Cond.initialized cls :: vx_at0 own ic cls names, vx_ot w = true)
    (hU : vx_Zq Bundle.tN "UNASSIGNED_STACK" Bundle.steD A s s.heap) (hN : vx_Zq Bundle.tN "SUPPRESSED_SENTINEL" Bundle.listD A s s.heap) (hS : va_S A s.heap H locs) (hsize : ls.size = c.maxLocals)
    (d0 : decode cc pc = .ok (.new ik, 3)) (d3 : decode cc (pc + 3) = .ok (.dup, 1)) (d4 : decode cc (pc + 4) = .ok (.invokespecial ic, 3)) (d7 : decode cc (pc + 7) = .ok (.athrow, 1))
    (hout : ∀ x ∈ c.exceptionTable.toList, covers x (pc + 7) = false)
    (hRframes : names.length + 3 < R.frames) (hRlocals : (rest.map fun v => v.category).sum + (13 * (names.length + 1) + 42) ≤ R.locals) (hRcells : cells + 1 ≤ R.cells) (hRslots : slots + 6 ≤ R.slots) (hlocks : meth.locks = false)
    (hx : ∀ t : State, s.vm.Alike t.vm → H.size ≤ t.heap.size → (∀ q : Nat, q < H.size → t.heap[q]? = H[q]?) → XC cls s t)
    (hf : ∀ z ∈ locs, free z.base) (hc : cells + 1 ≤ mc) (hs : slots + 6 ≤ ms) :
    W p l e R s m args below meth c H locs cells slots (vx_MQ below Qc XC args s mc ms free) (F0 m pc ls rest) := by
  intro T hT X
  have htr : e.platform.stackTraces = false := (show e.platform.stackTraces = l.stackTraces by rw [X.admits.platform]).trans hl
  have Y := vx_rebase X (R' := { frames := R.frames, locals := R.locals, cells := 1, slots := 6 }) (Nat.le_refl _) (Nat.le_refl _) hRcells hRslots
  obtain ⟨s', hA⟩ : ∃ z, z = (T.setVm s.vm).setFrames (.invoking m args :: below) := ⟨_, rfl⟩
  rw [← hA] at Y
  have hvm : s'.vm = s.vm := by rw [hA]; rfl
  have hhp : s'.heap = H := by rw [hA]; exact hT
  have hW0 : s.WarmedH s'.vm := by rw [hvm]; exact State.WarmedH.refl s
  have hat' : ∀ w ∈ vx_at0 own ic cls names, w.before args s' = true := fun w hw => vx_ot_at hW0 hvm.symm (hgood w (List.mem_cons_of_mem _ (List.mem_cons_of_mem _ hw))) (hat w hw)
  have hk' : (Cond.classLink own ik cls).before args s' = true := vx_ot_at hW0 hvm.symm (hgood _ List.mem_cons_self) hk
  have hini' : (Cond.initialized cls).before args s' = true := vx_ot_at hW0 hvm.symm (hgood _ (List.mem_cons_of_mem _ List.mem_cons_self)) hini
  have hU' : vx_Zq Bundle.tN "UNASSIGNED_STACK" Bundle.steD A s' s'.heap := by rw [hhp]; exact vx_Zq.moved hW0.alike (hU.kept hS.2.1)
  have hN' : vx_Zq Bundle.tN "SUPPRESSED_SENTINEL" Bundle.listD A s' s'.heap := by rw [hhp]; exact vx_Zq.moved hW0.alike (hN.kept hS.2.1)
  have h : ∀ w ∈ Bundle.ownAtoms0 own ic cls names, w.before args s' = true := vx_own hat' (vx_isRefq hU'.1) (vx_isRefq hN'.1) hU'.2.word hN'.2.word
  have hown' : s'.vm.findClass own = some m.cls := by rw [hvm]; exact hown
  have hins : (Cond.instantiable cls 6).before args s' = true := h _ (by simp [Bundle.ownAtoms0])
  obtain ⟨vm₁, cX, kX, hfX, hkX, -, -, X₁, st1⟩ := Y.newCold hexec (own := own) (C := cls) (index := ik) (n := 6) hown' hk' hins hini'
    (g := F0 m pc ls rest) rfl (by rw [hb]; exact d0) (Nat.le_refl _) (Nat.le_refl _)
  generalize hT1 : (T.setVm vm₁).pushCell { cls := cX, slots := kX.instanceTypes.map defaultValue, vm := .none } = T1 at X₁ st1
  have hcat : (Value.ref T.heap.size).category = 1 := rfl
  have hcellA : T1.heap[T.heap.size]? = some (freshCell cX kX) := by rw [← hT1]; exact State.heap_pushCell_size _ _
  have d3' : decode c.code (pc + 3) = .ok (.dup, 1) := by rw [hb]; exact d3
  obtain ⟨U, hsteps, hrun, hend, hW, hsame, ce, hce, hO⟩ := X₁.ctorThrow0 hexec htr (own := own) (cls := cls) (names := names) (ic := ic) hown' hcls hnames h (fun x hx => nomatch hx) hfX hkX hcellA (by rw [hhp, hT]; exact Nat.le_refl _)
    (g := { method := m, pc := pc + 4, locals := ls, stack := .ref T.heap.size :: .ref T.heap.size :: rest, locked := none }) rfl hsize rfl rfl (rest := rest) rfl
    (by rw [hb]; exact d4) (by rw [hb]; exact d7) hout hRframes (by simp only [List.map_cons, List.sum_cons, hcat]; omega) hlocks
  obtain ⟨f1, f2⟩ := vx_frame hsame
  rw [hhp] at f1 f2
  have hWs : s.WarmedH U.vm := State.WarmedH.trans hW0 hW
  have hcl : s.vm.findClass cls = some ce.cls := by
    have h9 := hO.cls
    rw [hvm] at h9
    exact h9
  have hall : s.sameButNew ({ U with vm := s.vm } : State) locs mc ms := by
    subst hA
    obtain ⟨e1, e2⟩ := hsame
    rw [State.setFrames_setFrames] at e1
    have h2 : (T.setVm s.vm).sameButNew ({ U with vm := s.vm } : State) [] (0 + 1) (0 + 6) := ⟨e1, e2⟩
    have h3 := X.same.trans h2
    rw [List.append_nil] at h3
    exact h3.mono hc hs
  refine ⟨U, ?_, .threw T.heap.size, hrun, hend, Or.inr ⟨T.heap.size, rfl, cls, ce, locs, hx U hWs.alike f1 (fun q hq => f2 q hq (fun z hz => nomatch hz)), hce, hO.vm, hcl, hWs, hall, hf⟩⟩
  refine st1 _ ?_
  show Steps p.tables e below (T1.setTop { method := m, pc := pc + 3, locals := ls, stack := .ref T.heap.size :: rest, locked := none }) _
  jvm_step X₁.here [X₁.here.top, hexec, d3', Value.category]
  exact hsteps
/-- 'throw new E("text")': new; dup; ldc; invokespecial; athrow -/
theorem vx_throwS {cc : ByteArray} {pc : Nat} (hexec : p.tables.exec = Jvm.exec) (hb : c.code = cc) (hl : l.stackTraces = false) {own cls text : String} {names : List String} {ik is ic mc ms sa : Nat} {A : Nat → Prop}
    (hown : s.vm.findClass own = some m.cls) (hcls : Bundle.fit cls = true) (hnames : ∀ n ∈ names, Bundle.fit n = true)
    (hk : (Cond.classLink own ik cls).before args s = true) (hini : (Cond.initialized cls).before args s = true) (hstr : vk_R own is text sa s) (hat : ∀ w ∈ vx_atS own ic cls names, w.before args s = true)
    (hgood : ∀ w ∈ Cond.classLink own ik cls :: Cond.initialized cls :: vx_atS own ic cls names, vx_ot w = true)
    (hU : vx_Zq Bundle.tN "UNASSIGNED_STACK" Bundle.steD A s s.heap) (hN : vx_Zq Bundle.tN "SUPPRESSED_SENTINEL" Bundle.listD A s s.heap) (hS : va_S A s.heap H locs) (hsize : ls.size = c.maxLocals)
    (d0 : decode cc pc = .ok (.new ik, 3)) (d3 : decode cc (pc + 3) = .ok (.dup, 1)) (d4 : decode cc (pc + 4) = .ok (.ldc is, 2)) (d6 : decode cc (pc + 6) = .ok (.invokespecial ic, 3)) (d9 : decode cc (pc + 9) = .ok (.athrow, 1))
    (hout : ∀ x ∈ c.exceptionTable.toList, covers x (pc + 9) = false)
    (hRframes : names.length + 3 < R.frames) (hRlocals : (rest.map fun v => v.category).sum + (13 * (names.length + 1) + 43) ≤ R.locals) (hRcells : cells + 1 ≤ R.cells) (hRslots : slots + 6 ≤ R.slots) (hlocks : meth.locks = false)
    (hx : ∀ t : State, s.vm.Alike t.vm → H.size ≤ t.heap.size → (∀ q : Nat, q < H.size → t.heap[q]? = H[q]?) → XC cls s t)
    (hf : ∀ z ∈ locs, free z.base) (hc : cells + 1 ≤ mc) (hs : slots + 6 ≤ ms) :
    W p l e R s m args below meth c H locs cells slots (vx_MQ below Qc XC args s mc ms free) (F0 m pc ls rest) := by
  intro T hT X
  have htr : e.platform.stackTraces = false := (show e.platform.stackTraces = l.stackTraces by rw [X.admits.platform]).trans hl
  have Y := vx_rebase X (R' := { frames := R.frames, locals := R.locals, cells := 1, slots := 6 }) (Nat.le_refl _) (Nat.le_refl _) hRcells hRslots
  obtain ⟨s', hA⟩ : ∃ z, z = (T.setVm s.vm).setFrames (.invoking m args :: below) := ⟨_, rfl⟩
  rw [← hA] at Y
  have hvm : s'.vm = s.vm := by rw [hA]; rfl
  have hhp : s'.heap = H := by rw [hA]; exact hT
  have hW0 : s.WarmedH s'.vm := by rw [hvm]; exact State.WarmedH.refl s
  have hat' : ∀ w ∈ vx_atS own ic cls names, w.before args s' = true := fun w hw => vx_ot_at hW0 hvm.symm (hgood w (List.mem_cons_of_mem _ (List.mem_cons_of_mem _ hw))) (hat w hw)
  have hk' : (Cond.classLink own ik cls).before args s' = true := vx_ot_at hW0 hvm.symm (hgood _ List.mem_cons_self) hk
  have hini' : (Cond.initialized cls).before args s' = true := vx_ot_at hW0 hvm.symm (hgood _ (List.mem_cons_of_mem _ List.mem_cons_self)) hini
  have hU' : vx_Zq Bundle.tN "UNASSIGNED_STACK" Bundle.steD A s' s'.heap := by rw [hhp]; exact vx_Zq.moved hW0.alike (hU.kept hS.2.1)
  have hN' : vx_Zq Bundle.tN "SUPPRESSED_SENTINEL" Bundle.listD A s' s'.heap := by rw [hhp]; exact vx_Zq.moved hW0.alike (hN.kept hS.2.1)
  have h : ∀ w ∈ Bundle.ownAtoms own ic cls names, w.before args s' = true := vx_own hat' (vx_isRefq hU'.1) (vx_isRefq hN'.1) hU'.2.word hN'.2.word
  have hown' : s'.vm.findClass own = some m.cls := by rw [hvm]; exact hown
  have hins : (Cond.instantiable cls 6).before args s' = true := h _ (by simp [Bundle.ownAtoms])
  obtain ⟨vm₁, cX, kX, hfX, hkX, -, -, X₁, st1⟩ := Y.newCold hexec (own := own) (C := cls) (index := ik) (n := 6) hown' hk' hins hini'
    (g := F0 m pc ls rest) rfl (by rw [hb]; exact d0) (Nat.le_refl _) (Nat.le_refl _)
  generalize hT1 : (T.setVm vm₁).pushCell { cls := cX, slots := kX.instanceTypes.map defaultValue, vm := .none } = T1 at X₁ st1
  have hcat : (Value.ref T.heap.size).category = 1 := rfl
  have hcellA : T1.heap[T.heap.size]? = some (freshCell cX kX) := by rw [← hT1]; exact State.heap_pushCell_size _ _
  have d3' : decode c.code (pc + 3) = .ok (.dup, 1) := by rw [hb]; exact d3
  have d4' : decode c.code (pc + 4) = .ok (.ldc is, 2) := by rw [hb]; exact d4
  have hstr' : vk_R own is text sa s' := vk_R.warm hW0 hstr
  obtain ⟨U, hsteps, hrun, hend, hW, hsame, ce, hce, hO⟩ := X₁.ctorThrowS hexec htr (own := own) (cls := cls) (names := names) (ic := ic) hown' hcls hnames h (fun x hx => nomatch hx) hfX hkX hcellA (by rw [hhp, hT]; exact Nat.le_refl _) (msg := .ref sa) rfl
    (g := { method := m, pc := pc + 6, locals := ls, stack := .ref sa :: .ref T.heap.size :: .ref T.heap.size :: rest, locked := none }) rfl hsize rfl rfl (rest := rest) rfl
    (by rw [hb]; exact d6) (by rw [hb]; exact d9) hout hRframes (by simp only [List.map_cons, List.sum_cons, hcat]; omega) hlocks
  obtain ⟨f1, f2⟩ := vx_frame hsame
  rw [hhp] at f1 f2
  have hWs : s.WarmedH U.vm := State.WarmedH.trans hW0 hW
  have hcl : s.vm.findClass cls = some ce.cls := by
    have h9 := hO.cls
    rw [hvm] at h9
    exact h9
  have hall : s.sameButNew ({ U with vm := s.vm } : State) locs mc ms := by
    subst hA
    obtain ⟨e1, e2⟩ := hsame
    rw [State.setFrames_setFrames] at e1
    have h2 : (T.setVm s.vm).sameButNew ({ U with vm := s.vm } : State) [] (0 + 1) (0 + 6) := ⟨e1, e2⟩
    have h3 := X.same.trans h2
    rw [List.append_nil] at h3
    exact h3.mono hc hs
  refine ⟨U, ?_, .threw T.heap.size, hrun, hend, Or.inr ⟨T.heap.size, rfl, cls, ce, locs, hx U hWs.alike f1 (fun q hq => f2 q hq (fun z hz => nomatch hz)), hce, hO.vm, hcl, hWs, hall, hf⟩⟩
  refine st1 _ ?_
  show Steps p.tables e below (T1.setTop { method := m, pc := pc + 3, locals := ls, stack := .ref T.heap.size :: rest, locked := none }) _
  jvm_step X₁.here [X₁.here.top, hexec, d3', Value.category]
  exact X₁.ldcString hexec (own := own) (text := text) (index := is) (a := sa) hown' hstr'.1 hstr'.2
    (g := { method := m, pc := pc + 4, locals := ls, stack := .ref T.heap.size :: .ref T.heap.size :: rest, locked := none }) rfl d4' _ hsteps
/-- 'throw new E("text")', the text by a wide index -/
theorem vx_throwSW {cc : ByteArray} {pc : Nat} (hexec : p.tables.exec = Jvm.exec) (hb : c.code = cc) (hl : l.stackTraces = false) {own cls text : String} {names : List String} {ik is ic mc ms sa : Nat} {A : Nat → Prop}
    (hown : s.vm.findClass own = some m.cls) (hcls : Bundle.fit cls = true) (hnames : ∀ n ∈ names, Bundle.fit n = true)
    (hk : (Cond.classLink own ik cls).before args s = true) (hini : (Cond.initialized cls).before args s = true) (hstr : vk_R own is text sa s) (hat : ∀ w ∈ vx_atS own ic cls names, w.before args s = true)
    (hgood : ∀ w ∈ Cond.classLink own ik cls :: Cond.initialized cls :: vx_atS own ic cls names, vx_ot w = true)
    (hU : vx_Zq Bundle.tN "UNASSIGNED_STACK" Bundle.steD A s s.heap) (hN : vx_Zq Bundle.tN "SUPPRESSED_SENTINEL" Bundle.listD A s s.heap) (hS : va_S A s.heap H locs) (hsize : ls.size = c.maxLocals)
    (d0 : decode cc pc = .ok (.new ik, 3)) (d3 : decode cc (pc + 3) = .ok (.dup, 1)) (d4 : decode cc (pc + 4) = .ok (.ldc_w is, 3)) (d7 : decode cc (pc + 7) = .ok (.invokespecial ic, 3)) (d10 : decode cc (pc + 10) = .ok (.athrow, 1))
    (hout : ∀ x ∈ c.exceptionTable.toList, covers x (pc + 10) = false)
    (hRframes : names.length + 3 < R.frames) (hRlocals : (rest.map fun v => v.category).sum + (13 * (names.length + 1) + 43) ≤ R.locals) (hRcells : cells + 1 ≤ R.cells) (hRslots : slots + 6 ≤ R.slots) (hlocks : meth.locks = false)
    (hx : ∀ t : State, s.vm.Alike t.vm → H.size ≤ t.heap.size → (∀ q : Nat, q < H.size → t.heap[q]? = H[q]?) → XC cls s t)
    (hf : ∀ z ∈ locs, free z.base) (hc : cells + 1 ≤ mc) (hs : slots + 6 ≤ ms) :
    W p l e R s m args below meth c H locs cells slots (vx_MQ below Qc XC args s mc ms free) (F0 m pc ls rest) := by
  intro T hT X
  have htr : e.platform.stackTraces = false := (show e.platform.stackTraces = l.stackTraces by rw [X.admits.platform]).trans hl
  have Y := vx_rebase X (R' := { frames := R.frames, locals := R.locals, cells := 1, slots := 6 }) (Nat.le_refl _) (Nat.le_refl _) hRcells hRslots
  obtain ⟨s', hA⟩ : ∃ z, z = (T.setVm s.vm).setFrames (.invoking m args :: below) := ⟨_, rfl⟩
  rw [← hA] at Y
  have hvm : s'.vm = s.vm := by rw [hA]; rfl
  have hhp : s'.heap = H := by rw [hA]; exact hT
  have hW0 : s.WarmedH s'.vm := by rw [hvm]; exact State.WarmedH.refl s
  have hat' : ∀ w ∈ vx_atS own ic cls names, w.before args s' = true := fun w hw => vx_ot_at hW0 hvm.symm (hgood w (List.mem_cons_of_mem _ (List.mem_cons_of_mem _ hw))) (hat w hw)
  have hk' : (Cond.classLink own ik cls).before args s' = true := vx_ot_at hW0 hvm.symm (hgood _ List.mem_cons_self) hk
  have hini' : (Cond.initialized cls).before args s' = true := vx_ot_at hW0 hvm.symm (hgood _ (List.mem_cons_of_mem _ List.mem_cons_self)) hini
  have hU' : vx_Zq Bundle.tN "UNASSIGNED_STACK" Bundle.steD A s' s'.heap := by rw [hhp]; exact vx_Zq.moved hW0.alike (hU.kept hS.2.1)
  have hN' : vx_Zq Bundle.tN "SUPPRESSED_SENTINEL" Bundle.listD A s' s'.heap := by rw [hhp]; exact vx_Zq.moved hW0.alike (hN.kept hS.2.1)
  have h : ∀ w ∈ Bundle.ownAtoms own ic cls names, w.before args s' = true := vx_own hat' (vx_isRefq hU'.1) (vx_isRefq hN'.1) hU'.2.word hN'.2.word
  have hown' : s'.vm.findClass own = some m.cls := by rw [hvm]; exact hown
  have hins : (Cond.instantiable cls 6).before args s' = true := h _ (by simp [Bundle.ownAtoms])
  obtain ⟨vm₁, cX, kX, hfX, hkX, -, -, X₁, st1⟩ := Y.newCold hexec (own := own) (C := cls) (index := ik) (n := 6) hown' hk' hins hini'
    (g := F0 m pc ls rest) rfl (by rw [hb]; exact d0) (Nat.le_refl _) (Nat.le_refl _)
  generalize hT1 : (T.setVm vm₁).pushCell { cls := cX, slots := kX.instanceTypes.map defaultValue, vm := .none } = T1 at X₁ st1
  have hcat : (Value.ref T.heap.size).category = 1 := rfl
  have hcellA : T1.heap[T.heap.size]? = some (freshCell cX kX) := by rw [← hT1]; exact State.heap_pushCell_size _ _
  have d3' : decode c.code (pc + 3) = .ok (.dup, 1) := by rw [hb]; exact d3
  have d4' : decode c.code (pc + 4) = .ok (.ldc_w is, 3) := by rw [hb]; exact d4
  have hstr' : vk_R own is text sa s' := vk_R.warm hW0 hstr
  obtain ⟨U, hsteps, hrun, hend, hW, hsame, ce, hce, hO⟩ := X₁.ctorThrowS hexec htr (own := own) (cls := cls) (names := names) (ic := ic) hown' hcls hnames h (fun x hx => nomatch hx) hfX hkX hcellA (by rw [hhp, hT]; exact Nat.le_refl _) (msg := .ref sa) rfl
    (g := { method := m, pc := pc + 7, locals := ls, stack := .ref sa :: .ref T.heap.size :: .ref T.heap.size :: rest, locked := none }) rfl hsize rfl rfl (rest := rest) rfl
    (by rw [hb]; exact d7) (by rw [hb]; exact d10) hout hRframes (by simp only [List.map_cons, List.sum_cons, hcat]; omega) hlocks
  obtain ⟨f1, f2⟩ := vx_frame hsame
  rw [hhp] at f1 f2
  have hWs : s.WarmedH U.vm := State.WarmedH.trans hW0 hW
  have hcl : s.vm.findClass cls = some ce.cls := by
    have h9 := hO.cls
    rw [hvm] at h9
    exact h9
  have hall : s.sameButNew ({ U with vm := s.vm } : State) locs mc ms := by
    subst hA
    obtain ⟨e1, e2⟩ := hsame
    rw [State.setFrames_setFrames] at e1
    have h2 : (T.setVm s.vm).sameButNew ({ U with vm := s.vm } : State) [] (0 + 1) (0 + 6) := ⟨e1, e2⟩
    have h3 := X.same.trans h2
    rw [List.append_nil] at h3
    exact h3.mono hc hs
  refine ⟨U, ?_, .threw T.heap.size, hrun, hend, Or.inr ⟨T.heap.size, rfl, cls, ce, locs, hx U hWs.alike f1 (fun q hq => f2 q hq (fun z hz => nomatch hz)), hce, hO.vm, hcl, hWs, hall, hf⟩⟩
  refine st1 _ ?_
  show Steps p.tables e below (T1.setTop { method := m, pc := pc + 3, locals := ls, stack := .ref T.heap.size :: rest, locked := none }) _
  jvm_step X₁.here [X₁.here.top, hexec, d3', Value.category]
  exact X₁.ldcStringW hexec (own := own) (text := text) (index := is) (a := sa) hown' hstr'.1 hstr'.2
    (g := { method := m, pc := pc + 4, locals := ls, stack := .ref T.heap.size :: .ref T.heap.size :: rest, locked := none }) rfl d4' _ hsteps
end Ends
section Bodies
variable {l : Launch}
theorem vx_ofW {y : MethodName} {ws ws' : List Cond} {rm : Room} {Pc : Array Value → State → Prop} {Qc : Array Value → State → Outcome → State → Prop} {XC : String → State → State → Prop} {mc ms : Nat} {free : Addr → Prop} {cc : ByteArray} {maxL : Nat} {ret : Option FieldType}
    (hy : plainName y.cls = true) (hw : ws = Cond.code y cc maxL ret :: ws')
    (body : ∀ p e s m args below meth c s₁, BodyLoose p l y (headSpec ws rm) cc maxL ret e s m args below meth c s₁ → c.maxLocals = maxL → (∀ x ∈ c.exceptionTable.toList, False) → Pc args s →
      W p l e (headSpec ws rm).room s m args below meth c s.heap [] 0 0 (vx_MQ below Qc XC args s mc ms free) (entryFrame m args maxL)) : vx_Met l y ws rm Pc Qc XC mc ms free := by
  refine MetFree.of_bodyS (code := cc) (maxLocals := maxL) (ret := ret) hy ?_ ?_
  · intro args s m h hn
    obtain ⟨meth, c, h1, h2, h3, h4, h5, h6, -, -⟩ := Cond.code_spec hn (atoms_spec (ws := ws) h _ (by rw [hw]; exact List.mem_cons_self))
    exact ⟨meth, c, h1, h2, h3, h4, h5, h6⟩
  · intro p e s m args below meth c s₁ B hml hP _
    have hh0 : s₁.heap = s.heap := by rw [B.state]; rfl
    have ht : ∀ x ∈ c.exceptionTable.toList, False := by
      obtain ⟨meth9, c9, h1, h2, -, -, -, -, h7, -⟩ := Cond.code_spec B.named (atoms_spec (ws := ws) B.pre _ (by rw [hw]; exact List.mem_cons_self))
      cases Option.some.inj (h1.symm.trans B.method)
      cases Option.some.inj (h2.symm.trans (Stand.of_body B).code)
      intro x hx
      rw [Array.isEmpty_iff.mp h7] at hx
      cases hx
    obtain ⟨t, a1, o, b1, b2, b3⟩ := body p e s m args below meth c s₁ B hml ht hP s₁ hh0 (Stand.of_body B)
    exact ⟨t, o, a1, b1, b2, b3⟩
/-- the table of a body with handlers -/
theorem vx_table {p : Program} {x y : MethodName} {S : Spec} {cc bytes : ByteArray} {maxL maxL' : Nat} {ret ret' : Option FieldType} {e : Env} {s s₁ : State} {m : MethodId} {args : Array Value} {below : List Frame} {meth : Method} {c : Code} {hh : List (Nat × Nat × Nat × Nat)}
    (B : BodyLoose p l y S cc maxL ret e s m args below meth c s₁) (h : (Cond.codeWith y bytes maxL' ret' hh).before args s = true) : c.exceptionTable.toList = tableOf hh := by
  obtain ⟨m9, meth9, c9, hn9, h1, h2, -, -, h6, -⟩ := Cond.codeWith_spec h
  cases Option.some.inj (hn9.symm.trans B.named)
  cases Option.some.inj (h1.symm.trans B.method)
  cases Option.some.inj (h2.symm.trans (Stand.of_body B).code)
  rw [← h6, table_eq]
end Bodies
end VXA
/-! ===== END ===== -/
/-! ===== BEGIN a static call of a method with an exception table ===== -/
section VXS
variable {p : Program} {l : Launch} {e : Env} {R : Room} {s : State} {m : MethodId} {args : Array Value} {below : List Frame} {meth : Method} {c : Code} {T : State} {H : Heap} {locs : List Loc} {cells slots : Nat}
abbrev vx_CSW (R : Room) (s : State) (args : Array Value) (own : String) (index : Nat) (y : MethodName) (bytes : ByteArray) (maxL : Nat) (ret : Option FieldType) (hh : List (Nat × Nat × Nat × Nat)) (ws : List Cond) (rm : Room) (mc ms n : Nat) : Prop :=
  (rm.cells = mc ∧ rm.slots = ms ∧ rm.frames + 1 ≤ R.frames ∧ 8 + (maxL + 11) + rm.locals ≤ R.locals ∧ (∀ w ∈ ws, ∀ (a' : Array Value) (U : State), s.WarmedH U.vm → w.before a' U = true) ∧ Cond.codeWith y bytes maxL ret hh ∈ ws) ∧
  (Cond.codeWith y bytes maxL ret hh).before args s = true ∧ (Cond.initialized y.cls).before args s = true ∧ (y.cls ≠ "java/lang/invoke/MethodHandle" ∧ y.cls ≠ "java/lang/invoke/VarHandle") ∧
  (∀ sig, parseMethodDescriptor y.desc = some sig → n = sig.parameters.length) ∧ (Cond.methodLink own index y).before args s = true ∧ (Cond.static y).before args s = true
theorem vx_cwSW {own : String} {index maxL mc ms : Nat} {y : MethodName} {bytes : ByteArray} {ret : Option FieldType} {hh : List (Nat × Nat × Nat × Nat)} {Ts ws ws' : List Cond} {rm : Room} (n : Nat) (ht : ∀ w ∈ Ts, w.before args s = true) (hT : GoodIn Ts (va_wsS own index y ws)) (hw : ws = Cond.codeWith y bytes maxL ret hh :: ws') (hrc : rm.cells = mc) (hrs : rm.slots = ms)
    (hd : y.cls ≠ "java/lang/invoke/MethodHandle" ∧ y.cls ≠ "java/lang/invoke/VarHandle" ∧ (parseMethodDescriptor y.desc).map (fun d => d.parameters.length) = some n) (hR : rm.frames + 1 ≤ R.frames ∧ 8 + (maxL + 11) + rm.locals ≤ R.locals) :
    vx_CSW R s args own index y bytes maxL ret hh ws rm mc ms n := by
  have ok : ∀ w ∈ va_wsS own index y ws, w.before args s = true := fun w h => ht w (hT w h).1
  have hG : GoodIn Ts ws := fun w h => hT w (by unfold va_wsS; exact List.mem_append_right _ h)
  have hc : Cond.codeWith y bytes maxL ret hh ∈ ws := by rw [hw]; exact List.mem_cons_self
  refine ⟨⟨hrc, hrs, hR.1, hR.2, pay_in ht hG, hc⟩, ht _ (hG _ hc).1, ok _ (by simp [va_wsS]), ⟨hd.1, hd.2.1⟩, fun sig h => ?_, ok _ (by simp [va_wsS]), ok _ (by simp [va_wsS])⟩
  have h2 := hd.2.2
  rw [h] at h2
  exact (Option.some.inj h2).symm
theorem vx_callSW (X : Stand p l e R s m args below meth c T locs cells slots) (hexec : p.tables.exec = Jvm.exec) {own : String} {index : Nat} {y : MethodName} {bytes : ByteArray} {maxL : Nat} {ret : Option FieldType} {hh : List (Nat × Nat × Nat × Nat)}
    (hown : s.vm.findClass own = some m.cls) (hlink : (Cond.methodLink own index y).before args s = true) (hstat : (Cond.static y).before args s = true) (hinit : (Cond.initialized y.cls).before args s = true)
    (hcode : (Cond.codeWith y bytes maxL ret hh).before args s = true) (hy : y.cls ≠ "java/lang/invoke/MethodHandle" ∧ y.cls ≠ "java/lang/invoke/VarHandle")
    {W9 : Nat} {Pre : Pt → Array Value → Prop} {Post : Pt → Array Value → Option Value → Pt → Prop} (hK : Back l R p e below s args y 3 W9 Pre Post)
    {g : JFrame} (hg : g.method = m) (hsize : g.locals.size = c.maxLocals) {argsL rest : List Value} (hlen : ∀ sig, parseMethodDescriptor y.desc = some sig → argsL.length = sig.parameters.length)
    (hstack : g.stack = argsL.reverse ++ rest) (hW : 2 * g.monitorRoom + (rest.map fun v => v.category).sum ≤ W9) (hdg : decode c.code g.pc = .ok (.invokestatic index, 3))
    (hpre : ∀ vm₁, s.WarmedH vm₁ → Pre ⟨T.setVm vm₁, locs, cells, slots⟩ argsL.toArray) :
    ∃ (v : Option Value) (vm₁ : Vm) (B : Pt), s.WarmedH vm₁ ∧ Stand p l e R s m args below meth c B.U B.locs B.cells B.slots ∧ Post ⟨T.setVm vm₁, locs, cells, slots⟩ argsL.toArray v B ∧
      ∀ target, Steps p.tables e below (B.U.setTop { g with pc := g.pc + 3, stack := v.toList ++ rest }) target → Steps p.tables e below (T.setTop g) target := by
  obtain ⟨mk, methM, cM, hnamed, hmethM, -, -, -, -, -, -, hsigM⟩ := Cond.codeWith_spec hcode
  have hstatic : methM.isStatic = true := Cond.static_spec hnamed hmethM hstat
  obtain ⟨kP, hkP, -⟩ := className_of_methodNamed hnamed
  have hinitP : kP.init = .initialized := Cond.initialized_spec (findClass_of_methodNamed hnamed) hkP hinit
  obtain ⟨vm₁, X₁, hstep₁⟩ := X.invokestatic hexec hown hlink hnamed hmethM hstatic hkP hinitP hy (g := g) hg (argsL := argsL) (rest := rest) (hlen _ hsigM) hstack hdg
  obtain ⟨v, B, X', hpost, hsteps⟩ := hK m meth c ⟨T.setVm vm₁, locs, cells, slots⟩ { g with stack := rest } (.invokestatic index) mk argsL.toArray X₁ hg hsize hdg hW (X₁.named hnamed) (hpre vm₁ X₁.warmed)
  exact ⟨v, vm₁, B, X₁.warmed, X', hpost, fun target h => hstep₁ _ fun acts => by rw [doInvoke_state]; exact hsteps.trans h⟩
theorem vx_runSW {y : MethodName} {bytes cc : ByteArray} {maxL nL mc ms n index : Nat} {ret : Option FieldType} {hh : List (Nat × Nat × Nat × Nat)} {ws : List Cond} {rm : Room} {Pc : Array Value → State → Prop} {Qc : Array Value → State → Outcome → State → Prop} {free : Addr → Prop} {Ts : List Cond} {own : String} {As rest : List Value} {g : JFrame}
    (S : CallFix p m c cc nL s args Ts own) (hM : Met l y ws rm Pc Qc mc ms free) (cw : vx_CSW R s args own index y bytes maxL ret hh ws rm mc ms n) (hp : PreS s H Pc As)
    (hg : g.method = m) (hn : As.length = n) (hsize : g.locals.size = nL) (hstack : g.stack = As.reverse ++ rest) (hW : 2 * g.monitorRoom + (rest.map fun v => v.category).sum ≤ 8) (hdg : decode cc g.pc = .ok (.invokestatic index, 3)) (hf : cells + mc ≤ R.cells ∧ slots + ms ≤ R.slots) :
    va_Run p l e R s m args below meth c H locs cells slots mc ms g rest (Qc As.toArray) (free) := by
  obtain ⟨⟨hrc, hrs, hfr, hlo, hws, hcw⟩, hcode, hini, hy, hlen, hl, hstt⟩ := cw
  have hK : Back l R p e below s args y 3 8 (PreOf R mc ms Pc) (PostOf Qc mc ms free) := va_backW (hh := hh) (bytes := bytes) (maxL := maxL) (ret := ret) hM hp.1 hrc hrs hfr hlo hws hcw (fun a' U hW => word_at hW (Or.inl (by first | rfl | simp [Cond.onTables, Cond.keeps, Cond.steady])) hini)
  obtain ⟨hx, hb, hml, ho, -⟩ := S
  intro T hT X
  obtain ⟨v, vm₁, ⟨U', l2, c2, s2⟩, hW₁, X', ⟨g', mk, t, L, e1, e2, hq, h1, hL, h2, h3⟩, st⟩ := vx_callSW X hx (hh := hh) (bytes := bytes) (maxL := maxL) (ret := ret) ho hl hstt hini hcode hy hK hg (hsize.trans hml.symm) (argsL := As) (rest := rest) (fun sig h => hn.trans (hlen sig h)) hstack hW (by rw [hb]; exact hdg)
    (fun vm₁ hW₁ => ⟨hf.1, hf.2, hp.2 (T.setVm vm₁) hT hW₁⟩)
  dsimp only [Pt.U, Pt.locs, Pt.cells, Pt.slots] at X' e1 e2 h1 h2 h3 st
  subst h1; subst h2; subst h3
  exact ⟨v, (T.setVm vm₁).calling g' mk As.toArray, t, U', L, hT, X', hL, e1, e2, hq, st⟩
/-- not caught here, past rows that name other classes: it goes on to the caller -/
theorem vx_outP {p : Program} {l : Launch} {e : Env} {R : Room} {s : State} {m : MethodId} {args : Array Value} {below : List Frame} {meth : Method} {c : Code} {H : Heap} {locs : List Loc} {cells slots : Nat} {free : Addr → Prop} {ls : Array Slot} {rest : List Value} {Qc : Array Value → State → Outcome → State → Prop} {XC : String → State → State → Prop}
    {pc : Nat} {own E : String} {ce : Cell} {q : Addr} {mc ms : Nat} (hown : s.vm.findClass own = some m.cls) (hlocks : meth.locks = false)
    (hpass : ∀ z ∈ c.exceptionTable.toList, covers z pc = false ∨ (z.catchType ≠ 0 ∧ ∃ nm : String, (Cond.classLink own z.catchType nm).before args s = true ∧ va_Nc E nm s)) (hcell : H[q]? = some ce) (hv : ce.vm = .none) (hcl : s.vm.findClass E = some ce.cls)
    (hx : ∀ t : State, t.heap = H → s.vm.Alike t.vm → XC E s t) (hf : ∀ z ∈ locs, free z.base) (hc : cells ≤ mc) (hs : slots ≤ ms) :
    vx_W p l e R s m args below meth c H locs cells slots (vx_MQ below Qc XC args s mc ms free) (F0 m pc ls rest) q := by
  intro T hT X
  have hpl : e.platform.magicAccessors = ({} : Platform).magicAccessors := by rw [X.admits.platform]
  obtain ⟨vm', hW', X', st⟩ := X.outThrough hlocks q (g := F0 m pc ls rest) rfl rfl rfl (cell := ce) (by rw [hT]; exact hcell) (by rw [hv]; rfl)
    (by obtain ⟨k9, h9, -⟩ := Vm.findClass_spec hcl; exact ⟨k9, h9⟩) (fun z hz => by
      rcases hpass z hz with h | ⟨hz0, nm, hl1, hn1⟩
      · exact Or.inl h
      · obtain ⟨c6, hc6, hcl6⟩ := Cond.classLink_spec hown hl1 e.platform hpl
        obtain ⟨a8, b8, h1, h2, h3⟩ := hn1
        cases Option.some.inj (h1.symm.trans hcl)
        cases Option.some.inj (h2.symm.trans hc6)
        exact Or.inr ⟨hz0, _, hcl6, h3⟩)
  obtain ⟨g₀, hfr⟩ := X'.frames_eq
  have hcell9 : ((T.setVm vm').setFrames (.throwing q :: below)).heap[q]? = some ce := by
    show T.heap[q]? = some ce
    rw [hT]; exact hcell
  have hend : Ended ((T.setVm vm').setFrames (.throwing q :: below)) below (.threw q) := State.frames_setFrames _ (State.cur_lt_of_frames hfr)
  refine ⟨(T.setVm vm').setFrames (.throwing q :: below), ?_, .threw q, X'.here.running, hend, Or.inr ⟨q, rfl, E, ce, locs, hx _ hT (X'.ends _).1.alike, hcell9, hv, hcl, (X'.ends _).1, (X'.ends _).2.mono hc hs, hf⟩⟩
  rw [X.pushThrowing_eq]
  exact st
/-- a thing of a world lies in the heap -/
theorem vx_lt {D : va_G} {cl : List vw_C} {ws : va_W} {H1 : Heap} (h : va_P D cl ws H1) {k : Nat} {q : Nat × va_E} (hk : ws[k]? = some q) : q.1 < H1.size := (h k q hk).lt
end VXS
/-! ===== END ===== -/
/-! ===== BEGIN methods with a table of their own: called by a name, returning or throwing ===== -/
section VXH
/-! vx_backW, vx_callVX, vx_callSX, vx_callVW, vx_runVW, vx_runVX, vx_runSX, vx_ofWH follow the same proofs as their sisters above (Free/Laws.lean, Shelf42/LK1.lean); vx_outP calls Shelf42/NT130.lean (outThrough). -/
section
variable {l : Launch} {R : Room} {p : Program} {e : Env} {below : List Frame} {s : State} {sargs : Array Value} {y : MethodName} {len W9 : Nat}
theorem vx_backW {ws : List Cond} {rm : Room} {Pc : Array Value → State → Prop} {Qc : Array Value → State → Outcome → State → Prop} {XC : String → State → State → Prop} {mc ms : Nat} {free : Addr → Prop} {bytes : ByteArray} {maxL : Nat} {ret : Option FieldType} {hh : List (Nat × Nat × Nat × Nat)}
    (hM : vx_Met l y ws rm Pc Qc XC mc ms free) (hblind : FrameBlind Pc) (hrc : rm.cells = mc) (hrs : rm.slots = ms)
    (hframes : rm.frames + 1 ≤ R.frames) (hlocals : W9 + (maxL + 11) + rm.locals ≤ R.locals)
    (hws : ∀ w ∈ ws, ∀ a' U, s.WarmedH U.vm → w.before a' U = true) (hcode : Cond.codeWith y bytes maxL ret hh ∈ ws) (hinit : ∀ a' U, s.WarmedH U.vm → (Cond.initialized y.cls).before a' U = true) :
    vx_Back l R p e below s sargs y len W9 (PreOf R mc ms Pc) (PostOf Qc mc ms free) (vx_Post XC mc ms free) := by
  intro m meth c A g ig mk a X hg hsize hdg hW hn hp
  have h1 : (headSpec ws rm).pre.before a A.U = true := atoms_intro fun w hw => hws w hw _ _ X.warmed
  have h2 : (Cond.codeWith y bytes maxL ret hh).before a A.U = true := hws _ hcode _ _ X.warmed
  have h3 : (Cond.initialized y.cls).before a A.U = true := hinit _ _ X.warmed
  have h4 : A.cells + (headSpec ws rm).room.cells ≤ R.cells := by rw [show (headSpec ws rm).room.cells = mc from hrc]; exact hp.1
  have h5 : A.slots + (headSpec ws rm).room.slots ≤ R.slots := by rw [show (headSpec ws rm).room.slots = ms from hrs]; exact hp.2.1
  have hPc : Pc a (A.U.calling g mk a) := hblind _ _ _ _ hp.2.2
  obtain ⟨U, Ls, c0, s0⟩ := A
  dsimp only [Pt.U, Pt.locs, Pt.cells, Pt.slots] at h1 h2 h3 h4 h5 X hn hPc ⊢
  obtain ⟨m9, methY, cY, hn9, hmY, hcY, -, hlY, -⟩ := Cond.codeWith_spec h2
  cases Option.some.inj (hn9.symm.trans hn)
  obtain ⟨kY, hkY, -⟩ := className_of_methodNamed hn
  have hinitY : kY.init = .initialized := Cond.initialized_spec (findClass_of_methodNamed hn) hkY h3
  have h : At U g.method c below := by rw [hg]; exact X.here
  have hlocals9 : W9 + (maxL + 11) + (headSpec ws rm).room.locals ≤ R.locals := hlocals
  have happ : (headSpec ws rm).appliesLoose y e.platform (U.calling g mk a) = true :=
    Spec.appliesLoose_calling (g := g) h hdg hn hkY hinitY
      (X.room_calling (g := g) (R' := (headSpec ws rm).room) hsize hmY hcY hframes (by rw [hlY]; omega) h4 h5) h1
  obtain ⟨mid, hmid⟩ := h.above
  have hfr : (U.setTop g).frames = (.java g :: mid) ++ below := by rw [State.frames_setTop' g h.top, hmid]; rfl
  obtain ⟨o, s₂, hsteps, -, hend, hq⟩ := Steps.callFree hM p X.admits X.cas X.clock (acts := []) hfr happ hPc trivial
  have hq' : vx_Q Qc XC mc ms free a (U.calling g mk a) o s₂ := hq
  rw [State.frames_setTop' g h.top] at hend
  obtain ⟨g₀, hg0⟩ := Option.isSome_iff_exists.mp h.top
  obtain ⟨r, hr⟩ := State.topJava?_eq_some.mp hg0
  have hr' : (({ U with heap := s₂.heap, slotsUsed := s₂.slotsUsed } : State).setVm s₂.vm).frames = .java g₀ :: r := hr
  rcases hq' with ⟨hqc, L, hfe, hL⟩ | ⟨q, rfl, E, ce, L, hx, hce, hcv, hcl, hW₂, hsm, hL⟩
  · obtain ⟨⟨v, rfl⟩, hW₂, e2, q2, q3, q4, q5, q6⟩ := id hfe
    have e3 : s₂ = ({ (U.calling g mk a).setFrames s₂.frames with heap := s₂.heap, slotsUsed := s₂.slotsUsed } : State).setVm s₂.vm := by
      have : s₂ = ({ s₂ with vm := (U.calling g mk a).vm } : State).setVm s₂.vm := rfl
      rw [e2] at this
      exact this
    obtain ⟨c₂, i₂, len₂, hc₂, hd₂, hf₂⟩ := hend
    have hW' : U.WarmedH s₂.vm := hW₂
    have hcc : c₂ = c := by
      have h1 : s₂.code? g.method = U.code? g.method := by
        rw [State.code?_eq, State.code?_eq, hW'.alike.method?]
      exact Option.some.inj (hc₂.symm.trans (h1.trans h.code))
    subst hcc
    have hlen : len₂ = len := by rw [hdg] at hd₂; cases hd₂; rfl
    subst hlen
    have hs₂ : s₂ = (({ U with heap := s₂.heap, slotsUsed := s₂.slotsUsed } : State).setVm s₂.vm).setTop { g with pc := g.pc + len₂, stack := v.toList ++ g.stack } := by
      refine e3.trans ?_
      rw [hf₂, State.calling_eq h.top, State.setFrames_setFrames, State.setTop_of_frames _ hr', hr]
      rfl
    have hsame : U.sameButNew ({ U with heap := s₂.heap, slotsUsed := s₂.slotsUsed } : State) L mc ms := by
      refine ⟨?_, q2, q3, q4, q5, q6⟩
      obtain ⟨t, ht, -⟩ := State.frames_cons hr
      show ({ U with heap := s₂.heap, slotsUsed := s₂.slotsUsed } : State) = { U.setFrames U.frames with heap := s₂.heap, slotsUsed := s₂.slotsUsed }
      rw [State.setFrames_self ht]
    subst hg
    refine Or.inl ⟨v, ⟨(({ U with heap := s₂.heap, slotsUsed := s₂.slotsUsed } : State).setVm s₂.vm), Ls ++ L, c0 + mc, s0 + ms⟩,
      ⟨X.admits, X.cas, X.clock, X.frames, X.room, X.hears, X.method, X.code, (X.here.setHeapUsed s₂.heap s₂.slotsUsed).setVm hW'.alike, X.tail, State.WarmedH.trans X.warmed hW', X.limits, X.bytes, X.same.trans (hsame.setVm s.vm)⟩,
      ⟨g, mk, s₂, L, rfl, rfl, hqc, rfl, hL, rfl, rfl⟩, ?_⟩
    show Steps p.tables e below _ ((({ U with heap := s₂.heap, slotsUsed := s₂.slotsUsed } : State).setVm s₂.vm).setTop { g with pc := g.pc + len₂, stack := v.toList ++ g.stack })
    rw [← hs₂]
    exact hsteps
  · obtain ⟨e2, q2, q3, q4, q5, q6⟩ := id hsm
    have e3 : s₂ = ({ (U.calling g mk a).setFrames s₂.frames with heap := s₂.heap, slotsUsed := s₂.slotsUsed } : State).setVm s₂.vm := by
      have : s₂ = ({ s₂ with vm := (U.calling g mk a).vm } : State).setVm s₂.vm := rfl
      rw [e2] at this
      exact this
    have hf₂ : s₂.frames = .throwing q :: .java g :: U.frames.tail := hend
    have hW' : U.WarmedH s₂.vm := hW₂
    have hs₂ : s₂ = ((({ U with heap := s₂.heap, slotsUsed := s₂.slotsUsed } : State).setVm s₂.vm).setTop g).pushFrame (.throwing q) := by
      refine e3.trans ?_
      rw [hf₂, State.calling_eq h.top, State.setFrames_setFrames, State.pushFrame, State.frames_setTop _ hr', State.setTop_of_frames _ hr', State.setFrames_setFrames, hr]
      rfl
    have hsame : U.sameButNew ({ U with heap := s₂.heap, slotsUsed := s₂.slotsUsed } : State) L mc ms := by
      refine ⟨?_, q2, q3, q4, q5, q6⟩
      obtain ⟨t, ht, -⟩ := State.frames_cons hr
      show ({ U with heap := s₂.heap, slotsUsed := s₂.slotsUsed } : State) = { U.setFrames U.frames with heap := s₂.heap, slotsUsed := s₂.slotsUsed }
      rw [State.setFrames_self ht]
    subst hg
    refine Or.inr ⟨q, ⟨(({ U with heap := s₂.heap, slotsUsed := s₂.slotsUsed } : State).setVm s₂.vm), Ls ++ L, c0 + mc, s0 + ms⟩,
      ⟨X.admits, X.cas, X.clock, X.frames, X.room, X.hears, X.method, X.code, (X.here.setHeapUsed s₂.heap s₂.slotsUsed).setVm hW'.alike, X.tail, State.WarmedH.trans X.warmed hW', X.limits, X.bytes, X.same.trans (hsame.setVm s.vm)⟩,
      ⟨g, mk, s₂, L, E, ce, rfl, rfl, hx, hce, hcv, hcl, rfl, hL, rfl, rfl⟩, ?_⟩
    show Steps p.tables e below _ (((({ U with heap := s₂.heap, slotsUsed := s₂.slotsUsed } : State).setVm s₂.vm).setTop g).pushFrame (.throwing q))
    rw [← hs₂]
    exact hsteps
end
variable {p : Program} {l : Launch} {e : Env} {R : Room} {s : State} {m : MethodId} {args : Array Value} {below : List Frame} {meth : Method} {c : Code} {T : State} {H : Heap} {locs : List Loc} {cells slots : Nat}
theorem vx_callVX (X : Stand p l e R s m args below meth c T locs cells slots) (hexec : p.tables.exec = Jvm.exec) {own C : String} {index : Nat} {y : MethodName} {bytes : ByteArray} {maxL : Nat} {ret : Option FieldType} {hh : List (Nat × Nat × Nat × Nat)}
    (hown : s.vm.findClass own = some m.cls) (hlink : (Cond.methodLink own index y).before args s = true) (hinst : (Cond.instanceMethod y).before args s = true) (hsel : (Cond.selects C y y).before args s = true)
    (hcode : (Cond.codeWith y bytes maxL ret hh).before args s = true) (hy : y.cls ≠ "java/lang/invoke/MethodHandle" ∧ y.cls ≠ "java/lang/invoke/VarHandle")
    {W9 : Nat} {Pre : Pt → Array Value → Prop} {Post : Pt → Array Value → Option Value → Pt → Prop} {PostX : Pt → Array Value → Addr → Pt → Prop} (hK : vx_Back l R p e below s args y 3 W9 Pre Post PostX)
    {b : Addr} {cellB : Cell} (hcell : T.heap[b]? = some cellB) (hobj : cellB.vm.isStatics = false) (hcls : s.vm.findClass C = some cellB.cls)
    {g : JFrame} (hg : g.method = m) (hsize : g.locals.size = c.maxLocals) {argsL rest : List Value} (hlen : ∀ sig, parseMethodDescriptor y.desc = some sig → argsL.length = sig.parameters.length)
    (hstack : g.stack = argsL.reverse ++ .ref b :: rest) (hW : 2 * g.monitorRoom + (rest.map fun v => v.category).sum ≤ W9) (hdg : decode c.code g.pc = .ok (.invokevirtual index, 3))
    (hpre : ∀ vm₁, s.WarmedH vm₁ → Pre ⟨T.setVm vm₁, locs, cells, slots⟩ (Value.ref b :: argsL).toArray) :
    (∃ (v : Option Value) (vm₁ : Vm) (B : Pt), s.WarmedH vm₁ ∧ Stand p l e R s m args below meth c B.U B.locs B.cells B.slots ∧ Post ⟨T.setVm vm₁, locs, cells, slots⟩ (Value.ref b :: argsL).toArray v B ∧
      ∀ target, Steps p.tables e below (B.U.setTop { g with pc := g.pc + 3, stack := v.toList ++ rest }) target → Steps p.tables e below (T.setTop g) target) ∨
    (∃ (q : Addr) (vm₁ : Vm) (B : Pt), s.WarmedH vm₁ ∧ Stand p l e R s m args below meth c B.U B.locs B.cells B.slots ∧ PostX ⟨T.setVm vm₁, locs, cells, slots⟩ (Value.ref b :: argsL).toArray q B ∧
      Steps p.tables e below (T.setTop g) ((B.U.setTop { g with stack := rest }).pushFrame (.throwing q))) := by
  obtain ⟨mk, methM, hnamed, hmethM, hstM, habM⟩ := Cond.instanceMethod_spec hinst
  obtain ⟨m8, methM', cM, hn8, hmethM', -, -, -, -, -, -, hsigM⟩ := Cond.codeWith_spec hcode
  cases Option.some.inj (hn8.symm.trans hnamed)
  cases hmethM.symm.trans hmethM'
  obtain ⟨c2, r2, m2, q1, q2, q3, q4, kP, hkP, hkPi⟩ := Cond.selects_spec hsel
  cases hcls.symm.trans q1
  cases (State.methodFound?_of_named hnamed hy).symm.trans q2
  cases hnamed.symm.trans q3
  have hselP : selectMethod e.platform s.vm cellB.cls mk = .method mk := by rw [Launch.admits_selectMethod X.admits]; exact q4
  obtain ⟨vm₁, X₁, hstep₁⟩ := X.invokevirtual hexec hown hlink hnamed hmethM hstM hkP hkPi hy (a := b) (cell := cellB) hcell
    (fun z h => by rw [h] at hobj; cases hobj) hselP hmethM habM hkP hkPi (g := g) hg (argsL := argsL) (rest := rest) (hlen _ hsigM) hstack hdg
  rcases hK m meth c ⟨T.setVm vm₁, locs, cells, slots⟩ { g with stack := rest } (.invokevirtual index) mk (Value.ref b :: argsL).toArray X₁ hg hsize hdg hW (X₁.named hnamed) (hpre vm₁ X₁.warmed) with ⟨v, B, X', hpost, hsteps⟩ | ⟨q, B, X', hpost, hsteps⟩
  · exact Or.inl ⟨v, vm₁, B, X₁.warmed, X', hpost, fun target h => hstep₁ _ fun acts => by rw [doInvoke_state]; exact hsteps.trans h⟩
  · exact Or.inr ⟨q, vm₁, B, X₁.warmed, X', hpost, hstep₁ _ fun acts => by rw [doInvoke_state]; exact hsteps⟩
theorem vx_callSX (X : Stand p l e R s m args below meth c T locs cells slots) (hexec : p.tables.exec = Jvm.exec) {own : String} {index : Nat} {y : MethodName} {bytes : ByteArray} {maxL : Nat} {ret : Option FieldType} {hh : List (Nat × Nat × Nat × Nat)}
    (hown : s.vm.findClass own = some m.cls) (hlink : (Cond.methodLink own index y).before args s = true) (hstat : (Cond.static y).before args s = true) (hinit : (Cond.initialized y.cls).before args s = true)
    (hcode : (Cond.codeWith y bytes maxL ret hh).before args s = true) (hy : y.cls ≠ "java/lang/invoke/MethodHandle" ∧ y.cls ≠ "java/lang/invoke/VarHandle")
    {W9 : Nat} {Pre : Pt → Array Value → Prop} {Post : Pt → Array Value → Option Value → Pt → Prop} {PostX : Pt → Array Value → Addr → Pt → Prop} (hK : vx_Back l R p e below s args y 3 W9 Pre Post PostX)
    {g : JFrame} (hg : g.method = m) (hsize : g.locals.size = c.maxLocals) {argsL rest : List Value} (hlen : ∀ sig, parseMethodDescriptor y.desc = some sig → argsL.length = sig.parameters.length)
    (hstack : g.stack = argsL.reverse ++ rest) (hW : 2 * g.monitorRoom + (rest.map fun v => v.category).sum ≤ W9) (hdg : decode c.code g.pc = .ok (.invokestatic index, 3))
    (hpre : ∀ vm₁, s.WarmedH vm₁ → Pre ⟨T.setVm vm₁, locs, cells, slots⟩ argsL.toArray) :
    (∃ (v : Option Value) (vm₁ : Vm) (B : Pt), s.WarmedH vm₁ ∧ Stand p l e R s m args below meth c B.U B.locs B.cells B.slots ∧ Post ⟨T.setVm vm₁, locs, cells, slots⟩ argsL.toArray v B ∧
      ∀ target, Steps p.tables e below (B.U.setTop { g with pc := g.pc + 3, stack := v.toList ++ rest }) target → Steps p.tables e below (T.setTop g) target) ∨
    (∃ (q : Addr) (vm₁ : Vm) (B : Pt), s.WarmedH vm₁ ∧ Stand p l e R s m args below meth c B.U B.locs B.cells B.slots ∧ PostX ⟨T.setVm vm₁, locs, cells, slots⟩ argsL.toArray q B ∧
      Steps p.tables e below (T.setTop g) ((B.U.setTop { g with stack := rest }).pushFrame (.throwing q))) := by
  obtain ⟨mk, methM, cM, hnamed, hmethM, -, -, -, -, -, -, hsigM⟩ := Cond.codeWith_spec hcode
  have hstatic : methM.isStatic = true := Cond.static_spec hnamed hmethM hstat
  obtain ⟨kP, hkP, -⟩ := className_of_methodNamed hnamed
  have hinitP : kP.init = .initialized := Cond.initialized_spec (findClass_of_methodNamed hnamed) hkP hinit
  obtain ⟨vm₁, X₁, hstep₁⟩ := X.invokestatic hexec hown hlink hnamed hmethM hstatic hkP hinitP hy (g := g) hg (argsL := argsL) (rest := rest) (hlen _ hsigM) hstack hdg
  rcases hK m meth c ⟨T.setVm vm₁, locs, cells, slots⟩ { g with stack := rest } (.invokestatic index) mk argsL.toArray X₁ hg hsize hdg hW (X₁.named hnamed) (hpre vm₁ X₁.warmed) with ⟨v, B, X', hpost, hsteps⟩ | ⟨q, B, X', hpost, hsteps⟩
  · exact Or.inl ⟨v, vm₁, B, X₁.warmed, X', hpost, fun target h => hstep₁ _ fun acts => by rw [doInvoke_state]; exact hsteps.trans h⟩
  · exact Or.inr ⟨q, vm₁, B, X₁.warmed, X', hpost, hstep₁ _ fun acts => by rw [doInvoke_state]; exact hsteps⟩
theorem vx_callVW (X : Stand p l e R s m args below meth c T locs cells slots) (hexec : p.tables.exec = Jvm.exec) {own C : String} {index : Nat} {y : MethodName} {bytes : ByteArray} {maxL : Nat} {ret : Option FieldType} {hh : List (Nat × Nat × Nat × Nat)}
    (hown : s.vm.findClass own = some m.cls) (hlink : (Cond.methodLink own index y).before args s = true) (hinst : (Cond.instanceMethod y).before args s = true) (hsel : (Cond.selects C y y).before args s = true)
    (hcode : (Cond.codeWith y bytes maxL ret hh).before args s = true) (hy : y.cls ≠ "java/lang/invoke/MethodHandle" ∧ y.cls ≠ "java/lang/invoke/VarHandle")
    {W9 : Nat} {Pre : Pt → Array Value → Prop} {Post : Pt → Array Value → Option Value → Pt → Prop} (hK : Back l R p e below s args y 3 W9 Pre Post)
    {b : Addr} {cellB : Cell} (hcell : T.heap[b]? = some cellB) (hobj : cellB.vm.isStatics = false) (hcls : s.vm.findClass C = some cellB.cls)
    {g : JFrame} (hg : g.method = m) (hsize : g.locals.size = c.maxLocals) {argsL rest : List Value} (hlen : ∀ sig, parseMethodDescriptor y.desc = some sig → argsL.length = sig.parameters.length)
    (hstack : g.stack = argsL.reverse ++ .ref b :: rest) (hW : 2 * g.monitorRoom + (rest.map fun v => v.category).sum ≤ W9) (hdg : decode c.code g.pc = .ok (.invokevirtual index, 3))
    (hpre : ∀ vm₁, s.WarmedH vm₁ → Pre ⟨T.setVm vm₁, locs, cells, slots⟩ (Value.ref b :: argsL).toArray) :
    ∃ (v : Option Value) (vm₁ : Vm) (B : Pt), s.WarmedH vm₁ ∧ Stand p l e R s m args below meth c B.U B.locs B.cells B.slots ∧ Post ⟨T.setVm vm₁, locs, cells, slots⟩ (Value.ref b :: argsL).toArray v B ∧
      ∀ target, Steps p.tables e below (B.U.setTop { g with pc := g.pc + 3, stack := v.toList ++ rest }) target → Steps p.tables e below (T.setTop g) target := by
  obtain ⟨mk, methM, hnamed, hmethM, hstM, habM⟩ := Cond.instanceMethod_spec hinst
  obtain ⟨m8, methM', cM, hn8, hmethM', -, -, -, -, -, -, hsigM⟩ := Cond.codeWith_spec hcode
  cases Option.some.inj (hn8.symm.trans hnamed)
  cases hmethM.symm.trans hmethM'
  obtain ⟨c2, r2, m2, q1, q2, q3, q4, kP, hkP, hkPi⟩ := Cond.selects_spec hsel
  cases hcls.symm.trans q1
  cases (State.methodFound?_of_named hnamed hy).symm.trans q2
  cases hnamed.symm.trans q3
  have hselP : selectMethod e.platform s.vm cellB.cls mk = .method mk := by rw [Launch.admits_selectMethod X.admits]; exact q4
  obtain ⟨vm₁, X₁, hstep₁⟩ := X.invokevirtual hexec hown hlink hnamed hmethM hstM hkP hkPi hy (a := b) (cell := cellB) hcell
    (fun z h => by rw [h] at hobj; cases hobj) hselP hmethM habM hkP hkPi (g := g) hg (argsL := argsL) (rest := rest) (hlen _ hsigM) hstack hdg
  obtain ⟨v, B, X', hpost, hsteps⟩ := hK m meth c ⟨T.setVm vm₁, locs, cells, slots⟩ { g with stack := rest } (.invokevirtual index) mk (Value.ref b :: argsL).toArray X₁ hg hsize hdg hW (X₁.named hnamed) (hpre vm₁ X₁.warmed)
  exact ⟨v, vm₁, B, X₁.warmed, X', hpost, fun target h => hstep₁ _ fun acts => by rw [doInvoke_state]; exact hsteps.trans h⟩
abbrev vx_CVW (R : Room) (s : State) (args : Array Value) (own C : String) (index : Nat) (y : MethodName) (bytes : ByteArray) (maxL : Nat) (ret : Option FieldType) (hh : List (Nat × Nat × Nat × Nat)) (ws : List Cond) (rm : Room) (mc ms n : Nat) : Prop :=
  (rm.cells = mc ∧ rm.slots = ms ∧ rm.frames + 1 ≤ R.frames ∧ 8 + (maxL + 11) + rm.locals ≤ R.locals ∧ (∀ w ∈ ws, ∀ (a' : Array Value) (U : State), s.WarmedH U.vm → w.before a' U = true) ∧ Cond.codeWith y bytes maxL ret hh ∈ ws) ∧
  (Cond.codeWith y bytes maxL ret hh).before args s = true ∧ (Cond.initialized y.cls).before args s = true ∧ (y.cls ≠ "java/lang/invoke/MethodHandle" ∧ y.cls ≠ "java/lang/invoke/VarHandle") ∧
  (∀ sig, parseMethodDescriptor y.desc = some sig → n = sig.parameters.length) ∧ (Cond.methodLink own index y).before args s = true ∧ (Cond.instanceMethod y).before args s = true ∧ (Cond.selects C y y).before args s = true
theorem vx_cwVW {own C : String} {index maxL mc ms : Nat} {y : MethodName} {bytes : ByteArray} {ret : Option FieldType} {hh : List (Nat × Nat × Nat × Nat)} {Ts ws ws' : List Cond} {rm : Room} (n : Nat) (ht : ∀ w ∈ Ts, w.before args s = true) (hT : GoodIn Ts (wsV own index C y ws)) (hw : ws = Cond.codeWith y bytes maxL ret hh :: ws') (hrc : rm.cells = mc) (hrs : rm.slots = ms)
    (hd : y.cls = C ∧ y.cls ≠ "java/lang/invoke/MethodHandle" ∧ y.cls ≠ "java/lang/invoke/VarHandle" ∧ (parseMethodDescriptor y.desc).map (fun d => d.parameters.length) = some n) (hR : rm.frames + 1 ≤ R.frames ∧ 8 + (maxL + 11) + rm.locals ≤ R.locals) :
    vx_CVW R s args own C index y bytes maxL ret hh ws rm mc ms n := by
  obtain ⟨hC, hd⟩ := hd
  subst hC
  have ok : ∀ w ∈ wsV own index y.cls y ws, w.before args s = true := fun w h => ht w (hT w h).1
  have hG : GoodIn Ts ws := fun w h => hT w (by unfold wsV; exact List.mem_append_right _ h)
  have hc : Cond.codeWith y bytes maxL ret hh ∈ ws := by rw [hw]; exact List.mem_cons_self
  refine ⟨⟨hrc, hrs, hR.1, hR.2, pay_in ht hG, hc⟩, ht _ (hG _ hc).1, ok _ (by simp [wsV]), ⟨hd.1, hd.2.1⟩, fun sig h => ?_, ok _ (by simp [wsV]), ok _ (by simp [wsV]), ok _ (by simp [wsV])⟩
  have h2 := hd.2.2
  rw [h] at h2
  exact (Option.some.inj h2).symm
theorem vx_runVW {y : MethodName} {bytes cc : ByteArray} {maxL nL mc ms n index : Nat} {ret : Option FieldType} {hh : List (Nat × Nat × Nat × Nat)} {ws : List Cond} {rm : Room} {Pc : Array Value → State → Prop} {Qc : Array Value → State → Outcome → State → Prop} {free : Addr → Prop} {Ts : List Cond} {own C : String} {b : Addr} {As rest : List Value} {g : JFrame}
    (S : CallFix p m c cc nL s args Ts own) (hM : Met l y ws rm Pc Qc mc ms free) (cw : vx_CVW R s args own C index y bytes maxL ret hh ws rm mc ms n) (hp : PreV s H C b Pc As)
    (hg : g.method = m) (hn : As.length = n) (hsize : g.locals.size = nL) (hstack : g.stack = As.reverse ++ .ref b :: rest) (hW : 2 * g.monitorRoom + (rest.map fun v => v.category).sum ≤ 8) (hdg : decode cc g.pc = .ok (.invokevirtual index, 3)) (hf : cells + mc ≤ R.cells ∧ slots + ms ≤ R.slots) :
    va_Run p l e R s m args below meth c H locs cells slots mc ms g rest (Qc (Value.ref b :: As).toArray) free := by
  obtain ⟨⟨hrc, hrs, hfr, hlo, hws, hcw⟩, hcode, hini, hy, hlen, hl, hin, hse⟩ := cw
  have hK : Back l R p e below s args y 3 8 (PreOf R mc ms Pc) (PostOf Qc mc ms free) := va_backW (hh := hh) (bytes := bytes) (maxL := maxL) (ret := ret) hM hp.1 hrc hrs hfr hlo hws hcw (fun a' U hW => word_at hW (Or.inl (by first | rfl | simp [Cond.onTables, Cond.keeps, Cond.steady])) hini)
  obtain ⟨hx, hb, hml, ho, -⟩ := S
  obtain ⟨-, ⟨cellB, hcB, hoB, hclB⟩, hPc⟩ := hp
  intro T hT X
  obtain ⟨v, vm₁, ⟨U', l2, c2, s2⟩, hW₁, X', ⟨g', mk, t, L, e1, e2, hq, h1, hL, h2, h3⟩, st⟩ := vx_callVW X hx (C := C) (hh := hh) (bytes := bytes) (maxL := maxL) (ret := ret) ho hl hin hse hcode hy hK (by rw [hT]; exact hcB) hoB hclB hg (hsize.trans hml.symm) (argsL := As) (rest := rest) (fun sig h => hn.trans (hlen sig h)) hstack hW (by rw [hb]; exact hdg)
    (fun vm₁ hW₁ => ⟨hf.1, hf.2, hPc (T.setVm vm₁) hT hW₁⟩)
  dsimp only [Pt.U, Pt.locs, Pt.cells, Pt.slots] at X' e1 e2 h1 h2 h3 st
  subst h1; subst h2; subst h3
  exact ⟨v, (T.setVm vm₁).calling g' mk (Value.ref b :: As).toArray, t, U', L, hT, X', hL, e1, e2, hq, st⟩
section
variable {y : MethodName} {bytes cc : ByteArray} {maxL nL mc ms n index : Nat} {ret : Option FieldType} {ws : List Cond} {rm : Room} {Pc : Array Value → State → Prop} {Qc : Array Value → State → Outcome → State → Prop} {XC : String → State → State → Prop} {free : Addr → Prop} {Ts : List Cond} {own C : String} {b : Addr} {As rest : List Value} {g : JFrame}
theorem vx_runVX {hh : List (Nat × Nat × Nat × Nat)} (S : CallFix p m c cc nL s args Ts own) (hM : vx_Met l y ws rm Pc Qc XC mc ms free) (cw : vx_CVW R s args own C index y bytes maxL ret hh ws rm mc ms n) (hp : PreV s H C b Pc As)
    (hg : g.method = m) (hn : As.length = n) (hsize : g.locals.size = nL) (hstack : g.stack = As.reverse ++ .ref b :: rest) (hW : 2 * g.monitorRoom + (rest.map fun v => v.category).sum ≤ 8) (hdg : decode cc g.pc = .ok (.invokevirtual index, 3)) (hf : cells + mc ≤ R.cells ∧ slots + ms ≤ R.slots) :
    vx_Run p l e R s m args below meth c H locs cells slots mc ms g rest (Qc (Value.ref b :: As).toArray) XC free := by
  obtain ⟨⟨hrc, hrs, hfr, hlo, hws, hcw⟩, hcode, hini, hy, hlen, hl, hin, hse⟩ := cw
  have hK : vx_Back l R p e below s args y 3 8 (PreOf R mc ms Pc) (PostOf Qc mc ms free) (vx_Post XC mc ms free) := vx_backW (hh := hh) (bytes := bytes) (maxL := maxL) (ret := ret) hM hp.1 hrc hrs hfr hlo hws hcw (fun a' U hW => word_at hW (Or.inl (by first | rfl | simp [Cond.onTables, Cond.keeps, Cond.steady])) hini)
  obtain ⟨hx, hb, hml, ho, -⟩ := S
  obtain ⟨-, ⟨cellB, hcB, hoB, hclB⟩, hPc⟩ := hp
  intro T hT X
  rcases vx_callVX X hx (C := C) (hh := hh) (bytes := bytes) (maxL := maxL) (ret := ret) ho hl hin hse hcode hy hK (by rw [hT]; exact hcB) hoB hclB hg (hsize.trans hml.symm) (argsL := As) (rest := rest) (fun sig h => hn.trans (hlen sig h)) hstack hW (by rw [hb]; exact hdg)
    (fun vm₁ hW₁ => ⟨hf.1, hf.2, hPc (T.setVm vm₁) hT hW₁⟩) with ⟨v, vm₁, ⟨U', l2, c2, s2⟩, hW₁, X', ⟨g', mk, t, L, e1, e2, hq, h1, hL, h2, h3⟩, st⟩ | ⟨q, vm₁, ⟨U', l2, c2, s2⟩, hW₁, X', ⟨g', mk, t, L, E, ce, e1, e2, hq, hce, hcv, hcl, h1, hL, h2, h3⟩, st⟩
  · dsimp only [Pt.U, Pt.locs, Pt.cells, Pt.slots] at X' e1 e2 h1 h2 h3 st
    subst h1; subst h2; subst h3
    exact Or.inl ⟨v, (T.setVm vm₁).calling g' mk (Value.ref b :: As).toArray, t, U', L, hT, X', hL, e1, e2, hq, st⟩
  · dsimp only [Pt.U, Pt.locs, Pt.cells, Pt.slots] at X' e1 e2 h1 h2 h3 st hcl
    subst h1; subst h2; subst h3
    exact Or.inr ⟨q, (T.setVm vm₁).calling g' mk (Value.ref b :: As).toArray, t, U', L, E, ce, hT, X', hL, e1, e2, hq, hce, hcv, vx_cls hW₁ hcl, st⟩
theorem vx_runSX {hh : List (Nat × Nat × Nat × Nat)} (S : CallFix p m c cc nL s args Ts own) (hM : vx_Met l y ws rm Pc Qc XC mc ms free) (cw : vx_CSW R s args own index y bytes maxL ret hh ws rm mc ms n) (hp : PreS s H Pc As)
    (hg : g.method = m) (hn : As.length = n) (hsize : g.locals.size = nL) (hstack : g.stack = As.reverse ++ rest) (hW : 2 * g.monitorRoom + (rest.map fun v => v.category).sum ≤ 8) (hdg : decode cc g.pc = .ok (.invokestatic index, 3)) (hf : cells + mc ≤ R.cells ∧ slots + ms ≤ R.slots) :
    vx_Run p l e R s m args below meth c H locs cells slots mc ms g rest (Qc As.toArray) XC free := by
  obtain ⟨⟨hrc, hrs, hfr, hlo, hws, hcw⟩, hcode, hini, hy, hlen, hl, hstt⟩ := cw
  have hK : vx_Back l R p e below s args y 3 8 (PreOf R mc ms Pc) (PostOf Qc mc ms free) (vx_Post XC mc ms free) := vx_backW (hh := hh) (bytes := bytes) (maxL := maxL) (ret := ret) hM hp.1 hrc hrs hfr hlo hws hcw (fun a' U hW => word_at hW (Or.inl (by first | rfl | simp [Cond.onTables, Cond.keeps, Cond.steady])) hini)
  obtain ⟨hx, hb, hml, ho, -⟩ := S
  intro T hT X
  rcases vx_callSX X hx (hh := hh) (bytes := bytes) (maxL := maxL) (ret := ret) ho hl hstt hini hcode hy hK hg (hsize.trans hml.symm) (argsL := As) (rest := rest) (fun sig h => hn.trans (hlen sig h)) hstack hW (by rw [hb]; exact hdg)
    (fun vm₁ hW₁ => ⟨hf.1, hf.2, hp.2 (T.setVm vm₁) hT hW₁⟩) with ⟨v, vm₁, ⟨U', l2, c2, s2⟩, hW₁, X', ⟨g', mk, t, L, e1, e2, hq, h1, hL, h2, h3⟩, st⟩ | ⟨q, vm₁, ⟨U', l2, c2, s2⟩, hW₁, X', ⟨g', mk, t, L, E, ce, e1, e2, hq, hce, hcv, hcl, h1, hL, h2, h3⟩, st⟩
  · dsimp only [Pt.U, Pt.locs, Pt.cells, Pt.slots] at X' e1 e2 h1 h2 h3 st
    subst h1; subst h2; subst h3
    exact Or.inl ⟨v, (T.setVm vm₁).calling g' mk As.toArray, t, U', L, hT, X', hL, e1, e2, hq, st⟩
  · dsimp only [Pt.U, Pt.locs, Pt.cells, Pt.slots] at X' e1 e2 h1 h2 h3 st hcl
    subst h1; subst h2; subst h3
    exact Or.inr ⟨q, (T.setVm vm₁).calling g' mk As.toArray, t, U', L, E, ce, hT, X', hL, e1, e2, hq, hce, hcv, vx_cls hW₁ hcl, st⟩
end
end VXH
theorem vx_ofWH {l : Launch} {y : MethodName} {ws ws' : List Cond} {rm : Room} {Pc : Array Value → State → Prop} {Qc : Array Value → State → Outcome → State → Prop} {XC : String → State → State → Prop} {mc ms : Nat} {free : Addr → Prop} {cc : ByteArray} {maxL : Nat} {ret : Option FieldType} {hh : List (Nat × Nat × Nat × Nat)}
    (hy : plainName y.cls = true) (hw : ws = Cond.codeWith y cc maxL ret hh :: ws')
    (body : ∀ p e s m args below meth c s₁, BodyLoose p l y (headSpec ws rm) cc maxL ret e s m args below meth c s₁ → c.maxLocals = maxL → Pc args s →
      W p l e (headSpec ws rm).room s m args below meth c s.heap [] 0 0 (vx_MQ below Qc XC args s mc ms free) (entryFrame m args maxL)) : vx_Met l y ws rm Pc Qc XC mc ms free := by
  refine MetFree.of_bodyS (code := cc) (maxLocals := maxL) (ret := ret) hy ?_ ?_
  · intro args s m h hn
    obtain ⟨m9, meth, c, hn9, h1, h2, h3, h4, -, h5, h6, -⟩ := Cond.codeWith_spec (atoms_spec (ws := ws) h _ (by rw [hw]; exact List.mem_cons_self))
    cases hn.symm.trans hn9
    exact ⟨meth, c, h1, h2, h3, h4, h5, h6⟩
  · intro p e s m args below meth c s₁ B hml hP _
    have hh0 : s₁.heap = s.heap := by rw [B.state]; rfl
    obtain ⟨t, a1, o, b1, b2, b3⟩ := body p e s m args below meth c s₁ B hml hP s₁ hh0 (Stand.of_body B)
    exact ⟨t, o, a1, b1, b2, b3⟩
/-! ===== END ===== -/
end
section
/-! ===== BEGIN printed: names, fields, word lists, decode rows ===== -/
def RX0 : String := "Queuefloat$Limits"
def TX0 : u_T := fun k => match k with
  | 0 => ("Queuefloat$Limits", "floorOf", "[I", true)
  | _ => ("Queuefloat$Limits", "boundOf", "[I", true)
def tyX0 : Nat → FieldType := fun k => match k with
  | 0 => .array .int
  | _ => .array .int
abbrev wsX00 : List Cond := u_ws RX0 TX0 2
theorem nmX0 : ∀ a, a < 2 → ∀ b, b < 2 → a ≠ b → (TX0 a).2.1 ≠ (TX0 b).2.1 := by decide +kernel
theorem tyX0_ok : ∀ k, k < 2 → parseFieldDescriptor (TX0 k).2.2.1 = some (tyX0 k) := by decide +kernel
abbrev cX0_init : ByteArray := prog_2_method_1_code
def yX0_init : MethodName := ⟨RX0, "<init>", "()V"⟩
abbrev cX0_allow : ByteArray := prog_2_method_2_code
def yX0_allow : MethodName := ⟨RX0, "allow", "(LQueuefloat$Sums;)Z"⟩
def RX1 : String := "Queuefloat$Loans"
def TX1 : u_T := fun k => match k with
  | 0 => ("Queuefloat$Loans", "lender", "[I", true)
  | 1 => ("Queuefloat$Loans", "borrower", "[I", true)
  | 2 => ("Queuefloat$Loans", "due", "[I", true)
  | 3 => ("Queuefloat$Loans", "pledge", "[I", true)
  | 4 => ("Queuefloat$Loans", "made", "I", false)
  | _ => ("Queuefloat$Loans", "ended", "I", false)
def tyX1 : Nat → FieldType := fun k => match k with
  | 0 => .array .int
  | 1 => .array .int
  | 2 => .array .int
  | 3 => .array .int
  | 4 => .int
  | _ => .int
abbrev wsX10 : List Cond := u_ws RX1 TX1 6
theorem nmX1 : ∀ a, a < 6 → ∀ b, b < 6 → a ≠ b → (TX1 a).2.1 ≠ (TX1 b).2.1 := by decide +kernel
theorem tyX1_ok : ∀ k, k < 6 → parseFieldDescriptor (TX1 k).2.2.1 = some (tyX1 k) := by decide +kernel
abbrev cX1_init : ByteArray := prog_3_method_1_code
def yX1_init : MethodName := ⟨RX1, "<init>", "()V"⟩
abbrev cX1_enter : ByteArray := prog_3_method_2_code
def yX1_enter : MethodName := ⟨RX1, "enter", "(IIII)I"⟩
def RX2 : String := "Queuefloat$Payments"
def TX2 : u_T := fun k => match k with
  | 0 => ("Queuefloat$Payments", "from", "[I", true)
  | 1 => ("Queuefloat$Payments", "to", "[I", true)
  | 2 => ("Queuefloat$Payments", "amount", "[I", true)
  | 3 => ("Queuefloat$Payments", "priorityOf", "[I", true)
  | 4 => ("Queuefloat$Payments", "waits", "[Z", true)
  | 5 => ("Queuefloat$Payments", "byPriority", "[I", true)
  | _ => ("Queuefloat$Payments", "made", "I", false)
def tyX2 : Nat → FieldType := fun k => match k with
  | 0 => .array .int
  | 1 => .array .int
  | 2 => .array .int
  | 3 => .array .int
  | 4 => .array .boolean
  | 5 => .array .int
  | _ => .int
abbrev wsX20 : List Cond := u_ws RX2 TX2 7
theorem nmX2 : ∀ a, a < 7 → ∀ b, b < 7 → a ≠ b → (TX2 a).2.1 ≠ (TX2 b).2.1 := by decide +kernel
theorem tyX2_ok : ∀ k, k < 7 → parseFieldDescriptor (TX2 k).2.2.1 = some (tyX2 k) := by decide +kernel
abbrev cX2_init : ByteArray := prog_4_method_1_code
def yX2_init : MethodName := ⟨RX2, "<init>", "()V"⟩
abbrev cX2_enter : ByteArray := prog_4_method_2_code
def yX2_enter : MethodName := ⟨RX2, "enter", "(IIII)I"⟩
abbrev cX2_apply : ByteArray := prog_4_method_3_code
def yX2_apply : MethodName := ⟨RX2, "apply", "(ILQueuefloat$Sums;)V"⟩
abbrev cX2_waitsAt : ByteArray := prog_4_method_4_code
def yX2_waitsAt : MethodName := ⟨RX2, "waitsAt", "(II)Z"⟩
abbrev cX2_inQueue : ByteArray := prog_4_method_5_code
def yX2_inQueue : MethodName := ⟨RX2, "inQueue", "(II)I"⟩
abbrev cX2_countWaiting : ByteArray := prog_4_method_6_code
def yX2_countWaiting : MethodName := ⟨RX2, "countWaiting", "()I"⟩
abbrev cX2_dropAllOf : ByteArray := prog_4_method_7_code
def yX2_dropAllOf : MethodName := ⟨RX2, "dropAllOf", "(I)V"⟩
def RX3 : String := "Queuefloat$Sums"
def TX3 : u_T := fun k => match k with
  | 0 => ("Queuefloat$Sums", "accountOf", "[I", true)
  | _ => ("Queuefloat$Sums", "netPaid", "[I", true)
def tyX3 : Nat → FieldType := fun k => match k with
  | 0 => .array .int
  | _ => .array .int
abbrev wsX30 : List Cond := u_ws RX3 TX3 2
theorem nmX3 : ∀ a, a < 2 → ∀ b, b < 2 → a ≠ b → (TX3 a).2.1 ≠ (TX3 b).2.1 := by decide +kernel
theorem tyX3_ok : ∀ k, k < 2 → parseFieldDescriptor (TX3 k).2.2.1 = some (tyX3 k) := by decide +kernel
abbrev cX3_init : ByteArray := prog_5_method_1_code
def yX3_init : MethodName := ⟨RX3, "<init>", "()V"⟩
abbrev cX3_move : ByteArray := prog_5_method_2_code
def yX3_move : MethodName := ⟨RX3, "move", "(III)V"⟩
abbrev cX3_notePaid : ByteArray := prog_5_method_3_code
def yX3_notePaid : MethodName := ⟨RX3, "notePaid", "(III)V"⟩
abbrev cX3_forgetPaid : ByteArray := prog_5_method_4_code
def yX3_forgetPaid : MethodName := ⟨RX3, "forgetPaid", "()V"⟩
abbrev cX3_copy : ByteArray := prog_5_method_5_code
def yX3_copy : MethodName := ⟨RX3, "copy", "(LQueuefloat$Sums;)V"⟩
def RX4 : String := "Queuefloat"
def TX4 : u_T := fun k => match k with
  | 0 => ("Queuefloat", "sums", "LQueuefloat$Sums;", true)
  | 1 => ("Queuefloat", "trial", "LQueuefloat$Sums;", true)
  | 2 => ("Queuefloat", "limits", "LQueuefloat$Limits;", true)
  | 3 => ("Queuefloat", "payments", "LQueuefloat$Payments;", true)
  | 4 => ("Queuefloat", "market", "LQueuefloat$Loans;", true)
  | 5 => ("Queuefloat", "closed", "[Z", true)
  | 6 => ("Queuefloat", "papersOf", "[I", true)
  | 7 => ("Queuefloat", "candidates", "[I", true)
  | 8 => ("Queuefloat", "small", "I", false)
  | 9 => ("Queuefloat", "paperPrice", "I", false)
  | 10 => ("Queuefloat", "paperCut", "I", false)
  | _ => ("Queuefloat", "proceeds", "I", false)
def tyX4 : Nat → FieldType := fun k => match k with
  | 0 => .object "Queuefloat$Sums"
  | 1 => .object "Queuefloat$Sums"
  | 2 => .object "Queuefloat$Limits"
  | 3 => .object "Queuefloat$Payments"
  | 4 => .object "Queuefloat$Loans"
  | 5 => .array .boolean
  | 6 => .array .int
  | 7 => .array .int
  | 8 => .int
  | 9 => .int
  | 10 => .int
  | _ => .int
abbrev wsX40 : List Cond := u_ws RX4 TX4 12
theorem nmX4 : ∀ a, a < 12 → ∀ b, b < 12 → a ≠ b → (TX4 a).2.1 ≠ (TX4 b).2.1 := by decide +kernel
theorem tyX4_ok : ∀ k, k < 12 → parseFieldDescriptor (TX4 k).2.2.1 = some (tyX4 k) := by decide +kernel
abbrev cX4_init : ByteArray := prog_1_method_1_code
def yX4_init : MethodName := ⟨RX4, "<init>", "()V"⟩
abbrev cX4_fund : ByteArray := prog_1_method_2_code
def yX4_fund : MethodName := ⟨RX4, "fund", "(II)I"⟩
abbrev cX4_setFloor : ByteArray := prog_1_method_3_code
def yX4_setFloor : MethodName := ⟨RX4, "setFloor", "(II)I"⟩
abbrev cX4_setBound : ByteArray := prog_1_method_4_code
def yX4_setBound : MethodName := ⟨RX4, "setBound", "(III)I"⟩
abbrev cX4_givePapers : ByteArray := prog_1_method_5_code
def yX4_givePapers : MethodName := ⟨RX4, "givePapers", "(II)I"⟩
abbrev cX4_account : ByteArray := prog_1_method_6_code
def yX4_account : MethodName := ⟨RX4, "account", "(I)I"⟩
abbrev cX4_papers : ByteArray := prog_1_method_7_code
def yX4_papers : MethodName := ⟨RX4, "papers", "(I)I"⟩
abbrev cX4_isOpen : ByteArray := prog_1_method_8_code
def yX4_isOpen : MethodName := ⟨RX4, "isOpen", "(I)Z"⟩
abbrev cX4_paid : ByteArray := prog_1_method_9_code
def yX4_paid : MethodName := ⟨RX4, "paid", "(II)I"⟩
abbrev cX4_pay : ByteArray := prog_1_method_10_code
def yX4_pay : MethodName := ⟨RX4, "pay", "(IIII)I"⟩
abbrev cX4_drop : ByteArray := prog_1_method_11_code
def yX4_drop : MethodName := ⟨RX4, "drop", "(I)I"⟩
abbrev cX4_setSmall : ByteArray := prog_1_method_12_code
def yX4_setSmall : MethodName := ⟨RX4, "setSmall", "(I)I"⟩
abbrev cX4_run : ByteArray := prog_1_method_13_code
def yX4_run : MethodName := ⟨RX4, "run", "()I"⟩
abbrev cX4_queued : ByteArray := prog_1_method_14_code
def yX4_queued : MethodName := ⟨RX4, "queued", "(II)I"⟩
abbrev cX4_why : ByteArray := prog_1_method_15_code
def yX4_why : MethodName := ⟨RX4, "why", "(I)I"⟩
abbrev cX4_canAny : ByteArray := prog_1_method_16_code
def yX4_canAny : MethodName := ⟨RX4, "canAny", "()Z"⟩
abbrev cX4_setPrice : ByteArray := prog_1_method_17_code
def yX4_setPrice : MethodName := ⟨RX4, "setPrice", "(II)V"⟩
abbrev cX4_lend : ByteArray := prog_1_method_18_code
def yX4_lend : MethodName := ⟨RX4, "lend", "(IIIII)I"⟩
abbrev cX4_loans : ByteArray := prog_1_method_19_code
def yX4_loans : MethodName := ⟨RX4, "loans", "()I"⟩
abbrev cX4_morning : ByteArray := prog_1_method_20_code
def yX4_morning : MethodName := ⟨RX4, "morning", "()I"⟩
abbrev cX4_sold : ByteArray := prog_1_method_21_code
def yX4_sold : MethodName := ⟨RX4, "sold", "()I"⟩
abbrev cX4_requireBank : ByteArray := prog_1_method_22_code
def yX4_requireBank : MethodName := ⟨RX4, "requireBank", "(I)V"⟩
abbrev cX4_requireTwo : ByteArray := prog_1_method_23_code
def yX4_requireTwo : MethodName := ⟨RX4, "requireTwo", "(II)V"⟩
abbrev cX4_requireRange : ByteArray := prog_1_method_24_code
def yX4_requireRange : MethodName := ⟨RX4, "requireRange", "(III)V"⟩
abbrev cX4_requireOpen : ByteArray := prog_1_method_25_code
def yX4_requireOpen : MethodName := ⟨RX4, "requireOpen", "(I)V"⟩
abbrev cX4_requirePayment : ByteArray := prog_1_method_26_code
def yX4_requirePayment : MethodName := ⟨RX4, "requirePayment", "(I)V"⟩
abbrev cX4_requireLoanable : ByteArray := prog_1_method_27_code
def yX4_requireLoanable : MethodName := ⟨RX4, "requireLoanable", "(IIII)V"⟩
abbrev cX4_pairOf : ByteArray := prog_1_method_28_code
def yX4_pairOf : MethodName := ⟨RX4, "pairOf", "(II)I"⟩
abbrev cX4_obstacle : ByteArray := prog_1_method_29_code
def yX4_obstacle : MethodName := ⟨RX4, "obstacle", "(I)I"⟩
abbrev cX4_send : ByteArray := prog_1_method_30_code
def yX4_send : MethodName := ⟨RX4, "send", "(I)V"⟩
abbrev cX4_goThroughBanks : ByteArray := prog_1_method_31_code
def yX4_goThroughBanks : MethodName := ⟨RX4, "goThroughBanks", "()I"⟩
abbrev cX4_nextToGo : ByteArray := prog_1_method_32_code
def yX4_nextToGo : MethodName := ⟨RX4, "nextToGo", "(I)I"⟩
abbrev cX4_firstSmallFree : ByteArray := prog_1_method_33_code
def yX4_firstSmallFree : MethodName := ⟨RX4, "firstSmallFree", "(I)I"⟩
abbrev cX4_sendLargestSet : ByteArray := prog_1_method_34_code
def yX4_sendLargestSet : MethodName := ⟨RX4, "sendLargestSet", "()I"⟩
abbrev cX4_listWaiting : ByteArray := prog_1_method_35_code
def yX4_listWaiting : MethodName := ⟨RX4, "listWaiting", "()I"⟩
abbrev cX4_canGoTogether : ByteArray := prog_1_method_36_code
def yX4_canGoTogether : MethodName := ⟨RX4, "canGoTogether", "(II)Z"⟩
abbrev cX4_isIn : ByteArray := prog_1_method_37_code
def yX4_isIn : MethodName := ⟨RX4, "isIn", "(II)Z"⟩
abbrev cX4_pledgeWorth : ByteArray := prog_1_method_38_code
def yX4_pledgeWorth : MethodName := ⟨RX4, "pledgeWorth", "(I)I"⟩
abbrev cX4_canRepay : ByteArray := prog_1_method_39_code
def yX4_canRepay : MethodName := ⟨RX4, "canRepay", "(I)Z"⟩
abbrev cX4_repay : ByteArray := prog_1_method_40_code
def yX4_repay : MethodName := ⟨RX4, "repay", "(I)V"⟩
abbrev cX4_close : ByteArray := prog_1_method_41_code
def yX4_close : MethodName := ⟨RX4, "close", "(I)I"⟩
abbrev cX4_sellPledge : ByteArray := prog_1_method_42_code
def yX4_sellPledge : MethodName := ⟨RX4, "sellPledge", "(I)V"⟩
def RX5 : String := "QueuefloatModel"
def TX5 : u_T := fun k => match k with
  | _ => ("", "", "", false)
def tyX5 : Nat → FieldType := fun k => match k with
  | _ => .int
abbrev wsX50 : List Cond := u_ws RX5 TX5 0
theorem nmX5 : ∀ a, a < 0 → ∀ b, b < 0 → a ≠ b → (TX5 a).2.1 ≠ (TX5 b).2.1 := by decide +kernel
theorem tyX5_ok : ∀ k, k < 0 → parseFieldDescriptor (TX5 k).2.2.1 = some (tyX5 k) := by decide +kernel
def RJ6 : String := "java/lang/Integer"
def TJ6 : u_T := fun k => match k with
  | _ => ("", "", "", false)
def tyJ6 : Nat → FieldType := fun k => match k with
  | _ => .int
abbrev wsJ60 : List Cond := u_ws RJ6 TJ6 0
theorem nmJ6 : ∀ a, a < 0 → ∀ b, b < 0 → a ≠ b → (TJ6 a).2.1 ≠ (TJ6 b).2.1 := by decide +kernel
theorem tyJ6_ok : ∀ k, k < 0 → parseFieldDescriptor (TJ6 k).2.2.1 = some (tyJ6 k) := by decide +kernel
abbrev cJ6_bitCount_0f7a4 : ByteArray := prog_12_method_49_code
def yJ6_bitCount_0f7a4 : MethodName := ⟨RJ6, "bitCount", "(I)I"⟩
def RJ9 : String := "java/lang/Math"
def TJ9 : u_T := fun k => match k with
  | _ => ("", "", "", false)
def tyJ9 : Nat → FieldType := fun k => match k with
  | _ => .int
abbrev wsJ90 : List Cond := u_ws RJ9 TJ9 0
theorem nmJ9 : ∀ a, a < 0 → ∀ b, b < 0 → a ≠ b → (TJ9 a).2.1 ≠ (TJ9 b).2.1 := by decide +kernel
theorem tyJ9_ok : ∀ k, k < 0 → parseFieldDescriptor (TJ9 k).2.2.1 = some (tyJ9 k) := by decide +kernel
abbrev cJ9_max_7cf53 : ByteArray := prog_13_method_65_code
def yJ9_max_7cf53 : MethodName := ⟨RJ9, "max", "(II)I"⟩
abbrev cJ9_min_7cf53 : ByteArray := prog_13_method_69_code
def yJ9_min_7cf53 : MethodName := ⟨RJ9, "min", "(II)I"⟩
def RJ0 : String := "java/lang/String"
def TJ0 : u_T := fun k => match k with
  | _ => ("", "", "", false)
def tyJ0 : Nat → FieldType := fun k => match k with
  | _ => .int
abbrev wsJ00 : List Cond := u_ws RJ0 TJ0 0
theorem nmJ0 : ∀ a, a < 0 → ∀ b, b < 0 → a ≠ b → (TJ0 a).2.1 ≠ (TJ0 b).2.1 := by decide +kernel
theorem tyJ0_ok : ∀ k, k < 0 → parseFieldDescriptor (TJ0 k).2.2.1 = some (tyJ0 k) := by decide +kernel
def RJ10 : String := "java/lang/System"
def TJ10 : u_T := fun k => match k with
  | _ => ("", "", "", false)
def tyJ10 : Nat → FieldType := fun k => match k with
  | _ => .int
abbrev wsJ100 : List Cond := u_ws RJ10 TJ10 0
theorem nmJ10 : ∀ a, a < 0 → ∀ b, b < 0 → a ≠ b → (TJ10 a).2.1 ≠ (TJ10 b).2.1 := by decide +kernel
theorem tyJ10_ok : ∀ k, k < 0 → parseFieldDescriptor (TJ10 k).2.2.1 = some (tyJ10 k) := by decide +kernel
def RL : String := "QueuefloatLaw"
abbrev cL_cell : ByteArray := method_2_code
def yL_cell : MethodName := ⟨RL, "cell", "([II)I"⟩
abbrev cL_some : ByteArray := method_3_code
def yL_some : MethodName := ⟨RL, "some", "(II)I"⟩
abbrev cL_call : ByteArray := method_4_code
def yL_call : MethodName := ⟨RL, "call", "(LQueuefloat;IIIII)I"⟩
abbrev cL_lend : ByteArray := method_5_code
def yL_lend : MethodName := ⟨RL, "lend", "(LQueuefloat;IIIII)I"⟩
abbrev cL_does : ByteArray := method_6_code
def yL_does : MethodName := ⟨RL, "does", "(LQueuefloat;IIIII)I"⟩
abbrev cL_all : ByteArray := method_7_code
def yL_all : MethodName := ⟨RL, "all", "(LQueuefloat;I)J"⟩
abbrev cL_kept : ByteArray := method_8_code
def yL_kept : MethodName := ⟨RL, "kept", "(LQueuefloat;I)Z"⟩
abbrev cL_sets : ByteArray := method_9_code
def yL_sets : MethodName := ⟨RL, "sets", "(LQueuefloat;IIIZ)Z"⟩
abbrev cL_pays : ByteArray := method_10_code
def yL_pays : MethodName := ⟨RL, "pays", "(LQueuefloat;IIIZ)I"⟩
abbrev cL_runs : ByteArray := method_11_code
def yL_runs : MethodName := ⟨RL, "runs", "(LQueuefloat;I)Z"⟩
abbrev cL_lends : ByteArray := method_12_code
def yL_lends : MethodName := ⟨RL, "lends", "(LQueuefloat;IIIZ)Z"⟩
abbrev cL_comes : ByteArray := method_13_code
def yL_comes : MethodName := ⟨RL, "comes", "(LQueuefloat;I)Z"⟩
abbrev cL_law : ByteArray := code
def yL_law : MethodName := ⟨RL, "law", "([I)Z"⟩
def wsX0_init : List Cond := .code yX0_init cX0_init 2 none :: ([.methodLink RX0 3 objectInit, .instanceMethod objectInit, .code objectInit ⟨#[0xb1]⟩ 1 none, .arrayClass .int, .fieldLink RX0 9 "Queuefloat$Limits" "floorOf" "[I", .fieldLink RX0 15 "Queuefloat$Limits" "boundOf" "[I", .constant RX0 18 (1000000)] ++ wsX00)
def wsX0_allow : List Cond := .code yX0_allow cX0_allow 3 (some .boolean) :: ([.fieldLink RX0 19 "Queuefloat$Sums" "accountOf" "[I", .fieldLink RX0 9 "Queuefloat$Limits" "floorOf" "[I", .fieldLink RX0 24 "Queuefloat$Sums" "netPaid" "[I", .fieldLink RX0 15 "Queuefloat$Limits" "boundOf" "[I"] ++ wsX30 ++ wsX00)
def wsX1_init : List Cond := .code yX1_init cX1_init 1 none :: ([.methodLink RX1 3 objectInit, .instanceMethod objectInit, .code objectInit ⟨#[0xb1]⟩ 1 none, .arrayClass .int, .fieldLink RX1 9 "Queuefloat$Loans" "lender" "[I", .fieldLink RX1 15 "Queuefloat$Loans" "borrower" "[I", .fieldLink RX1 18 "Queuefloat$Loans" "due" "[I", .fieldLink RX1 21 "Queuefloat$Loans" "pledge" "[I"] ++ wsX10)
def wsX1_enter : List Cond := .code yX1_enter cX1_enter 6 (some .int) :: ([.fieldLink RX1 24 "Queuefloat$Loans" "made" "I", .fieldLink RX1 9 "Queuefloat$Loans" "lender" "[I", .fieldLink RX1 15 "Queuefloat$Loans" "borrower" "[I", .fieldLink RX1 18 "Queuefloat$Loans" "due" "[I", .fieldLink RX1 21 "Queuefloat$Loans" "pledge" "[I"] ++ wsX10)
def wsX2_init : List Cond := .code yX2_init cX2_init 1 none :: ([.methodLink RX2 3 objectInit, .instanceMethod objectInit, .code objectInit ⟨#[0xb1]⟩ 1 none, .arrayClass .int, .fieldLink RX2 9 "Queuefloat$Payments" "from" "[I", .fieldLink RX2 15 "Queuefloat$Payments" "to" "[I", .fieldLink RX2 18 "Queuefloat$Payments" "amount" "[I", .fieldLink RX2 21 "Queuefloat$Payments" "priorityOf" "[I", .arrayClass .boolean, .fieldLink RX2 24 "Queuefloat$Payments" "waits" "[Z", .fieldLink RX2 28 "Queuefloat$Payments" "byPriority" "[I"] ++ wsX20)
def wsX2_enter : List Cond := .code yX2_enter cX2_enter 7 (some .int) :: ([.fieldLink RX2 31 "Queuefloat$Payments" "made" "I", .fieldLink RX2 9 "Queuefloat$Payments" "from" "[I", .fieldLink RX2 15 "Queuefloat$Payments" "to" "[I", .fieldLink RX2 18 "Queuefloat$Payments" "amount" "[I", .fieldLink RX2 21 "Queuefloat$Payments" "priorityOf" "[I", .fieldLink RX2 24 "Queuefloat$Payments" "waits" "[Z", .fieldLink RX2 28 "Queuefloat$Payments" "byPriority" "[I"] ++ wsX20)
def wsX3_move : List Cond := .code yX3_move cX3_move 4 none :: ([.fieldLink RX3 9 "Queuefloat$Sums" "accountOf" "[I"] ++ wsX30)
def wsX4_pairOf : List Cond := .code yX4_pairOf cX4_pairOf 2 (some .int) :: ([])
def wsX3_notePaid : List Cond := .code yX3_notePaid cX3_notePaid 4 none :: ([.fieldLink RX3 15 "Queuefloat$Sums" "netPaid" "[I", .static yX4_pairOf, .initialized RX4, .code yX4_pairOf cX4_pairOf 2 (some .int)] ++ wsX30)
def wsX2_apply : List Cond := .code yX2_apply cX2_apply 3 none :: ([.fieldLink RX2 9 "Queuefloat$Payments" "from" "[I", .fieldLink RX2 15 "Queuefloat$Payments" "to" "[I", .fieldLink RX2 18 "Queuefloat$Payments" "amount" "[I", .methodLink RX2 35 yX3_move, .instanceMethod yX3_move, .selects RX3 yX3_move yX3_move, .initialized RX3, .code yX3_move cX3_move 4 none, .fieldLink RX3 9 "Queuefloat$Sums" "accountOf" "[I", .methodLink RX2 41 yX3_notePaid, .instanceMethod yX3_notePaid, .selects RX3 yX3_notePaid yX3_notePaid, .code yX3_notePaid cX3_notePaid 4 none, .fieldLink RX3 15 "Queuefloat$Sums" "netPaid" "[I", .static yX4_pairOf, .initialized RX4, .code yX4_pairOf cX4_pairOf 2 (some .int)] ++ wsX20 ++ wsX30)
def wsX2_waitsAt : List Cond := .code yX2_waitsAt cX2_waitsAt 3 (some .boolean) :: ([.fieldLink RX2 24 "Queuefloat$Payments" "waits" "[Z", .fieldLink RX2 9 "Queuefloat$Payments" "from" "[I"] ++ wsX20)
def wsX2_inQueue : List Cond := .code yX2_inQueue cX2_inQueue 5 (some .int) :: ([.fieldLink RX2 31 "Queuefloat$Payments" "made" "I", .fieldLink RX2 28 "Queuefloat$Payments" "byPriority" "[I", .methodLink RX2 44 yX2_waitsAt, .instanceMethod yX2_waitsAt, .selects RX2 yX2_waitsAt yX2_waitsAt, .initialized RX2, .code yX2_waitsAt cX2_waitsAt 3 (some .boolean), .fieldLink RX2 24 "Queuefloat$Payments" "waits" "[Z", .fieldLink RX2 9 "Queuefloat$Payments" "from" "[I"] ++ wsX20)
def wsX2_countWaiting : List Cond := .code yX2_countWaiting cX2_countWaiting 3 (some .int) :: ([.fieldLink RX2 31 "Queuefloat$Payments" "made" "I", .fieldLink RX2 24 "Queuefloat$Payments" "waits" "[Z"] ++ wsX20)
def wsX2_dropAllOf : List Cond := .code yX2_dropAllOf cX2_dropAllOf 3 none :: ([.fieldLink RX2 31 "Queuefloat$Payments" "made" "I", .fieldLink RX2 9 "Queuefloat$Payments" "from" "[I", .fieldLink RX2 15 "Queuefloat$Payments" "to" "[I", .fieldLink RX2 24 "Queuefloat$Payments" "waits" "[Z"] ++ wsX20)
def wsX3_init : List Cond := .code yX3_init cX3_init 1 none :: ([.methodLink RX3 3 objectInit, .instanceMethod objectInit, .code objectInit ⟨#[0xb1]⟩ 1 none, .arrayClass .int, .fieldLink RX3 9 "Queuefloat$Sums" "accountOf" "[I", .fieldLink RX3 15 "Queuefloat$Sums" "netPaid" "[I"] ++ wsX30)
def wsX3_forgetPaid : List Cond := .code yX3_forgetPaid cX3_forgetPaid 2 none :: ([.fieldLink RX3 15 "Queuefloat$Sums" "netPaid" "[I"] ++ wsX30)
def wsX3_copy : List Cond := .code yX3_copy cX3_copy 2 none :: ([.fieldLink RX3 9 "Queuefloat$Sums" "accountOf" "[I", .methodLink RX3 22 arraycopyName, .native arraycopyName, .static arraycopyName, .initialized "java/lang/System", .fieldLink RX3 15 "Queuefloat$Sums" "netPaid" "[I"] ++ wsX30)
def wsX4_init_r1 : List Cond := [Cond.methodLink RX4 1 objectInit, Cond.instanceMethod objectInit, Cond.code objectInit ⟨#[0xb1]⟩ 1 none, Cond.classLink RX4 7 RX3, Cond.instantiable RX3 2, Cond.initialized RX3, Cond.fieldLink RX4 10 "Queuefloat" "sums" "LQueuefloat$Sums;", Cond.fieldLink RX4 16 "Queuefloat" "trial" "LQueuefloat$Sums;", Cond.classLink RX4 19 RX0, Cond.instantiable RX0 2, Cond.initialized RX0, Cond.fieldLink RX4 22 "Queuefloat" "limits" "LQueuefloat$Limits;", Cond.classLink RX4 26 RX2, Cond.instantiable RX2 7, Cond.initialized RX2, Cond.fieldLink RX4 29 "Queuefloat" "payments" "LQueuefloat$Payments;", Cond.classLink RX4 33 RX1, Cond.instantiable RX1 6, Cond.initialized RX1, Cond.fieldLink RX4 36 "Queuefloat" "market" "LQueuefloat$Loans;", Cond.arrayClass .boolean, Cond.fieldLink RX4 40 "Queuefloat" "closed" "[Z", Cond.arrayClass .int, Cond.fieldLink RX4 44 "Queuefloat" "papersOf" "[I"]
def wsX4_init_r2 : List Cond := [Cond.fieldLink RX4 48 "Queuefloat" "candidates" "[I", Cond.fieldLink RX4 51 "Queuefloat" "small" "I", Cond.fieldLink RX4 55 "Queuefloat" "paperPrice" "I", Cond.fieldLink RX4 58 "Queuefloat" "paperCut" "I", Cond.methodLink RX4 9 yX3_init, Cond.instanceMethod yX3_init, Cond.code yX3_init cX3_init 1 none, Cond.methodLink RX3 3 objectInit, Cond.fieldLink RX3 9 "Queuefloat$Sums" "accountOf" "[I", Cond.fieldLink RX3 15 "Queuefloat$Sums" "netPaid" "[I", Cond.methodLink RX4 21 yX0_init, Cond.instanceMethod yX0_init, Cond.code yX0_init cX0_init 2 none, Cond.methodLink RX0 3 objectInit, Cond.fieldLink RX0 9 "Queuefloat$Limits" "floorOf" "[I", Cond.fieldLink RX0 15 "Queuefloat$Limits" "boundOf" "[I", Cond.constant RX0 18 (1000000), Cond.methodLink RX4 28 yX2_init, Cond.instanceMethod yX2_init, Cond.code yX2_init cX2_init 1 none, Cond.methodLink RX2 3 objectInit, Cond.fieldLink RX2 9 "Queuefloat$Payments" "from" "[I", Cond.fieldLink RX2 15 "Queuefloat$Payments" "to" "[I", Cond.fieldLink RX2 18 "Queuefloat$Payments" "amount" "[I"]
def wsX4_init_r3 : List Cond := [Cond.fieldLink RX2 21 "Queuefloat$Payments" "priorityOf" "[I", Cond.fieldLink RX2 24 "Queuefloat$Payments" "waits" "[Z", Cond.fieldLink RX2 28 "Queuefloat$Payments" "byPriority" "[I", Cond.methodLink RX4 35 yX1_init, Cond.instanceMethod yX1_init, Cond.code yX1_init cX1_init 1 none, Cond.methodLink RX1 3 objectInit, Cond.fieldLink RX1 9 "Queuefloat$Loans" "lender" "[I", Cond.fieldLink RX1 15 "Queuefloat$Loans" "borrower" "[I", Cond.fieldLink RX1 18 "Queuefloat$Loans" "due" "[I", Cond.fieldLink RX1 21 "Queuefloat$Loans" "pledge" "[I"]
def wsX4_init : List Cond := .code yX4_init cX4_init 1 none :: ((wsX4_init_r1 ++ (wsX4_init_r2 ++ wsX4_init_r3)) ++ wsX30 ++ wsX40 ++ wsX00 ++ wsX20 ++ wsX10)
def wsX4_requireBank : List Cond := .code yX4_requireBank cX4_requireBank 1 none :: ([.classLink RX4 140 "java/lang/IndexOutOfBoundsException", .initialized "java/lang/IndexOutOfBoundsException"] ++ (vx_atS RX4 144 "java/lang/IndexOutOfBoundsException" ["java/lang/RuntimeException", "java/lang/Exception"]).filter goodWord)
def wsX4_requireRange : List Cond := .code yX4_requireRange cX4_requireRange 3 none :: ([.classLink RX4 197 "java/lang/IllegalArgumentException", .initialized "java/lang/IllegalArgumentException"] ++ (vx_atS RX4 201 "java/lang/IllegalArgumentException" ["java/lang/RuntimeException", "java/lang/Exception"]).filter goodWord)
def wsX4_requireOpen : List Cond := .code yX4_requireOpen cX4_requireOpen 2 none :: ([.classLink RX4 77 "java/lang/IllegalStateException", .initialized "java/lang/IllegalStateException", .fieldLink RX4 40 "Queuefloat" "closed" "[Z"] ++ wsX40 ++ (vx_atS RX4 81 "java/lang/IllegalStateException" ["java/lang/RuntimeException", "java/lang/Exception"]).filter goodWord)
def wsX4_fund : List Cond := .code yX4_fund cX4_fund 3 (some .int) :: ([.classLink RX4 77 "java/lang/IllegalStateException", .initialized "java/lang/IllegalStateException", .constant RX4 65 (1000000), .fieldLink RX4 10 "Queuefloat" "sums" "LQueuefloat$Sums;", .fieldLink RX4 73 "Queuefloat$Sums" "accountOf" "[I", .constant RX4 76 (100000000), .methodLink RX4 61 yX4_requireBank, .static yX4_requireBank, .initialized RX4, .code yX4_requireBank cX4_requireBank 1 none, .classLink RX4 140 "java/lang/IndexOutOfBoundsException", .initialized "java/lang/IndexOutOfBoundsException", .methodLink RX4 66 yX4_requireRange, .static yX4_requireRange, .code yX4_requireRange cX4_requireRange 3 none, .classLink RX4 197 "java/lang/IllegalArgumentException", .initialized "java/lang/IllegalArgumentException", .methodLink RX4 70 yX4_requireOpen, .instanceMethod yX4_requireOpen, .selects RX4 yX4_requireOpen yX4_requireOpen, .code yX4_requireOpen cX4_requireOpen 2 none, .fieldLink RX4 40 "Queuefloat" "closed" "[Z"] ++ wsX40 ++ wsX30 ++ (vx_atS RX4 81 "java/lang/IllegalStateException" ["java/lang/RuntimeException", "java/lang/Exception"]).filter goodWord ++ (vx_atS RX4 144 "java/lang/IndexOutOfBoundsException" ["java/lang/RuntimeException", "java/lang/Exception"]).filter goodWord ++ (vx_atS RX4 201 "java/lang/IllegalArgumentException" ["java/lang/RuntimeException", "java/lang/Exception"]).filter goodWord)
def wsX4_setFloor : List Cond := .code yX4_setFloor cX4_setFloor 4 (some .int) :: ([.constant RX4 84 (-1000000), .fieldLink RX4 10 "Queuefloat" "sums" "LQueuefloat$Sums;", .fieldLink RX4 73 "Queuefloat$Sums" "accountOf" "[I", .methodLink RX4 85 Lib.Math.min.name, .static Lib.Math.min.name, .initialized "java/lang/Math", .code Lib.Math.min.name Lib.Math.min.code 2 (some .int), .fieldLink RX4 22 "Queuefloat" "limits" "LQueuefloat$Limits;", .fieldLink RX4 91 "Queuefloat$Limits" "floorOf" "[I", .methodLink RX4 61 yX4_requireBank, .static yX4_requireBank, .initialized RX4, .code yX4_requireBank cX4_requireBank 1 none, .classLink RX4 140 "java/lang/IndexOutOfBoundsException", .initialized "java/lang/IndexOutOfBoundsException", .methodLink RX4 66 yX4_requireRange, .static yX4_requireRange, .code yX4_requireRange cX4_requireRange 3 none, .classLink RX4 197 "java/lang/IllegalArgumentException", .initialized "java/lang/IllegalArgumentException"] ++ wsX40 ++ wsX30 ++ wsX00 ++ (vx_atS RX4 144 "java/lang/IndexOutOfBoundsException" ["java/lang/RuntimeException", "java/lang/Exception"]).filter goodWord ++ (vx_atS RX4 201 "java/lang/IllegalArgumentException" ["java/lang/RuntimeException", "java/lang/Exception"]).filter goodWord)
def wsX4_requireTwo : List Cond := .code yX4_requireTwo cX4_requireTwo 2 none :: ([.classLink RX4 197 "java/lang/IllegalArgumentException", .initialized "java/lang/IllegalArgumentException"] ++ (vx_atS RX4 201 "java/lang/IllegalArgumentException" ["java/lang/RuntimeException", "java/lang/Exception"]).filter goodWord)
def wsX4_setBound_r1 : List Cond := [Cond.fieldLink RX4 10 "Queuefloat" "sums" "LQueuefloat$Sums;", Cond.fieldLink RX4 101 "Queuefloat$Sums" "netPaid" "[I", Cond.methodLink RX4 104 Lib.Math.max.name, Cond.static Lib.Math.max.name, Cond.initialized "java/lang/Math", Cond.code Lib.Math.max.name Lib.Math.max.code 2 (some .int), Cond.constant RX4 65 (1000000), Cond.fieldLink RX4 22 "Queuefloat" "limits" "LQueuefloat$Limits;", Cond.fieldLink RX4 107 "Queuefloat$Limits" "boundOf" "[I", Cond.methodLink RX4 61 yX4_requireBank, Cond.static yX4_requireBank, Cond.initialized RX4, Cond.code yX4_requireBank cX4_requireBank 1 none, Cond.classLink RX4 140 "java/lang/IndexOutOfBoundsException", Cond.initialized "java/lang/IndexOutOfBoundsException", Cond.methodLink RX4 94 yX4_requireTwo, Cond.static yX4_requireTwo, Cond.code yX4_requireTwo cX4_requireTwo 2 none, Cond.classLink RX4 197 "java/lang/IllegalArgumentException", Cond.initialized "java/lang/IllegalArgumentException", Cond.methodLink RX4 98 yX4_pairOf, Cond.static yX4_pairOf, Cond.code yX4_pairOf cX4_pairOf 2 (some .int), Cond.methodLink RX4 66 yX4_requireRange]
def wsX4_setBound_r2 : List Cond := [Cond.static yX4_requireRange, Cond.code yX4_requireRange cX4_requireRange 3 none]
def wsX4_setBound : List Cond := .code yX4_setBound cX4_setBound 6 (some .int) :: ((wsX4_setBound_r1 ++ wsX4_setBound_r2) ++ wsX40 ++ wsX30 ++ wsX00 ++ (vx_atS RX4 144 "java/lang/IndexOutOfBoundsException" ["java/lang/RuntimeException", "java/lang/Exception"]).filter goodWord ++ (vx_atS RX4 201 "java/lang/IllegalArgumentException" ["java/lang/RuntimeException", "java/lang/Exception"]).filter goodWord)
def wsX4_givePapers : List Cond := .code yX4_givePapers cX4_givePapers 3 (some .int) :: ([.classLink RX4 77 "java/lang/IllegalStateException", .initialized "java/lang/IllegalStateException", .fieldLink RX4 44 "Queuefloat" "papersOf" "[I", .constant RX4 110 (100000), .methodLink RX4 61 yX4_requireBank, .static yX4_requireBank, .initialized RX4, .code yX4_requireBank cX4_requireBank 1 none, .classLink RX4 140 "java/lang/IndexOutOfBoundsException", .initialized "java/lang/IndexOutOfBoundsException", .methodLink RX4 66 yX4_requireRange, .static yX4_requireRange, .code yX4_requireRange cX4_requireRange 3 none, .classLink RX4 197 "java/lang/IllegalArgumentException", .initialized "java/lang/IllegalArgumentException", .methodLink RX4 70 yX4_requireOpen, .instanceMethod yX4_requireOpen, .selects RX4 yX4_requireOpen yX4_requireOpen, .code yX4_requireOpen cX4_requireOpen 2 none, .fieldLink RX4 40 "Queuefloat" "closed" "[Z"] ++ wsX40 ++ (vx_atS RX4 81 "java/lang/IllegalStateException" ["java/lang/RuntimeException", "java/lang/Exception"]).filter goodWord ++ (vx_atS RX4 144 "java/lang/IndexOutOfBoundsException" ["java/lang/RuntimeException", "java/lang/Exception"]).filter goodWord ++ (vx_atS RX4 201 "java/lang/IllegalArgumentException" ["java/lang/RuntimeException", "java/lang/Exception"]).filter goodWord)
def wsX4_account : List Cond := .code yX4_account cX4_account 2 (some .int) :: ([.fieldLink RX4 10 "Queuefloat" "sums" "LQueuefloat$Sums;", .fieldLink RX4 73 "Queuefloat$Sums" "accountOf" "[I", .methodLink RX4 61 yX4_requireBank, .static yX4_requireBank, .initialized RX4, .code yX4_requireBank cX4_requireBank 1 none, .classLink RX4 140 "java/lang/IndexOutOfBoundsException", .initialized "java/lang/IndexOutOfBoundsException"] ++ wsX40 ++ wsX30 ++ (vx_atS RX4 144 "java/lang/IndexOutOfBoundsException" ["java/lang/RuntimeException", "java/lang/Exception"]).filter goodWord)
def wsX4_papers : List Cond := .code yX4_papers cX4_papers 2 (some .int) :: ([.fieldLink RX4 44 "Queuefloat" "papersOf" "[I", .methodLink RX4 61 yX4_requireBank, .static yX4_requireBank, .initialized RX4, .code yX4_requireBank cX4_requireBank 1 none, .classLink RX4 140 "java/lang/IndexOutOfBoundsException", .initialized "java/lang/IndexOutOfBoundsException"] ++ wsX40 ++ (vx_atS RX4 144 "java/lang/IndexOutOfBoundsException" ["java/lang/RuntimeException", "java/lang/Exception"]).filter goodWord)
def wsX4_isOpen : List Cond := .code yX4_isOpen cX4_isOpen 2 (some .boolean) :: ([.fieldLink RX4 40 "Queuefloat" "closed" "[Z", .methodLink RX4 61 yX4_requireBank, .static yX4_requireBank, .initialized RX4, .code yX4_requireBank cX4_requireBank 1 none, .classLink RX4 140 "java/lang/IndexOutOfBoundsException", .initialized "java/lang/IndexOutOfBoundsException"] ++ wsX40 ++ (vx_atS RX4 144 "java/lang/IndexOutOfBoundsException" ["java/lang/RuntimeException", "java/lang/Exception"]).filter goodWord)
def wsX4_paid : List Cond := .code yX4_paid cX4_paid 3 (some .int) :: ([.fieldLink RX4 10 "Queuefloat" "sums" "LQueuefloat$Sums;", .fieldLink RX4 101 "Queuefloat$Sums" "netPaid" "[I", .methodLink RX4 61 yX4_requireBank, .static yX4_requireBank, .initialized RX4, .code yX4_requireBank cX4_requireBank 1 none, .classLink RX4 140 "java/lang/IndexOutOfBoundsException", .initialized "java/lang/IndexOutOfBoundsException", .methodLink RX4 98 yX4_pairOf, .static yX4_pairOf, .code yX4_pairOf cX4_pairOf 2 (some .int)] ++ wsX40 ++ wsX30 ++ (vx_atS RX4 144 "java/lang/IndexOutOfBoundsException" ["java/lang/RuntimeException", "java/lang/Exception"]).filter goodWord)
def wsX4_pay_r1 : List Cond := [Cond.classLink RX4 77 "java/lang/IllegalStateException", Cond.initialized "java/lang/IllegalStateException", Cond.constant RX4 110 (100000), Cond.fieldLink RX4 29 "Queuefloat" "payments" "LQueuefloat$Payments;", Cond.fieldLink RX4 113 "Queuefloat$Payments" "made" "I", Cond.methodLink RX4 61 yX4_requireBank, Cond.static yX4_requireBank, Cond.initialized RX4, Cond.code yX4_requireBank cX4_requireBank 1 none, Cond.classLink RX4 140 "java/lang/IndexOutOfBoundsException", Cond.initialized "java/lang/IndexOutOfBoundsException", Cond.methodLink RX4 94 yX4_requireTwo, Cond.static yX4_requireTwo, Cond.code yX4_requireTwo cX4_requireTwo 2 none, Cond.classLink RX4 197 "java/lang/IllegalArgumentException", Cond.initialized "java/lang/IllegalArgumentException", Cond.methodLink RX4 66 yX4_requireRange, Cond.static yX4_requireRange, Cond.code yX4_requireRange cX4_requireRange 3 none, Cond.methodLink RX4 70 yX4_requireOpen, Cond.instanceMethod yX4_requireOpen, Cond.selects RX4 yX4_requireOpen yX4_requireOpen, Cond.code yX4_requireOpen cX4_requireOpen 2 none, Cond.fieldLink RX4 40 "Queuefloat" "closed" "[Z"]
def wsX4_pay_r2 : List Cond := [Cond.methodLink RX4 118 yX2_enter, Cond.instanceMethod yX2_enter, Cond.selects RX2 yX2_enter yX2_enter, Cond.initialized RX2, Cond.code yX2_enter cX2_enter 7 (some .int), Cond.fieldLink RX2 31 "Queuefloat$Payments" "made" "I", Cond.fieldLink RX2 9 "Queuefloat$Payments" "from" "[I", Cond.fieldLink RX2 15 "Queuefloat$Payments" "to" "[I", Cond.fieldLink RX2 18 "Queuefloat$Payments" "amount" "[I", Cond.fieldLink RX2 21 "Queuefloat$Payments" "priorityOf" "[I", Cond.fieldLink RX2 24 "Queuefloat$Payments" "waits" "[Z", Cond.fieldLink RX2 28 "Queuefloat$Payments" "byPriority" "[I"]
def wsX4_pay : List Cond := .code yX4_pay cX4_pay 5 (some .int) :: ((wsX4_pay_r1 ++ wsX4_pay_r2) ++ wsX40 ++ wsX20 ++ (vx_atS RX4 81 "java/lang/IllegalStateException" ["java/lang/RuntimeException", "java/lang/Exception"]).filter goodWord ++ (vx_atS RX4 144 "java/lang/IndexOutOfBoundsException" ["java/lang/RuntimeException", "java/lang/Exception"]).filter goodWord ++ (vx_atS RX4 201 "java/lang/IllegalArgumentException" ["java/lang/RuntimeException", "java/lang/Exception"]).filter goodWord)
def wsX4_requirePayment : List Cond := .code yX4_requirePayment cX4_requirePayment 2 none :: ([.classLink RX4 140 "java/lang/IndexOutOfBoundsException", .initialized "java/lang/IndexOutOfBoundsException", .fieldLink RX4 29 "Queuefloat" "payments" "LQueuefloat$Payments;", .fieldLink RX4 113 "Queuefloat$Payments" "made" "I"] ++ wsX40 ++ wsX20 ++ (vx_atS RX4 144 "java/lang/IndexOutOfBoundsException" ["java/lang/RuntimeException", "java/lang/Exception"]).filter goodWord)
def wsX4_drop : List Cond := .code yX4_drop cX4_drop 2 (some .int) :: ([.classLink RX4 77 "java/lang/IllegalStateException", .initialized "java/lang/IllegalStateException", .fieldLink RX4 29 "Queuefloat" "payments" "LQueuefloat$Payments;", .fieldLink RX4 125 "Queuefloat$Payments" "waits" "[Z", .methodLink RX4 122 yX4_requirePayment, .instanceMethod yX4_requirePayment, .selects RX4 yX4_requirePayment yX4_requirePayment, .initialized RX4, .code yX4_requirePayment cX4_requirePayment 2 none, .classLink RX4 140 "java/lang/IndexOutOfBoundsException", .initialized "java/lang/IndexOutOfBoundsException", .fieldLink RX4 113 "Queuefloat$Payments" "made" "I", .methodLink RX4 130 yX2_countWaiting, .instanceMethod yX2_countWaiting, .selects RX2 yX2_countWaiting yX2_countWaiting, .initialized RX2, .code yX2_countWaiting cX2_countWaiting 3 (some .int), .fieldLink RX2 31 "Queuefloat$Payments" "made" "I", .fieldLink RX2 24 "Queuefloat$Payments" "waits" "[Z"] ++ wsX40 ++ wsX20 ++ (vx_atS RX4 81 "java/lang/IllegalStateException" ["java/lang/RuntimeException", "java/lang/Exception"]).filter goodWord ++ (vx_atS RX4 144 "java/lang/IndexOutOfBoundsException" ["java/lang/RuntimeException", "java/lang/Exception"]).filter goodWord)
def wsX4_setSmall : List Cond := .code yX4_setSmall cX4_setSmall 3 (some .int) :: ([.constant RX4 110 (100000), .fieldLink RX4 51 "Queuefloat" "small" "I", .methodLink RX4 66 yX4_requireRange, .static yX4_requireRange, .initialized RX4, .code yX4_requireRange cX4_requireRange 3 none, .classLink RX4 197 "java/lang/IllegalArgumentException", .initialized "java/lang/IllegalArgumentException"] ++ wsX40 ++ (vx_atS RX4 201 "java/lang/IllegalArgumentException" ["java/lang/RuntimeException", "java/lang/Exception"]).filter goodWord)
def wsX4_obstacle : List Cond := .code yX4_obstacle cX4_obstacle 5 (some .int) :: ([.fieldLink RX4 29 "Queuefloat" "payments" "LQueuefloat$Payments;", .fieldLink RX4 125 "Queuefloat$Payments" "waits" "[Z", .fieldLink RX4 217 "Queuefloat$Payments" "from" "[I", .fieldLink RX4 220 "Queuefloat$Payments" "amount" "[I", .fieldLink RX4 10 "Queuefloat" "sums" "LQueuefloat$Sums;", .fieldLink RX4 73 "Queuefloat$Sums" "accountOf" "[I", .fieldLink RX4 22 "Queuefloat" "limits" "LQueuefloat$Limits;", .fieldLink RX4 91 "Queuefloat$Limits" "floorOf" "[I", .fieldLink RX4 223 "Queuefloat$Payments" "to" "[I", .fieldLink RX4 101 "Queuefloat$Sums" "netPaid" "[I", .fieldLink RX4 107 "Queuefloat$Limits" "boundOf" "[I", .methodLink RX4 98 yX4_pairOf, .static yX4_pairOf, .initialized RX4, .code yX4_pairOf cX4_pairOf 2 (some .int)] ++ wsX40 ++ wsX20 ++ wsX30 ++ wsX00)
def wsX4_firstSmallFree_r1 : List Cond := [Cond.fieldLink RX4 29 "Queuefloat" "payments" "LQueuefloat$Payments;", Cond.fieldLink RX4 113 "Queuefloat$Payments" "made" "I", Cond.fieldLink RX4 239 "Queuefloat$Payments" "byPriority" "[I", Cond.fieldLink RX4 220 "Queuefloat$Payments" "amount" "[I", Cond.fieldLink RX4 51 "Queuefloat" "small" "I", Cond.methodLink RX4 242 yX2_waitsAt, Cond.instanceMethod yX2_waitsAt, Cond.selects RX2 yX2_waitsAt yX2_waitsAt, Cond.initialized RX2, Cond.code yX2_waitsAt cX2_waitsAt 3 (some .boolean), Cond.fieldLink RX2 24 "Queuefloat$Payments" "waits" "[Z", Cond.fieldLink RX2 9 "Queuefloat$Payments" "from" "[I", Cond.methodLink RX4 148 yX4_obstacle, Cond.instanceMethod yX4_obstacle, Cond.selects RX4 yX4_obstacle yX4_obstacle, Cond.initialized RX4, Cond.code yX4_obstacle cX4_obstacle 5 (some .int), Cond.fieldLink RX4 125 "Queuefloat$Payments" "waits" "[Z", Cond.fieldLink RX4 217 "Queuefloat$Payments" "from" "[I", Cond.fieldLink RX4 10 "Queuefloat" "sums" "LQueuefloat$Sums;", Cond.fieldLink RX4 73 "Queuefloat$Sums" "accountOf" "[I", Cond.fieldLink RX4 22 "Queuefloat" "limits" "LQueuefloat$Limits;", Cond.fieldLink RX4 91 "Queuefloat$Limits" "floorOf" "[I", Cond.fieldLink RX4 223 "Queuefloat$Payments" "to" "[I"]
def wsX4_firstSmallFree_r2 : List Cond := [Cond.fieldLink RX4 101 "Queuefloat$Sums" "netPaid" "[I", Cond.fieldLink RX4 107 "Queuefloat$Limits" "boundOf" "[I", Cond.methodLink RX4 98 yX4_pairOf, Cond.static yX4_pairOf, Cond.code yX4_pairOf cX4_pairOf 2 (some .int)]
def wsX4_firstSmallFree : List Cond := .code yX4_firstSmallFree cX4_firstSmallFree 4 (some .int) :: ((wsX4_firstSmallFree_r1 ++ wsX4_firstSmallFree_r2) ++ wsX40 ++ wsX20 ++ wsX30 ++ wsX00)
def wsX4_nextToGo_r1 : List Cond := [Cond.fieldLink RX4 29 "Queuefloat" "payments" "LQueuefloat$Payments;", Cond.methodLink RX4 145 yX2_inQueue, Cond.instanceMethod yX2_inQueue, Cond.selects RX2 yX2_inQueue yX2_inQueue, Cond.initialized RX2, Cond.code yX2_inQueue cX2_inQueue 5 (some .int), Cond.fieldLink RX2 31 "Queuefloat$Payments" "made" "I", Cond.fieldLink RX2 28 "Queuefloat$Payments" "byPriority" "[I", Cond.methodLink RX2 44 yX2_waitsAt, Cond.instanceMethod yX2_waitsAt, Cond.selects RX2 yX2_waitsAt yX2_waitsAt, Cond.code yX2_waitsAt cX2_waitsAt 3 (some .boolean), Cond.fieldLink RX2 24 "Queuefloat$Payments" "waits" "[Z", Cond.fieldLink RX2 9 "Queuefloat$Payments" "from" "[I", Cond.methodLink RX4 148 yX4_obstacle, Cond.instanceMethod yX4_obstacle, Cond.selects RX4 yX4_obstacle yX4_obstacle, Cond.initialized RX4, Cond.code yX4_obstacle cX4_obstacle 5 (some .int), Cond.fieldLink RX4 125 "Queuefloat$Payments" "waits" "[Z", Cond.fieldLink RX4 217 "Queuefloat$Payments" "from" "[I", Cond.fieldLink RX4 220 "Queuefloat$Payments" "amount" "[I", Cond.fieldLink RX4 10 "Queuefloat" "sums" "LQueuefloat$Sums;", Cond.fieldLink RX4 73 "Queuefloat$Sums" "accountOf" "[I"]
def wsX4_nextToGo_r2 : List Cond := [Cond.fieldLink RX4 22 "Queuefloat" "limits" "LQueuefloat$Limits;", Cond.fieldLink RX4 91 "Queuefloat$Limits" "floorOf" "[I", Cond.fieldLink RX4 223 "Queuefloat$Payments" "to" "[I", Cond.fieldLink RX4 101 "Queuefloat$Sums" "netPaid" "[I", Cond.fieldLink RX4 107 "Queuefloat$Limits" "boundOf" "[I", Cond.methodLink RX4 98 yX4_pairOf, Cond.static yX4_pairOf, Cond.code yX4_pairOf cX4_pairOf 2 (some .int), Cond.methodLink RX4 236 yX4_firstSmallFree, Cond.instanceMethod yX4_firstSmallFree, Cond.selects RX4 yX4_firstSmallFree yX4_firstSmallFree, Cond.code yX4_firstSmallFree cX4_firstSmallFree 4 (some .int), Cond.fieldLink RX4 113 "Queuefloat$Payments" "made" "I", Cond.fieldLink RX4 239 "Queuefloat$Payments" "byPriority" "[I", Cond.fieldLink RX4 51 "Queuefloat" "small" "I", Cond.methodLink RX4 242 yX2_waitsAt]
def wsX4_nextToGo : List Cond := .code yX4_nextToGo cX4_nextToGo 3 (some .int) :: ((wsX4_nextToGo_r1 ++ wsX4_nextToGo_r2) ++ wsX40 ++ wsX20 ++ wsX30 ++ wsX00)
def wsX4_send_r1 : List Cond := [Cond.fieldLink RX4 29 "Queuefloat" "payments" "LQueuefloat$Payments;", Cond.fieldLink RX4 10 "Queuefloat" "sums" "LQueuefloat$Sums;", Cond.fieldLink RX4 125 "Queuefloat$Payments" "waits" "[Z", Cond.methodLink RX4 226 yX2_apply, Cond.instanceMethod yX2_apply, Cond.selects RX2 yX2_apply yX2_apply, Cond.initialized RX2, Cond.code yX2_apply cX2_apply 3 none, Cond.fieldLink RX2 9 "Queuefloat$Payments" "from" "[I", Cond.fieldLink RX2 15 "Queuefloat$Payments" "to" "[I", Cond.fieldLink RX2 18 "Queuefloat$Payments" "amount" "[I", Cond.methodLink RX2 35 yX3_move, Cond.instanceMethod yX3_move, Cond.selects RX3 yX3_move yX3_move, Cond.initialized RX3, Cond.code yX3_move cX3_move 4 none, Cond.fieldLink RX3 9 "Queuefloat$Sums" "accountOf" "[I", Cond.methodLink RX2 41 yX3_notePaid, Cond.instanceMethod yX3_notePaid, Cond.selects RX3 yX3_notePaid yX3_notePaid, Cond.code yX3_notePaid cX3_notePaid 4 none, Cond.fieldLink RX3 15 "Queuefloat$Sums" "netPaid" "[I", Cond.static yX4_pairOf, Cond.initialized RX4]
def wsX4_send_r2 : List Cond := [Cond.code yX4_pairOf cX4_pairOf 2 (some .int)]
def wsX4_send : List Cond := .code yX4_send cX4_send 2 none :: ((wsX4_send_r1 ++ wsX4_send_r2) ++ wsX40 ++ wsX20 ++ wsX30)
def wsX4_goThroughBanks_r1 : List Cond := [Cond.methodLink RX4 230 yX4_nextToGo, Cond.instanceMethod yX4_nextToGo, Cond.selects RX4 yX4_nextToGo yX4_nextToGo, Cond.initialized RX4, Cond.code yX4_nextToGo cX4_nextToGo 3 (some .int), Cond.fieldLink RX4 29 "Queuefloat" "payments" "LQueuefloat$Payments;", Cond.methodLink RX4 145 yX2_inQueue, Cond.instanceMethod yX2_inQueue, Cond.selects RX2 yX2_inQueue yX2_inQueue, Cond.initialized RX2, Cond.code yX2_inQueue cX2_inQueue 5 (some .int), Cond.fieldLink RX2 31 "Queuefloat$Payments" "made" "I", Cond.fieldLink RX2 28 "Queuefloat$Payments" "byPriority" "[I", Cond.methodLink RX2 44 yX2_waitsAt, Cond.instanceMethod yX2_waitsAt, Cond.selects RX2 yX2_waitsAt yX2_waitsAt, Cond.code yX2_waitsAt cX2_waitsAt 3 (some .boolean), Cond.fieldLink RX2 24 "Queuefloat$Payments" "waits" "[Z", Cond.fieldLink RX2 9 "Queuefloat$Payments" "from" "[I", Cond.methodLink RX4 148 yX4_obstacle, Cond.instanceMethod yX4_obstacle, Cond.selects RX4 yX4_obstacle yX4_obstacle, Cond.code yX4_obstacle cX4_obstacle 5 (some .int), Cond.fieldLink RX4 125 "Queuefloat$Payments" "waits" "[Z"]
def wsX4_goThroughBanks_r2 : List Cond := [Cond.fieldLink RX4 217 "Queuefloat$Payments" "from" "[I", Cond.fieldLink RX4 220 "Queuefloat$Payments" "amount" "[I", Cond.fieldLink RX4 10 "Queuefloat" "sums" "LQueuefloat$Sums;", Cond.fieldLink RX4 73 "Queuefloat$Sums" "accountOf" "[I", Cond.fieldLink RX4 22 "Queuefloat" "limits" "LQueuefloat$Limits;", Cond.fieldLink RX4 91 "Queuefloat$Limits" "floorOf" "[I", Cond.fieldLink RX4 223 "Queuefloat$Payments" "to" "[I", Cond.fieldLink RX4 101 "Queuefloat$Sums" "netPaid" "[I", Cond.fieldLink RX4 107 "Queuefloat$Limits" "boundOf" "[I", Cond.methodLink RX4 98 yX4_pairOf, Cond.static yX4_pairOf, Cond.code yX4_pairOf cX4_pairOf 2 (some .int), Cond.methodLink RX4 236 yX4_firstSmallFree, Cond.instanceMethod yX4_firstSmallFree, Cond.selects RX4 yX4_firstSmallFree yX4_firstSmallFree, Cond.code yX4_firstSmallFree cX4_firstSmallFree 4 (some .int), Cond.fieldLink RX4 113 "Queuefloat$Payments" "made" "I", Cond.fieldLink RX4 239 "Queuefloat$Payments" "byPriority" "[I", Cond.fieldLink RX4 51 "Queuefloat" "small" "I", Cond.methodLink RX4 242 yX2_waitsAt, Cond.methodLink RX4 233 yX4_send, Cond.instanceMethod yX4_send, Cond.selects RX4 yX4_send yX4_send, Cond.code yX4_send cX4_send 2 none]
def wsX4_goThroughBanks_r3 : List Cond := [Cond.methodLink RX4 226 yX2_apply, Cond.instanceMethod yX2_apply, Cond.selects RX2 yX2_apply yX2_apply, Cond.code yX2_apply cX2_apply 3 none, Cond.fieldLink RX2 15 "Queuefloat$Payments" "to" "[I", Cond.fieldLink RX2 18 "Queuefloat$Payments" "amount" "[I", Cond.methodLink RX2 35 yX3_move, Cond.instanceMethod yX3_move, Cond.selects RX3 yX3_move yX3_move, Cond.initialized RX3, Cond.code yX3_move cX3_move 4 none, Cond.fieldLink RX3 9 "Queuefloat$Sums" "accountOf" "[I", Cond.methodLink RX2 41 yX3_notePaid, Cond.instanceMethod yX3_notePaid, Cond.selects RX3 yX3_notePaid yX3_notePaid, Cond.code yX3_notePaid cX3_notePaid 4 none, Cond.fieldLink RX3 15 "Queuefloat$Sums" "netPaid" "[I"]
def wsX4_goThroughBanks : List Cond := .code yX4_goThroughBanks cX4_goThroughBanks 4 (some .int) :: ((wsX4_goThroughBanks_r1 ++ (wsX4_goThroughBanks_r2 ++ wsX4_goThroughBanks_r3)) ++ wsX40 ++ wsX20 ++ wsX30 ++ wsX00)
def wsJ6_bitCount_0f7a4 : List Cond := .code yJ6_bitCount_0f7a4 cJ6_bitCount_0f7a4 1 (some .int) :: ([.constant RJ6 265 (1431655765), .constant RJ6 266 (858993459), .constant RJ6 267 (252645135)])
def wsX4_isIn : List Cond := .code yX4_isIn cX4_isIn 2 (some .boolean) :: ([])
def wsX4_canGoTogether_r1 : List Cond := [Cond.fieldLink RX4 16 "Queuefloat" "trial" "LQueuefloat$Sums;", Cond.fieldLink RX4 10 "Queuefloat" "sums" "LQueuefloat$Sums;", Cond.fieldLink RX4 48 "Queuefloat" "candidates" "[I", Cond.fieldLink RX4 29 "Queuefloat" "payments" "LQueuefloat$Payments;", Cond.fieldLink RX4 22 "Queuefloat" "limits" "LQueuefloat$Limits;", Cond.methodLink RX4 253 yX3_copy, Cond.instanceMethod yX3_copy, Cond.selects RX3 yX3_copy yX3_copy, Cond.initialized RX3, Cond.code yX3_copy cX3_copy 2 none, Cond.fieldLink RX3 9 "Queuefloat$Sums" "accountOf" "[I", Cond.methodLink RX3 22 arraycopyName, Cond.native arraycopyName, Cond.static arraycopyName, Cond.initialized "java/lang/System", Cond.fieldLink RX3 15 "Queuefloat$Sums" "netPaid" "[I", Cond.methodLink RX4 250 yX4_isIn, Cond.static yX4_isIn, Cond.initialized RX4, Cond.code yX4_isIn cX4_isIn 2 (some .boolean), Cond.methodLink RX4 226 yX2_apply, Cond.instanceMethod yX2_apply, Cond.selects RX2 yX2_apply yX2_apply, Cond.initialized RX2]
def wsX4_canGoTogether_r2 : List Cond := [Cond.code yX2_apply cX2_apply 3 none, Cond.fieldLink RX2 9 "Queuefloat$Payments" "from" "[I", Cond.fieldLink RX2 15 "Queuefloat$Payments" "to" "[I", Cond.fieldLink RX2 18 "Queuefloat$Payments" "amount" "[I", Cond.methodLink RX2 35 yX3_move, Cond.instanceMethod yX3_move, Cond.selects RX3 yX3_move yX3_move, Cond.code yX3_move cX3_move 4 none, Cond.methodLink RX2 41 yX3_notePaid, Cond.instanceMethod yX3_notePaid, Cond.selects RX3 yX3_notePaid yX3_notePaid, Cond.code yX3_notePaid cX3_notePaid 4 none, Cond.static yX4_pairOf, Cond.code yX4_pairOf cX4_pairOf 2 (some .int), Cond.methodLink RX4 257 yX0_allow, Cond.instanceMethod yX0_allow, Cond.selects RX0 yX0_allow yX0_allow, Cond.initialized RX0, Cond.code yX0_allow cX0_allow 3 (some .boolean), Cond.fieldLink RX0 19 "Queuefloat$Sums" "accountOf" "[I", Cond.fieldLink RX0 9 "Queuefloat$Limits" "floorOf" "[I", Cond.fieldLink RX0 24 "Queuefloat$Sums" "netPaid" "[I", Cond.fieldLink RX0 15 "Queuefloat$Limits" "boundOf" "[I"]
def wsX4_canGoTogether : List Cond := .code yX4_canGoTogether cX4_canGoTogether 4 (some .boolean) :: ((wsX4_canGoTogether_r1 ++ wsX4_canGoTogether_r2) ++ wsX40 ++ wsX30 ++ wsX20 ++ wsX00)
def wsX4_sendLargestSet_r1 : List Cond := [Cond.fieldLink RX4 48 "Queuefloat" "candidates" "[I", Cond.fieldLink RX4 29 "Queuefloat" "payments" "LQueuefloat$Payments;", Cond.methodLink RX4 145 yX2_inQueue, Cond.instanceMethod yX2_inQueue, Cond.selects RX2 yX2_inQueue yX2_inQueue, Cond.initialized RX2, Cond.code yX2_inQueue cX2_inQueue 5 (some .int), Cond.fieldLink RX2 31 "Queuefloat$Payments" "made" "I", Cond.fieldLink RX2 28 "Queuefloat$Payments" "byPriority" "[I", Cond.methodLink RX2 44 yX2_waitsAt, Cond.instanceMethod yX2_waitsAt, Cond.selects RX2 yX2_waitsAt yX2_waitsAt, Cond.code yX2_waitsAt cX2_waitsAt 3 (some .boolean), Cond.fieldLink RX2 24 "Queuefloat$Payments" "waits" "[Z", Cond.fieldLink RX2 9 "Queuefloat$Payments" "from" "[I", Cond.methodLink RX4 245 yJ6_bitCount_0f7a4, Cond.static yJ6_bitCount_0f7a4, Cond.initialized RJ6, Cond.code yJ6_bitCount_0f7a4 cJ6_bitCount_0f7a4 1 (some .int), Cond.constant RJ6 265 (1431655765), Cond.constant RJ6 266 (858993459), Cond.constant RJ6 267 (252645135), Cond.methodLink RX4 157 yX4_canGoTogether, Cond.instanceMethod yX4_canGoTogether]
def wsX4_sendLargestSet_r2 : List Cond := [Cond.selects RX4 yX4_canGoTogether yX4_canGoTogether, Cond.initialized RX4, Cond.code yX4_canGoTogether cX4_canGoTogether 4 (some .boolean), Cond.fieldLink RX4 16 "Queuefloat" "trial" "LQueuefloat$Sums;", Cond.fieldLink RX4 10 "Queuefloat" "sums" "LQueuefloat$Sums;", Cond.fieldLink RX4 22 "Queuefloat" "limits" "LQueuefloat$Limits;", Cond.methodLink RX4 253 yX3_copy, Cond.instanceMethod yX3_copy, Cond.selects RX3 yX3_copy yX3_copy, Cond.initialized RX3, Cond.code yX3_copy cX3_copy 2 none, Cond.fieldLink RX3 9 "Queuefloat$Sums" "accountOf" "[I", Cond.methodLink RX3 22 arraycopyName, Cond.native arraycopyName, Cond.static arraycopyName, Cond.initialized "java/lang/System", Cond.fieldLink RX3 15 "Queuefloat$Sums" "netPaid" "[I", Cond.methodLink RX4 250 yX4_isIn, Cond.static yX4_isIn, Cond.code yX4_isIn cX4_isIn 2 (some .boolean), Cond.methodLink RX4 226 yX2_apply, Cond.instanceMethod yX2_apply, Cond.selects RX2 yX2_apply yX2_apply, Cond.code yX2_apply cX2_apply 3 none]
def wsX4_sendLargestSet_r3 : List Cond := [Cond.fieldLink RX2 15 "Queuefloat$Payments" "to" "[I", Cond.fieldLink RX2 18 "Queuefloat$Payments" "amount" "[I", Cond.methodLink RX2 35 yX3_move, Cond.instanceMethod yX3_move, Cond.selects RX3 yX3_move yX3_move, Cond.code yX3_move cX3_move 4 none, Cond.methodLink RX2 41 yX3_notePaid, Cond.instanceMethod yX3_notePaid, Cond.selects RX3 yX3_notePaid yX3_notePaid, Cond.code yX3_notePaid cX3_notePaid 4 none, Cond.static yX4_pairOf, Cond.code yX4_pairOf cX4_pairOf 2 (some .int), Cond.methodLink RX4 257 yX0_allow, Cond.instanceMethod yX0_allow, Cond.selects RX0 yX0_allow yX0_allow, Cond.initialized RX0, Cond.code yX0_allow cX0_allow 3 (some .boolean), Cond.fieldLink RX0 19 "Queuefloat$Sums" "accountOf" "[I", Cond.fieldLink RX0 9 "Queuefloat$Limits" "floorOf" "[I", Cond.fieldLink RX0 24 "Queuefloat$Sums" "netPaid" "[I", Cond.fieldLink RX0 15 "Queuefloat$Limits" "boundOf" "[I", Cond.methodLink RX4 233 yX4_send, Cond.instanceMethod yX4_send, Cond.selects RX4 yX4_send yX4_send]
def wsX4_sendLargestSet_r4 : List Cond := [Cond.code yX4_send cX4_send 2 none, Cond.fieldLink RX4 125 "Queuefloat$Payments" "waits" "[Z"]
def wsX4_sendLargestSet : List Cond := .code yX4_sendLargestSet cX4_sendLargestSet 3 (some .int) :: ((wsX4_sendLargestSet_r1 ++ (wsX4_sendLargestSet_r2 ++ (wsX4_sendLargestSet_r3 ++ wsX4_sendLargestSet_r4))) ++ wsX40 ++ wsX20 ++ wsX30 ++ wsX00)
def wsX4_run_r1 : List Cond := [Cond.methodLink RX4 134 yX4_goThroughBanks, Cond.instanceMethod yX4_goThroughBanks, Cond.selects RX4 yX4_goThroughBanks yX4_goThroughBanks, Cond.initialized RX4, Cond.code yX4_goThroughBanks cX4_goThroughBanks 4 (some .int), Cond.methodLink RX4 230 yX4_nextToGo, Cond.instanceMethod yX4_nextToGo, Cond.selects RX4 yX4_nextToGo yX4_nextToGo, Cond.code yX4_nextToGo cX4_nextToGo 3 (some .int), Cond.fieldLink RX4 29 "Queuefloat" "payments" "LQueuefloat$Payments;", Cond.methodLink RX4 145 yX2_inQueue, Cond.instanceMethod yX2_inQueue, Cond.selects RX2 yX2_inQueue yX2_inQueue, Cond.initialized RX2, Cond.code yX2_inQueue cX2_inQueue 5 (some .int), Cond.fieldLink RX2 31 "Queuefloat$Payments" "made" "I", Cond.fieldLink RX2 28 "Queuefloat$Payments" "byPriority" "[I", Cond.methodLink RX2 44 yX2_waitsAt, Cond.instanceMethod yX2_waitsAt, Cond.selects RX2 yX2_waitsAt yX2_waitsAt, Cond.code yX2_waitsAt cX2_waitsAt 3 (some .boolean), Cond.fieldLink RX2 24 "Queuefloat$Payments" "waits" "[Z", Cond.fieldLink RX2 9 "Queuefloat$Payments" "from" "[I", Cond.methodLink RX4 148 yX4_obstacle]
def wsX4_run_r2 : List Cond := [Cond.instanceMethod yX4_obstacle, Cond.selects RX4 yX4_obstacle yX4_obstacle, Cond.code yX4_obstacle cX4_obstacle 5 (some .int), Cond.fieldLink RX4 125 "Queuefloat$Payments" "waits" "[Z", Cond.fieldLink RX4 217 "Queuefloat$Payments" "from" "[I", Cond.fieldLink RX4 220 "Queuefloat$Payments" "amount" "[I", Cond.fieldLink RX4 10 "Queuefloat" "sums" "LQueuefloat$Sums;", Cond.fieldLink RX4 73 "Queuefloat$Sums" "accountOf" "[I", Cond.fieldLink RX4 22 "Queuefloat" "limits" "LQueuefloat$Limits;", Cond.fieldLink RX4 91 "Queuefloat$Limits" "floorOf" "[I", Cond.fieldLink RX4 223 "Queuefloat$Payments" "to" "[I", Cond.fieldLink RX4 101 "Queuefloat$Sums" "netPaid" "[I", Cond.fieldLink RX4 107 "Queuefloat$Limits" "boundOf" "[I", Cond.methodLink RX4 98 yX4_pairOf, Cond.static yX4_pairOf, Cond.code yX4_pairOf cX4_pairOf 2 (some .int), Cond.methodLink RX4 236 yX4_firstSmallFree, Cond.instanceMethod yX4_firstSmallFree, Cond.selects RX4 yX4_firstSmallFree yX4_firstSmallFree, Cond.code yX4_firstSmallFree cX4_firstSmallFree 4 (some .int), Cond.fieldLink RX4 113 "Queuefloat$Payments" "made" "I", Cond.fieldLink RX4 239 "Queuefloat$Payments" "byPriority" "[I", Cond.fieldLink RX4 51 "Queuefloat" "small" "I", Cond.methodLink RX4 242 yX2_waitsAt]
def wsX4_run_r3 : List Cond := [Cond.methodLink RX4 233 yX4_send, Cond.instanceMethod yX4_send, Cond.selects RX4 yX4_send yX4_send, Cond.code yX4_send cX4_send 2 none, Cond.methodLink RX4 226 yX2_apply, Cond.instanceMethod yX2_apply, Cond.selects RX2 yX2_apply yX2_apply, Cond.code yX2_apply cX2_apply 3 none, Cond.fieldLink RX2 15 "Queuefloat$Payments" "to" "[I", Cond.fieldLink RX2 18 "Queuefloat$Payments" "amount" "[I", Cond.methodLink RX2 35 yX3_move, Cond.instanceMethod yX3_move, Cond.selects RX3 yX3_move yX3_move, Cond.initialized RX3, Cond.code yX3_move cX3_move 4 none, Cond.fieldLink RX3 9 "Queuefloat$Sums" "accountOf" "[I", Cond.methodLink RX2 41 yX3_notePaid, Cond.instanceMethod yX3_notePaid, Cond.selects RX3 yX3_notePaid yX3_notePaid, Cond.code yX3_notePaid cX3_notePaid 4 none, Cond.fieldLink RX3 15 "Queuefloat$Sums" "netPaid" "[I", Cond.methodLink RX4 137 yX4_sendLargestSet, Cond.instanceMethod yX4_sendLargestSet, Cond.selects RX4 yX4_sendLargestSet yX4_sendLargestSet]
def wsX4_run_r4 : List Cond := [Cond.code yX4_sendLargestSet cX4_sendLargestSet 3 (some .int), Cond.fieldLink RX4 48 "Queuefloat" "candidates" "[I", Cond.methodLink RX4 245 yJ6_bitCount_0f7a4, Cond.static yJ6_bitCount_0f7a4, Cond.initialized RJ6, Cond.code yJ6_bitCount_0f7a4 cJ6_bitCount_0f7a4 1 (some .int), Cond.constant RJ6 265 (1431655765), Cond.constant RJ6 266 (858993459), Cond.constant RJ6 267 (252645135), Cond.methodLink RX4 157 yX4_canGoTogether, Cond.instanceMethod yX4_canGoTogether, Cond.selects RX4 yX4_canGoTogether yX4_canGoTogether, Cond.code yX4_canGoTogether cX4_canGoTogether 4 (some .boolean), Cond.fieldLink RX4 16 "Queuefloat" "trial" "LQueuefloat$Sums;", Cond.methodLink RX4 253 yX3_copy, Cond.instanceMethod yX3_copy, Cond.selects RX3 yX3_copy yX3_copy, Cond.code yX3_copy cX3_copy 2 none, Cond.methodLink RX3 22 arraycopyName, Cond.native arraycopyName, Cond.static arraycopyName, Cond.initialized "java/lang/System", Cond.methodLink RX4 250 yX4_isIn, Cond.static yX4_isIn]
def wsX4_run_r5 : List Cond := [Cond.code yX4_isIn cX4_isIn 2 (some .boolean), Cond.methodLink RX4 257 yX0_allow, Cond.instanceMethod yX0_allow, Cond.selects RX0 yX0_allow yX0_allow, Cond.initialized RX0, Cond.code yX0_allow cX0_allow 3 (some .boolean), Cond.fieldLink RX0 19 "Queuefloat$Sums" "accountOf" "[I", Cond.fieldLink RX0 9 "Queuefloat$Limits" "floorOf" "[I", Cond.fieldLink RX0 24 "Queuefloat$Sums" "netPaid" "[I", Cond.fieldLink RX0 15 "Queuefloat$Limits" "boundOf" "[I"]
def wsX4_run : List Cond := .code yX4_run cX4_run 4 (some .int) :: ((wsX4_run_r1 ++ (wsX4_run_r2 ++ (wsX4_run_r3 ++ (wsX4_run_r4 ++ wsX4_run_r5)))) ++ wsX40 ++ wsX20 ++ wsX30 ++ wsX00)
def wsX4_queued : List Cond := .code yX4_queued cX4_queued 3 (some .int) :: ([.classLink RX4 140 "java/lang/IndexOutOfBoundsException", .initialized "java/lang/IndexOutOfBoundsException", .fieldLink RX4 29 "Queuefloat" "payments" "LQueuefloat$Payments;", .methodLink RX4 61 yX4_requireBank, .static yX4_requireBank, .initialized RX4, .code yX4_requireBank cX4_requireBank 1 none, .methodLink RX4 145 yX2_inQueue, .instanceMethod yX2_inQueue, .selects RX2 yX2_inQueue yX2_inQueue, .initialized RX2, .code yX2_inQueue cX2_inQueue 5 (some .int), .fieldLink RX2 31 "Queuefloat$Payments" "made" "I", .fieldLink RX2 28 "Queuefloat$Payments" "byPriority" "[I", .methodLink RX2 44 yX2_waitsAt, .instanceMethod yX2_waitsAt, .selects RX2 yX2_waitsAt yX2_waitsAt, .code yX2_waitsAt cX2_waitsAt 3 (some .boolean), .fieldLink RX2 24 "Queuefloat$Payments" "waits" "[Z", .fieldLink RX2 9 "Queuefloat$Payments" "from" "[I"] ++ wsX40 ++ wsX20 ++ (vx_atS RX4 144 "java/lang/IndexOutOfBoundsException" ["java/lang/RuntimeException", "java/lang/Exception"]).filter goodWord)
def wsX4_why_r1 : List Cond := [Cond.methodLink RX4 122 yX4_requirePayment, Cond.instanceMethod yX4_requirePayment, Cond.selects RX4 yX4_requirePayment yX4_requirePayment, Cond.initialized RX4, Cond.code yX4_requirePayment cX4_requirePayment 2 none, Cond.classLink RX4 140 "java/lang/IndexOutOfBoundsException", Cond.initialized "java/lang/IndexOutOfBoundsException", Cond.fieldLink RX4 29 "Queuefloat" "payments" "LQueuefloat$Payments;", Cond.fieldLink RX4 113 "Queuefloat$Payments" "made" "I", Cond.methodLink RX4 148 yX4_obstacle, Cond.instanceMethod yX4_obstacle, Cond.selects RX4 yX4_obstacle yX4_obstacle, Cond.code yX4_obstacle cX4_obstacle 5 (some .int), Cond.fieldLink RX4 125 "Queuefloat$Payments" "waits" "[Z", Cond.fieldLink RX4 217 "Queuefloat$Payments" "from" "[I", Cond.fieldLink RX4 220 "Queuefloat$Payments" "amount" "[I", Cond.fieldLink RX4 10 "Queuefloat" "sums" "LQueuefloat$Sums;", Cond.fieldLink RX4 73 "Queuefloat$Sums" "accountOf" "[I", Cond.fieldLink RX4 22 "Queuefloat" "limits" "LQueuefloat$Limits;", Cond.fieldLink RX4 91 "Queuefloat$Limits" "floorOf" "[I", Cond.fieldLink RX4 223 "Queuefloat$Payments" "to" "[I", Cond.fieldLink RX4 101 "Queuefloat$Sums" "netPaid" "[I", Cond.fieldLink RX4 107 "Queuefloat$Limits" "boundOf" "[I", Cond.methodLink RX4 98 yX4_pairOf]
def wsX4_why_r2 : List Cond := [Cond.static yX4_pairOf, Cond.code yX4_pairOf cX4_pairOf 2 (some .int)]
def wsX4_why : List Cond := .code yX4_why cX4_why 2 (some .int) :: ((wsX4_why_r1 ++ wsX4_why_r2) ++ wsX40 ++ wsX20 ++ wsX30 ++ wsX00 ++ (vx_atS RX4 144 "java/lang/IndexOutOfBoundsException" ["java/lang/RuntimeException", "java/lang/Exception"]).filter goodWord)
def wsX4_listWaiting : List Cond := .code yX4_listWaiting cX4_listWaiting 3 (some .int) :: ([.fieldLink RX4 29 "Queuefloat" "payments" "LQueuefloat$Payments;", .fieldLink RX4 113 "Queuefloat$Payments" "made" "I", .fieldLink RX4 125 "Queuefloat$Payments" "waits" "[Z", .fieldLink RX4 48 "Queuefloat" "candidates" "[I"] ++ wsX40 ++ wsX20)
def wsX4_canAny_r1 : List Cond := [Cond.classLink RX4 77 "java/lang/IllegalStateException", Cond.initialized "java/lang/IllegalStateException", Cond.fieldLink RX4 29 "Queuefloat" "payments" "LQueuefloat$Payments;", Cond.methodLink RX4 130 yX2_countWaiting, Cond.instanceMethod yX2_countWaiting, Cond.selects RX2 yX2_countWaiting yX2_countWaiting, Cond.initialized RX2, Cond.code yX2_countWaiting cX2_countWaiting 3 (some .int), Cond.fieldLink RX2 31 "Queuefloat$Payments" "made" "I", Cond.fieldLink RX2 24 "Queuefloat$Payments" "waits" "[Z", Cond.methodLink RX4 154 yX4_listWaiting, Cond.instanceMethod yX4_listWaiting, Cond.selects RX4 yX4_listWaiting yX4_listWaiting, Cond.initialized RX4, Cond.code yX4_listWaiting cX4_listWaiting 3 (some .int), Cond.fieldLink RX4 113 "Queuefloat$Payments" "made" "I", Cond.fieldLink RX4 125 "Queuefloat$Payments" "waits" "[Z", Cond.fieldLink RX4 48 "Queuefloat" "candidates" "[I", Cond.methodLink RX4 157 yX4_canGoTogether, Cond.instanceMethod yX4_canGoTogether, Cond.selects RX4 yX4_canGoTogether yX4_canGoTogether, Cond.code yX4_canGoTogether cX4_canGoTogether 4 (some .boolean), Cond.fieldLink RX4 16 "Queuefloat" "trial" "LQueuefloat$Sums;", Cond.fieldLink RX4 10 "Queuefloat" "sums" "LQueuefloat$Sums;"]
def wsX4_canAny_r2 : List Cond := [Cond.fieldLink RX4 22 "Queuefloat" "limits" "LQueuefloat$Limits;", Cond.methodLink RX4 253 yX3_copy, Cond.instanceMethod yX3_copy, Cond.selects RX3 yX3_copy yX3_copy, Cond.initialized RX3, Cond.code yX3_copy cX3_copy 2 none, Cond.fieldLink RX3 9 "Queuefloat$Sums" "accountOf" "[I", Cond.methodLink RX3 22 arraycopyName, Cond.native arraycopyName, Cond.static arraycopyName, Cond.initialized "java/lang/System", Cond.fieldLink RX3 15 "Queuefloat$Sums" "netPaid" "[I", Cond.methodLink RX4 250 yX4_isIn, Cond.static yX4_isIn, Cond.code yX4_isIn cX4_isIn 2 (some .boolean), Cond.methodLink RX4 226 yX2_apply, Cond.instanceMethod yX2_apply, Cond.selects RX2 yX2_apply yX2_apply, Cond.code yX2_apply cX2_apply 3 none, Cond.fieldLink RX2 9 "Queuefloat$Payments" "from" "[I", Cond.fieldLink RX2 15 "Queuefloat$Payments" "to" "[I", Cond.fieldLink RX2 18 "Queuefloat$Payments" "amount" "[I", Cond.methodLink RX2 35 yX3_move, Cond.instanceMethod yX3_move]
def wsX4_canAny_r3 : List Cond := [Cond.selects RX3 yX3_move yX3_move, Cond.code yX3_move cX3_move 4 none, Cond.methodLink RX2 41 yX3_notePaid, Cond.instanceMethod yX3_notePaid, Cond.selects RX3 yX3_notePaid yX3_notePaid, Cond.code yX3_notePaid cX3_notePaid 4 none, Cond.static yX4_pairOf, Cond.code yX4_pairOf cX4_pairOf 2 (some .int), Cond.methodLink RX4 257 yX0_allow, Cond.instanceMethod yX0_allow, Cond.selects RX0 yX0_allow yX0_allow, Cond.initialized RX0, Cond.code yX0_allow cX0_allow 3 (some .boolean), Cond.fieldLink RX0 19 "Queuefloat$Sums" "accountOf" "[I", Cond.fieldLink RX0 9 "Queuefloat$Limits" "floorOf" "[I", Cond.fieldLink RX0 24 "Queuefloat$Sums" "netPaid" "[I", Cond.fieldLink RX0 15 "Queuefloat$Limits" "boundOf" "[I"]
def wsX4_canAny : List Cond := .code yX4_canAny cX4_canAny 3 (some .boolean) :: ((wsX4_canAny_r1 ++ (wsX4_canAny_r2 ++ wsX4_canAny_r3)) ++ wsX40 ++ wsX20 ++ wsX30 ++ wsX00 ++ (vx_atS RX4 81 "java/lang/IllegalStateException" ["java/lang/RuntimeException", "java/lang/Exception"]).filter goodWord)
def wsX4_setPrice : List Cond := .code yX4_setPrice cX4_setPrice 3 none :: ([.fieldLink RX4 55 "Queuefloat" "paperPrice" "I", .fieldLink RX4 58 "Queuefloat" "paperCut" "I", .methodLink RX4 66 yX4_requireRange, .static yX4_requireRange, .initialized RX4, .code yX4_requireRange cX4_requireRange 3 none, .classLink RX4 197 "java/lang/IllegalArgumentException", .initialized "java/lang/IllegalArgumentException"] ++ wsX40 ++ (vx_atS RX4 201 "java/lang/IllegalArgumentException" ["java/lang/RuntimeException", "java/lang/Exception"]).filter goodWord)
def wsX4_pledgeWorth : List Cond := .code yX4_pledgeWorth cX4_pledgeWorth 2 (some .int) :: ([.fieldLink RX4 55 "Queuefloat" "paperPrice" "I", .fieldLink RX4 58 "Queuefloat" "paperCut" "I"] ++ wsX40)
def wsX4_requireLoanable : List Cond := .code yX4_requireLoanable cX4_requireLoanable 5 none :: ([.classLink RX4 77 "java/lang/IllegalStateException", .initialized "java/lang/IllegalStateException", .fieldLink RX4 36 "Queuefloat" "market" "LQueuefloat$Loans;", .fieldLink RX4 169 "Queuefloat$Loans" "made" "I", .fieldLink RX4 44 "Queuefloat" "papersOf" "[I", .fieldLink RX4 10 "Queuefloat" "sums" "LQueuefloat$Sums;", .fieldLink RX4 73 "Queuefloat$Sums" "accountOf" "[I", .fieldLink RX4 22 "Queuefloat" "limits" "LQueuefloat$Limits;", .fieldLink RX4 91 "Queuefloat$Limits" "floorOf" "[I", .methodLink RX4 210 yX4_pledgeWorth, .instanceMethod yX4_pledgeWorth, .selects RX4 yX4_pledgeWorth yX4_pledgeWorth, .initialized RX4, .code yX4_pledgeWorth cX4_pledgeWorth 2 (some .int), .fieldLink RX4 55 "Queuefloat" "paperPrice" "I", .fieldLink RX4 58 "Queuefloat" "paperCut" "I"] ++ wsX40 ++ wsX10 ++ wsX30 ++ wsX00 ++ (vx_atS RX4 81 "java/lang/IllegalStateException" ["java/lang/RuntimeException", "java/lang/Exception"]).filter goodWord)
def wsX4_lend_r1 : List Cond := [Cond.constant RX4 110 (100000), Cond.fieldLink RX4 10 "Queuefloat" "sums" "LQueuefloat$Sums;", Cond.fieldLink RX4 44 "Queuefloat" "papersOf" "[I", Cond.fieldLink RX4 36 "Queuefloat" "market" "LQueuefloat$Loans;", Cond.methodLink RX4 61 yX4_requireBank, Cond.static yX4_requireBank, Cond.initialized RX4, Cond.code yX4_requireBank cX4_requireBank 1 none, Cond.classLink RX4 140 "java/lang/IndexOutOfBoundsException", Cond.initialized "java/lang/IndexOutOfBoundsException", Cond.methodLink RX4 94 yX4_requireTwo, Cond.static yX4_requireTwo, Cond.code yX4_requireTwo cX4_requireTwo 2 none, Cond.classLink RX4 197 "java/lang/IllegalArgumentException", Cond.initialized "java/lang/IllegalArgumentException", Cond.methodLink RX4 66 yX4_requireRange, Cond.static yX4_requireRange, Cond.code yX4_requireRange cX4_requireRange 3 none, Cond.methodLink RX4 70 yX4_requireOpen, Cond.instanceMethod yX4_requireOpen, Cond.selects RX4 yX4_requireOpen yX4_requireOpen, Cond.code yX4_requireOpen cX4_requireOpen 2 none, Cond.classLink RX4 77 "java/lang/IllegalStateException", Cond.initialized "java/lang/IllegalStateException"]
def wsX4_lend_r2 : List Cond := [Cond.fieldLink RX4 40 "Queuefloat" "closed" "[Z", Cond.methodLink RX4 161 yX4_requireLoanable, Cond.instanceMethod yX4_requireLoanable, Cond.selects RX4 yX4_requireLoanable yX4_requireLoanable, Cond.code yX4_requireLoanable cX4_requireLoanable 5 none, Cond.fieldLink RX4 169 "Queuefloat$Loans" "made" "I", Cond.fieldLink RX4 73 "Queuefloat$Sums" "accountOf" "[I", Cond.fieldLink RX4 22 "Queuefloat" "limits" "LQueuefloat$Limits;", Cond.fieldLink RX4 91 "Queuefloat$Limits" "floorOf" "[I", Cond.methodLink RX4 210 yX4_pledgeWorth, Cond.instanceMethod yX4_pledgeWorth, Cond.selects RX4 yX4_pledgeWorth yX4_pledgeWorth, Cond.code yX4_pledgeWorth cX4_pledgeWorth 2 (some .int), Cond.fieldLink RX4 55 "Queuefloat" "paperPrice" "I", Cond.fieldLink RX4 58 "Queuefloat" "paperCut" "I", Cond.methodLink RX4 165 yX3_move, Cond.instanceMethod yX3_move, Cond.selects RX3 yX3_move yX3_move, Cond.initialized RX3, Cond.code yX3_move cX3_move 4 none, Cond.fieldLink RX3 9 "Queuefloat$Sums" "accountOf" "[I", Cond.methodLink RX4 168 yX1_enter, Cond.instanceMethod yX1_enter, Cond.selects RX1 yX1_enter yX1_enter]
def wsX4_lend_r3 : List Cond := [Cond.initialized RX1, Cond.code yX1_enter cX1_enter 6 (some .int), Cond.fieldLink RX1 24 "Queuefloat$Loans" "made" "I", Cond.fieldLink RX1 9 "Queuefloat$Loans" "lender" "[I", Cond.fieldLink RX1 15 "Queuefloat$Loans" "borrower" "[I", Cond.fieldLink RX1 18 "Queuefloat$Loans" "due" "[I", Cond.fieldLink RX1 21 "Queuefloat$Loans" "pledge" "[I"]
def wsX4_lend : List Cond := .code yX4_lend cX4_lend 6 (some .int) :: ((wsX4_lend_r1 ++ (wsX4_lend_r2 ++ wsX4_lend_r3)) ++ wsX40 ++ wsX10 ++ wsX30 ++ wsX00 ++ (vx_atS RX4 144 "java/lang/IndexOutOfBoundsException" ["java/lang/RuntimeException", "java/lang/Exception"]).filter goodWord ++ (vx_atS RX4 201 "java/lang/IllegalArgumentException" ["java/lang/RuntimeException", "java/lang/Exception"]).filter goodWord ++ (vx_atS RX4 81 "java/lang/IllegalStateException" ["java/lang/RuntimeException", "java/lang/Exception"]).filter goodWord)
def wsX4_loans : List Cond := .code yX4_loans cX4_loans 1 (some .int) :: ([.fieldLink RX4 36 "Queuefloat" "market" "LQueuefloat$Loans;", .fieldLink RX4 169 "Queuefloat$Loans" "made" "I", .fieldLink RX4 170 "Queuefloat$Loans" "ended" "I"] ++ wsX40 ++ wsX10)
def wsX4_canRepay : List Cond := .code yX4_canRepay cX4_canRepay 3 (some .boolean) :: ([.fieldLink RX4 36 "Queuefloat" "market" "LQueuefloat$Loans;", .fieldLink RX4 183 "Queuefloat$Loans" "borrower" "[I", .fieldLink RX4 40 "Queuefloat" "closed" "[Z", .fieldLink RX4 10 "Queuefloat" "sums" "LQueuefloat$Sums;", .fieldLink RX4 73 "Queuefloat$Sums" "accountOf" "[I", .fieldLink RX4 261 "Queuefloat$Loans" "due" "[I", .fieldLink RX4 22 "Queuefloat" "limits" "LQueuefloat$Limits;", .fieldLink RX4 91 "Queuefloat$Limits" "floorOf" "[I"] ++ wsX40 ++ wsX10 ++ wsX30 ++ wsX00)
def wsX4_repay : List Cond := .code yX4_repay cX4_repay 3 none :: ([.fieldLink RX4 36 "Queuefloat" "market" "LQueuefloat$Loans;", .fieldLink RX4 183 "Queuefloat$Loans" "borrower" "[I", .fieldLink RX4 10 "Queuefloat" "sums" "LQueuefloat$Sums;", .fieldLink RX4 264 "Queuefloat$Loans" "lender" "[I", .fieldLink RX4 261 "Queuefloat$Loans" "due" "[I", .fieldLink RX4 44 "Queuefloat" "papersOf" "[I", .fieldLink RX4 267 "Queuefloat$Loans" "pledge" "[I", .methodLink RX4 165 yX3_move, .instanceMethod yX3_move, .selects RX3 yX3_move yX3_move, .initialized RX3, .code yX3_move cX3_move 4 none, .fieldLink RX3 9 "Queuefloat$Sums" "accountOf" "[I"] ++ wsX40 ++ wsX10 ++ wsX30)
def wsX4_close : List Cond := .code yX4_close cX4_close 2 (some .int) :: ([.fieldLink RX4 40 "Queuefloat" "closed" "[Z", .fieldLink RX4 29 "Queuefloat" "payments" "LQueuefloat$Payments;", .methodLink RX4 270 yX2_dropAllOf, .instanceMethod yX2_dropAllOf, .selects RX2 yX2_dropAllOf yX2_dropAllOf, .initialized RX2, .code yX2_dropAllOf cX2_dropAllOf 3 none, .fieldLink RX2 31 "Queuefloat$Payments" "made" "I", .fieldLink RX2 9 "Queuefloat$Payments" "from" "[I", .fieldLink RX2 15 "Queuefloat$Payments" "to" "[I", .fieldLink RX2 24 "Queuefloat$Payments" "waits" "[Z"] ++ wsX40 ++ wsX20)
def wsX4_sellPledge : List Cond := .code yX4_sellPledge cX4_sellPledge 4 none :: ([.fieldLink RX4 36 "Queuefloat" "market" "LQueuefloat$Loans;", .fieldLink RX4 267 "Queuefloat$Loans" "pledge" "[I", .fieldLink RX4 55 "Queuefloat" "paperPrice" "I", .fieldLink RX4 261 "Queuefloat$Loans" "due" "[I", .methodLink RX4 85 Lib.Math.min.name, .static Lib.Math.min.name, .initialized "java/lang/Math", .code Lib.Math.min.name Lib.Math.min.code 2 (some .int), .fieldLink RX4 10 "Queuefloat" "sums" "LQueuefloat$Sums;", .fieldLink RX4 73 "Queuefloat$Sums" "accountOf" "[I", .fieldLink RX4 264 "Queuefloat$Loans" "lender" "[I", .fieldLink RX4 183 "Queuefloat$Loans" "borrower" "[I", .fieldLink RX4 192 "Queuefloat" "proceeds" "I"] ++ wsX40 ++ wsX10 ++ wsX30)
def wsX4_morning_r1 : List Cond := [Cond.fieldLink RX4 10 "Queuefloat" "sums" "LQueuefloat$Sums;", Cond.fieldLink RX4 36 "Queuefloat" "market" "LQueuefloat$Loans;", Cond.fieldLink RX4 170 "Queuefloat$Loans" "ended" "I", Cond.fieldLink RX4 169 "Queuefloat$Loans" "made" "I", Cond.fieldLink RX4 183 "Queuefloat$Loans" "borrower" "[I", Cond.methodLink RX4 173 yX3_forgetPaid, Cond.instanceMethod yX3_forgetPaid, Cond.selects RX3 yX3_forgetPaid yX3_forgetPaid, Cond.initialized RX3, Cond.code yX3_forgetPaid cX3_forgetPaid 2 none, Cond.fieldLink RX3 15 "Queuefloat$Sums" "netPaid" "[I", Cond.methodLink RX4 176 yX4_canRepay, Cond.instanceMethod yX4_canRepay, Cond.selects RX4 yX4_canRepay yX4_canRepay, Cond.initialized RX4, Cond.code yX4_canRepay cX4_canRepay 3 (some .boolean), Cond.fieldLink RX4 40 "Queuefloat" "closed" "[Z", Cond.fieldLink RX4 73 "Queuefloat$Sums" "accountOf" "[I", Cond.fieldLink RX4 261 "Queuefloat$Loans" "due" "[I", Cond.fieldLink RX4 22 "Queuefloat" "limits" "LQueuefloat$Limits;", Cond.fieldLink RX4 91 "Queuefloat$Limits" "floorOf" "[I", Cond.methodLink RX4 180 yX4_repay, Cond.instanceMethod yX4_repay, Cond.selects RX4 yX4_repay yX4_repay]
def wsX4_morning_r2 : List Cond := [Cond.code yX4_repay cX4_repay 3 none, Cond.fieldLink RX4 264 "Queuefloat$Loans" "lender" "[I", Cond.fieldLink RX4 44 "Queuefloat" "papersOf" "[I", Cond.fieldLink RX4 267 "Queuefloat$Loans" "pledge" "[I", Cond.methodLink RX4 165 yX3_move, Cond.instanceMethod yX3_move, Cond.selects RX3 yX3_move yX3_move, Cond.code yX3_move cX3_move 4 none, Cond.fieldLink RX3 9 "Queuefloat$Sums" "accountOf" "[I", Cond.methodLink RX4 186 yX4_close, Cond.instanceMethod yX4_close, Cond.selects RX4 yX4_close yX4_close, Cond.code yX4_close cX4_close 2 (some .int), Cond.fieldLink RX4 29 "Queuefloat" "payments" "LQueuefloat$Payments;", Cond.methodLink RX4 270 yX2_dropAllOf, Cond.instanceMethod yX2_dropAllOf, Cond.selects RX2 yX2_dropAllOf yX2_dropAllOf, Cond.initialized RX2, Cond.code yX2_dropAllOf cX2_dropAllOf 3 none, Cond.fieldLink RX2 31 "Queuefloat$Payments" "made" "I", Cond.fieldLink RX2 9 "Queuefloat$Payments" "from" "[I", Cond.fieldLink RX2 15 "Queuefloat$Payments" "to" "[I", Cond.fieldLink RX2 24 "Queuefloat$Payments" "waits" "[Z", Cond.methodLink RX4 189 yX4_sellPledge]
def wsX4_morning_r3 : List Cond := [Cond.instanceMethod yX4_sellPledge, Cond.selects RX4 yX4_sellPledge yX4_sellPledge, Cond.code yX4_sellPledge cX4_sellPledge 4 none, Cond.fieldLink RX4 55 "Queuefloat" "paperPrice" "I", Cond.methodLink RX4 85 Lib.Math.min.name, Cond.static Lib.Math.min.name, Cond.initialized "java/lang/Math", Cond.code Lib.Math.min.name Lib.Math.min.code 2 (some .int), Cond.fieldLink RX4 192 "Queuefloat" "proceeds" "I"]
def wsX4_morning : List Cond := .code yX4_morning cX4_morning 3 (some .int) :: ((wsX4_morning_r1 ++ (wsX4_morning_r2 ++ wsX4_morning_r3)) ++ wsX40 ++ wsX10 ++ wsX30 ++ wsX00 ++ wsX20)
def wsX4_sold : List Cond := .code yX4_sold cX4_sold 1 (some .int) :: ([.fieldLink RX4 192 "Queuefloat" "proceeds" "I"] ++ wsX40)
def wsJ9_max_7cf53 : List Cond := .code yJ9_max_7cf53 cJ9_max_7cf53 2 (some .int) :: ([])
def wsJ9_min_7cf53 : List Cond := .code yJ9_min_7cf53 cJ9_min_7cf53 2 (some .int) :: ([])
theorem wsL_law_x0 : ∀ w ∈ (vx_atS RX4 144 "java/lang/IndexOutOfBoundsException" ["java/lang/RuntimeException", "java/lang/Exception"]).filter goodWord, w ∈ lw_tbl := by decide +kernel
theorem wsL_law_x1 : ∀ w ∈ (vx_atS RX4 81 "java/lang/IllegalStateException" ["java/lang/RuntimeException", "java/lang/Exception"]).filter goodWord, w ∈ lw_tbl := by decide +kernel
theorem wsL_law_x2 : ∀ w ∈ (vx_atS RX4 201 "java/lang/IllegalArgumentException" ["java/lang/RuntimeException", "java/lang/Exception"]).filter goodWord, w ∈ lw_tbl := by decide +kernel
theorem inJ6 : ∀ w ∈ wsJ60, w ∈ lw_tbl := by decide +kernel
theorem inJ9 : ∀ w ∈ wsJ90, w ∈ lw_tbl := by decide +kernel
theorem inJ0 : ∀ w ∈ wsJ00, w ∈ lw_tbl := by decide +kernel
theorem inJ10 : ∀ w ∈ wsJ100, w ∈ lw_tbl := by decide +kernel
set_option maxRecDepth 20000 in
theorem ggX2_apply_X3_move : GoodIn wsX2_apply wsX3_move := goodIn_r _ [8, 9, 25, 26] (by decide +kernel) (by decide +kernel)
set_option maxRecDepth 20000 in
theorem gX2_apply_X3_move : GoodIn wsX2_apply (wsV RX2 35 RX3 yX3_move wsX3_move) := goodIn_app (goodIn_of _ (by decide +kernel)) ggX2_apply_X3_move
set_option maxRecDepth 20000 in
theorem ggX2_apply_X3_notePaid : GoodIn wsX2_apply wsX3_notePaid := goodIn_r _ [13, 14, 15, 16, 17, 25, 26] (by decide +kernel) (by decide +kernel)
set_option maxRecDepth 20000 in
theorem gX2_apply_X3_notePaid : GoodIn wsX2_apply (wsV RX2 41 RX3 yX3_notePaid wsX3_notePaid) := goodIn_app (goodIn_of _ (by decide +kernel)) ggX2_apply_X3_notePaid
set_option maxRecDepth 20000 in
theorem ggX2_inQueue_X2_waitsAt : GoodIn wsX2_inQueue wsX2_waitsAt := goodIn_r _ [7, 8, 9, 10, 11, 12, 13, 14, 15, 16] (by decide +kernel) (by decide +kernel)
set_option maxRecDepth 20000 in
theorem gX2_inQueue_X2_waitsAt : GoodIn wsX2_inQueue (wsV RX2 44 RX2 yX2_waitsAt wsX2_waitsAt) := goodIn_app (goodIn_of _ (by decide +kernel)) ggX2_inQueue_X2_waitsAt
set_option maxRecDepth 20000 in
theorem ggX3_notePaid_X4_pairOf : GoodIn wsX3_notePaid wsX4_pairOf := goodIn_r _ [4] (by decide +kernel) (by decide +kernel)
set_option maxRecDepth 20000 in
theorem gX3_notePaid_X4_pairOf_n18 : GoodIn wsX3_notePaid (wsX4_pairOf) := ggX3_notePaid_X4_pairOf
set_option maxRecDepth 20000 in
theorem ggX4_init_X3_init : GoodIn wsX4_init wsX3_init := goodIn_r _ [31, 32, 2, 3, 23, 33, 34, 60, 61] (by decide +kernel) (by decide +kernel)
set_option maxRecDepth 20000 in
theorem gX4_init_X3_init : GoodIn wsX4_init (wsX3_init) := ggX4_init_X3_init
set_option maxRecDepth 20000 in
theorem ggX4_init_X0_init : GoodIn wsX4_init wsX0_init := goodIn_r _ [37, 38, 2, 3, 23, 39, 40, 41, 74, 75] (by decide +kernel) (by decide +kernel)
set_option maxRecDepth 20000 in
theorem gX4_init_X0_init : GoodIn wsX4_init (wsX0_init) := ggX4_init_X0_init
set_option maxRecDepth 20000 in
theorem ggX4_init_X2_init : GoodIn wsX4_init wsX2_init := goodIn_r _ [44, 45, 2, 3, 23, 46, 47, 48, 49, 21, 50, 51, 76, 77, 78, 79, 80, 81, 82] (by decide +kernel) (by decide +kernel)
set_option maxRecDepth 20000 in
theorem gX4_init_X2_init : GoodIn wsX4_init (wsX2_init) := ggX4_init_X2_init
set_option maxRecDepth 20000 in
theorem ggX4_init_X1_init : GoodIn wsX4_init wsX1_init := goodIn_r _ [54, 55, 2, 3, 23, 56, 57, 58, 59, 83, 84, 85, 86, 87, 88] (by decide +kernel) (by decide +kernel)
set_option maxRecDepth 20000 in
theorem gX4_init_X1_init : GoodIn wsX4_init (wsX1_init) := ggX4_init_X1_init
set_option maxRecDepth 20000 in
theorem ggX4_fund_X4_requireBank : GoodIn wsX4_fund wsX4_requireBank := goodIn_ca (goodIn_r _ [10, 11, 12] (by decide +kernel) (by decide +kernel)) (goodIn_sub (fun _ h => List.mem_cons_of_mem _ (List.mem_append_left _ (List.mem_append_right _ h))) (by decide +kernel))
set_option maxRecDepth 20000 in
theorem gX4_fund_X4_requireBank : GoodIn wsX4_fund (va_wsS RX4 61 yX4_requireBank wsX4_requireBank) := goodIn_app (goodIn_of _ (by decide +kernel)) ggX4_fund_X4_requireBank
set_option maxRecDepth 20000 in
theorem ggX4_fund_X4_requireRange : GoodIn wsX4_fund wsX4_requireRange := goodIn_ca (goodIn_r _ [15, 16, 17] (by decide +kernel) (by decide +kernel)) (goodIn_sub (fun _ h => List.mem_cons_of_mem _ (List.mem_append_right _ h)) (by decide +kernel))
set_option maxRecDepth 20000 in
theorem gX4_fund_X4_requireRange : GoodIn wsX4_fund (va_wsS RX4 66 yX4_requireRange wsX4_requireRange) := goodIn_app (goodIn_of _ (by decide +kernel)) ggX4_fund_X4_requireRange
set_option maxRecDepth 20000 in
theorem ggX4_fund_X4_requireOpen : GoodIn wsX4_fund wsX4_requireOpen := goodIn_ca (goodIn_r _ [21, 1, 2, 22, 23, 24, 25, 26, 27, 28, 29, 30, 31, 32, 33, 34] (by decide +kernel) (by decide +kernel)) (goodIn_sub (fun _ h => List.mem_cons_of_mem _ (List.mem_append_left _ (List.mem_append_left _ (List.mem_append_right _ h)))) (by decide +kernel))
set_option maxRecDepth 20000 in
theorem gX4_fund_X4_requireOpen : GoodIn wsX4_fund (wsV RX4 70 RX4 yX4_requireOpen wsX4_requireOpen) := goodIn_app (goodIn_of _ (by decide +kernel)) ggX4_fund_X4_requireOpen
set_option maxRecDepth 20000 in
theorem ggX4_setFloor_X4_requireBank : GoodIn wsX4_setFloor wsX4_requireBank := goodIn_ca (goodIn_r _ [13, 14, 15] (by decide +kernel) (by decide +kernel)) (goodIn_sub (fun _ h => List.mem_cons_of_mem _ (List.mem_append_left _ (List.mem_append_right _ h))) (by decide +kernel))
set_option maxRecDepth 20000 in
theorem gX4_setFloor_X4_requireBank : GoodIn wsX4_setFloor (va_wsS RX4 61 yX4_requireBank wsX4_requireBank) := goodIn_app (goodIn_of _ (by decide +kernel)) ggX4_setFloor_X4_requireBank
set_option maxRecDepth 20000 in
theorem ggX4_setFloor_X4_requireRange : GoodIn wsX4_setFloor wsX4_requireRange := goodIn_ca (goodIn_r _ [18, 19, 20] (by decide +kernel) (by decide +kernel)) (goodIn_sub (fun _ h => List.mem_cons_of_mem _ (List.mem_append_right _ h)) (by decide +kernel))
set_option maxRecDepth 20000 in
theorem gX4_setFloor_X4_requireRange : GoodIn wsX4_setFloor (va_wsS RX4 66 yX4_requireRange wsX4_requireRange) := goodIn_app (goodIn_of _ (by decide +kernel)) ggX4_setFloor_X4_requireRange
set_option maxRecDepth 20000 in
theorem ggX4_setBound_X4_requireBank : GoodIn wsX4_setBound wsX4_requireBank := goodIn_ca (goodIn_r _ [13, 14, 15] (by decide +kernel) (by decide +kernel)) (goodIn_sub (fun _ h => List.mem_cons_of_mem _ (List.mem_append_left _ (List.mem_append_right _ h))) (by decide +kernel))
set_option maxRecDepth 20000 in
theorem gX4_setBound_X4_requireBank : GoodIn wsX4_setBound (va_wsS RX4 61 yX4_requireBank wsX4_requireBank) := goodIn_app (goodIn_of _ (by decide +kernel)) ggX4_setBound_X4_requireBank
set_option maxRecDepth 20000 in
theorem ggX4_setBound_X4_requireTwo : GoodIn wsX4_setBound wsX4_requireTwo := goodIn_ca (goodIn_r _ [18, 19, 20] (by decide +kernel) (by decide +kernel)) (goodIn_sub (fun _ h => List.mem_cons_of_mem _ (List.mem_append_right _ h)) (by decide +kernel))
set_option maxRecDepth 20000 in
theorem gX4_setBound_X4_requireTwo : GoodIn wsX4_setBound (va_wsS RX4 94 yX4_requireTwo wsX4_requireTwo) := goodIn_app (goodIn_of _ (by decide +kernel)) ggX4_setBound_X4_requireTwo
set_option maxRecDepth 20000 in
theorem ggX4_setBound_X4_pairOf : GoodIn wsX4_setBound wsX4_pairOf := goodIn_r _ [23] (by decide +kernel) (by decide +kernel)
set_option maxRecDepth 20000 in
theorem gX4_setBound_X4_pairOf : GoodIn wsX4_setBound (va_wsS RX4 98 yX4_pairOf wsX4_pairOf) := goodIn_app (goodIn_of _ (by decide +kernel)) ggX4_setBound_X4_pairOf
set_option maxRecDepth 20000 in
theorem ggX4_setBound_X4_requireRange : GoodIn wsX4_setBound wsX4_requireRange := goodIn_ca (goodIn_r _ [26, 19, 20] (by decide +kernel) (by decide +kernel)) (goodIn_sub (fun _ h => List.mem_cons_of_mem _ (List.mem_append_right _ h)) (by decide +kernel))
set_option maxRecDepth 20000 in
theorem gX4_setBound_X4_requireRange : GoodIn wsX4_setBound (va_wsS RX4 66 yX4_requireRange wsX4_requireRange) := goodIn_app (goodIn_of _ (by decide +kernel)) ggX4_setBound_X4_requireRange
set_option maxRecDepth 20000 in
theorem ggX4_givePapers_X4_requireBank : GoodIn wsX4_givePapers wsX4_requireBank := goodIn_ca (goodIn_r _ [8, 9, 10] (by decide +kernel) (by decide +kernel)) (goodIn_sub (fun _ h => List.mem_cons_of_mem _ (List.mem_append_left _ (List.mem_append_right _ h))) (by decide +kernel))
set_option maxRecDepth 20000 in
theorem gX4_givePapers_X4_requireBank : GoodIn wsX4_givePapers (va_wsS RX4 61 yX4_requireBank wsX4_requireBank) := goodIn_app (goodIn_of _ (by decide +kernel)) ggX4_givePapers_X4_requireBank
set_option maxRecDepth 20000 in
theorem ggX4_givePapers_X4_requireRange : GoodIn wsX4_givePapers wsX4_requireRange := goodIn_ca (goodIn_r _ [13, 14, 15] (by decide +kernel) (by decide +kernel)) (goodIn_sub (fun _ h => List.mem_cons_of_mem _ (List.mem_append_right _ h)) (by decide +kernel))
set_option maxRecDepth 20000 in
theorem gX4_givePapers_X4_requireRange : GoodIn wsX4_givePapers (va_wsS RX4 66 yX4_requireRange wsX4_requireRange) := goodIn_app (goodIn_of _ (by decide +kernel)) ggX4_givePapers_X4_requireRange
set_option maxRecDepth 20000 in
theorem ggX4_givePapers_X4_requireOpen : GoodIn wsX4_givePapers wsX4_requireOpen := goodIn_ca (goodIn_r _ [19, 1, 2, 20, 21, 22, 23, 24, 25, 26, 27, 28, 29, 30, 31, 32] (by decide +kernel) (by decide +kernel)) (goodIn_sub (fun _ h => List.mem_cons_of_mem _ (List.mem_append_left _ (List.mem_append_left _ (List.mem_append_right _ h)))) (by decide +kernel))
set_option maxRecDepth 20000 in
theorem gX4_givePapers_X4_requireOpen : GoodIn wsX4_givePapers (wsV RX4 70 RX4 yX4_requireOpen wsX4_requireOpen) := goodIn_app (goodIn_of _ (by decide +kernel)) ggX4_givePapers_X4_requireOpen
set_option maxRecDepth 20000 in
theorem ggX4_account_X4_requireBank : GoodIn wsX4_account wsX4_requireBank := goodIn_ca (goodIn_r _ [6, 7, 8] (by decide +kernel) (by decide +kernel)) (goodIn_sub (fun _ h => List.mem_cons_of_mem _ (List.mem_append_right _ h)) (by decide +kernel))
set_option maxRecDepth 20000 in
theorem gX4_account_X4_requireBank : GoodIn wsX4_account (va_wsS RX4 61 yX4_requireBank wsX4_requireBank) := goodIn_app (goodIn_of _ (by decide +kernel)) ggX4_account_X4_requireBank
set_option maxRecDepth 20000 in
theorem ggX4_papers_X4_requireBank : GoodIn wsX4_papers wsX4_requireBank := goodIn_ca (goodIn_r _ [5, 6, 7] (by decide +kernel) (by decide +kernel)) (goodIn_sub (fun _ h => List.mem_cons_of_mem _ (List.mem_append_right _ h)) (by decide +kernel))
set_option maxRecDepth 20000 in
theorem gX4_papers_X4_requireBank : GoodIn wsX4_papers (va_wsS RX4 61 yX4_requireBank wsX4_requireBank) := goodIn_app (goodIn_of _ (by decide +kernel)) ggX4_papers_X4_requireBank
set_option maxRecDepth 20000 in
theorem ggX4_isOpen_X4_requireBank : GoodIn wsX4_isOpen wsX4_requireBank := goodIn_ca (goodIn_r _ [5, 6, 7] (by decide +kernel) (by decide +kernel)) (goodIn_sub (fun _ h => List.mem_cons_of_mem _ (List.mem_append_right _ h)) (by decide +kernel))
set_option maxRecDepth 20000 in
theorem gX4_isOpen_X4_requireBank : GoodIn wsX4_isOpen (va_wsS RX4 61 yX4_requireBank wsX4_requireBank) := goodIn_app (goodIn_of _ (by decide +kernel)) ggX4_isOpen_X4_requireBank
set_option maxRecDepth 20000 in
theorem ggX4_paid_X4_requireBank : GoodIn wsX4_paid wsX4_requireBank := goodIn_ca (goodIn_r _ [6, 7, 8] (by decide +kernel) (by decide +kernel)) (goodIn_sub (fun _ h => List.mem_cons_of_mem _ (List.mem_append_right _ h)) (by decide +kernel))
set_option maxRecDepth 20000 in
theorem gX4_paid_X4_requireBank : GoodIn wsX4_paid (va_wsS RX4 61 yX4_requireBank wsX4_requireBank) := goodIn_app (goodIn_of _ (by decide +kernel)) ggX4_paid_X4_requireBank
set_option maxRecDepth 20000 in
theorem ggX4_paid_X4_pairOf : GoodIn wsX4_paid wsX4_pairOf := goodIn_r _ [11] (by decide +kernel) (by decide +kernel)
set_option maxRecDepth 20000 in
theorem gX4_paid_X4_pairOf : GoodIn wsX4_paid (va_wsS RX4 98 yX4_pairOf wsX4_pairOf) := goodIn_app (goodIn_of _ (by decide +kernel)) ggX4_paid_X4_pairOf
set_option maxRecDepth 20000 in
theorem ggX4_pay_X4_requireBank : GoodIn wsX4_pay wsX4_requireBank := goodIn_ca (goodIn_r _ [9, 10, 11] (by decide +kernel) (by decide +kernel)) (goodIn_sub (fun _ h => List.mem_cons_of_mem _ (List.mem_append_left _ (List.mem_append_right _ h))) (by decide +kernel))
set_option maxRecDepth 20000 in
theorem gX4_pay_X4_requireBank : GoodIn wsX4_pay (va_wsS RX4 61 yX4_requireBank wsX4_requireBank) := goodIn_app (goodIn_of _ (by decide +kernel)) ggX4_pay_X4_requireBank
set_option maxRecDepth 20000 in
theorem ggX4_pay_X4_requireTwo : GoodIn wsX4_pay wsX4_requireTwo := goodIn_ca (goodIn_r _ [14, 15, 16] (by decide +kernel) (by decide +kernel)) (goodIn_sub (fun _ h => List.mem_cons_of_mem _ (List.mem_append_right _ h)) (by decide +kernel))
set_option maxRecDepth 20000 in
theorem gX4_pay_X4_requireTwo : GoodIn wsX4_pay (va_wsS RX4 94 yX4_requireTwo wsX4_requireTwo) := goodIn_app (goodIn_of _ (by decide +kernel)) ggX4_pay_X4_requireTwo
set_option maxRecDepth 20000 in
theorem ggX4_pay_X4_requireRange : GoodIn wsX4_pay wsX4_requireRange := goodIn_ca (goodIn_r _ [19, 15, 16] (by decide +kernel) (by decide +kernel)) (goodIn_sub (fun _ h => List.mem_cons_of_mem _ (List.mem_append_right _ h)) (by decide +kernel))
set_option maxRecDepth 20000 in
theorem gX4_pay_X4_requireRange : GoodIn wsX4_pay (va_wsS RX4 66 yX4_requireRange wsX4_requireRange) := goodIn_app (goodIn_of _ (by decide +kernel)) ggX4_pay_X4_requireRange
set_option maxRecDepth 20000 in
theorem ggX4_pay_X4_requireOpen : GoodIn wsX4_pay wsX4_requireOpen := goodIn_ca (goodIn_r _ [23, 1, 2, 24, 37, 38, 39, 40, 41, 42, 43, 44, 45, 46, 47, 48] (by decide +kernel) (by decide +kernel)) (goodIn_sub (fun _ h => List.mem_cons_of_mem _ (List.mem_append_left _ (List.mem_append_left _ (List.mem_append_right _ h)))) (by decide +kernel))
set_option maxRecDepth 20000 in
theorem gX4_pay_X4_requireOpen : GoodIn wsX4_pay (wsV RX4 70 RX4 yX4_requireOpen wsX4_requireOpen) := goodIn_app (goodIn_of _ (by decide +kernel)) ggX4_pay_X4_requireOpen
set_option maxRecDepth 20000 in
theorem ggX4_pay_X2_enter : GoodIn wsX4_pay wsX2_enter := goodIn_r _ [29, 30, 31, 32, 33, 34, 35, 36, 49, 50, 51, 52, 53, 54, 55] (by decide +kernel) (by decide +kernel)
set_option maxRecDepth 20000 in
theorem gX4_pay_X2_enter : GoodIn wsX4_pay (wsV RX4 118 RX2 yX2_enter wsX2_enter) := goodIn_app (goodIn_of _ (by decide +kernel)) ggX4_pay_X2_enter
set_option maxRecDepth 20000 in
theorem ggX4_drop_X4_requirePayment : GoodIn wsX4_drop wsX4_requirePayment := goodIn_ca (goodIn_r _ [9, 10, 11, 3, 12, 20, 21, 22, 23, 24, 25, 26, 27, 28, 29, 30, 31, 32, 33, 34, 35, 36, 37, 38] (by decide +kernel) (by decide +kernel)) (goodIn_sub (fun _ h => List.mem_cons_of_mem _ (List.mem_append_right _ h)) (by decide +kernel))
set_option maxRecDepth 20000 in
theorem gX4_drop_X4_requirePayment : GoodIn wsX4_drop (wsV RX4 122 RX4 yX4_requirePayment wsX4_requirePayment) := goodIn_app (goodIn_of _ (by decide +kernel)) ggX4_drop_X4_requirePayment
set_option maxRecDepth 20000 in
theorem ggX4_drop_X2_countWaiting : GoodIn wsX4_drop wsX2_countWaiting := goodIn_r _ [17, 18, 19, 32, 33, 34, 35, 36, 37, 38] (by decide +kernel) (by decide +kernel)
set_option maxRecDepth 20000 in
theorem gX4_drop_X2_countWaiting : GoodIn wsX4_drop (wsV RX4 130 RX2 yX2_countWaiting wsX2_countWaiting) := goodIn_app (goodIn_of _ (by decide +kernel)) ggX4_drop_X2_countWaiting
set_option maxRecDepth 20000 in
theorem ggX4_setSmall_X4_requireRange : GoodIn wsX4_setSmall wsX4_requireRange := goodIn_ca (goodIn_r _ [6, 7, 8] (by decide +kernel) (by decide +kernel)) (goodIn_sub (fun _ h => List.mem_cons_of_mem _ (List.mem_append_right _ h)) (by decide +kernel))
set_option maxRecDepth 20000 in
theorem gX4_setSmall_X4_requireRange : GoodIn wsX4_setSmall (va_wsS RX4 66 yX4_requireRange wsX4_requireRange) := goodIn_app (goodIn_of _ (by decide +kernel)) ggX4_setSmall_X4_requireRange
set_option maxRecDepth 20000 in
theorem ggX4_run_X4_goThroughBanks : GoodIn wsX4_run wsX4_goThroughBanks := goodIn_r _ [5, 6, 7, 8, 4, 9, 10, 11, 12, 13, 14, 15, 16, 17, 18, 19, 20, 21, 22, 23, 24, 25, 26, 27, 28, 29, 30, 31, 32, 33, 34, 35, 36, 37, 38, 39, 40, 41, 42, 43, 44, 45, 46, 47, 48, 49, 50, 51, 52, 53, 54, 55, 56, 57, 58, 59, 60, 61, 62, 63, 64, 65, 66, 67, 68, 69, 107, 108, 109, 110, 111, 112, 113, 114, 115, 116, 117, 118, 119, 120, 121, 122, 123, 124, 125, 126, 127, 128, 129] (by decide +kernel) (by decide +kernel)
set_option maxRecDepth 20000 in
theorem gX4_run_X4_goThroughBanks : GoodIn wsX4_run (wsV RX4 134 RX4 yX4_goThroughBanks wsX4_goThroughBanks) := goodIn_app (goodIn_of _ (by decide +kernel)) ggX4_run_X4_goThroughBanks
set_option maxRecDepth 20000 in
theorem ggX4_run_X4_sendLargestSet : GoodIn wsX4_run wsX4_sendLargestSet := goodIn_r _ [73, 74, 10, 11, 12, 13, 14, 15, 16, 17, 18, 19, 20, 21, 22, 23, 75, 76, 77, 78, 79, 80, 81, 82, 83, 84, 4, 85, 86, 31, 33, 87, 88, 89, 62, 90, 64, 91, 92, 93, 94, 69, 95, 96, 97, 53, 54, 55, 56, 57, 58, 59, 60, 61, 63, 65, 66, 67, 68, 39, 40, 98, 99, 100, 101, 102, 103, 104, 105, 106, 49, 50, 51, 52, 28, 107, 108, 109, 110, 111, 112, 113, 114, 115, 116, 117, 118, 119, 120, 121, 122, 123, 124, 125, 126, 127, 128, 129] (by decide +kernel) (by decide +kernel)
set_option maxRecDepth 20000 in
theorem gX4_run_X4_sendLargestSet : GoodIn wsX4_run (wsV RX4 137 RX4 yX4_sendLargestSet wsX4_sendLargestSet) := goodIn_app (goodIn_of _ (by decide +kernel)) ggX4_run_X4_sendLargestSet
set_option maxRecDepth 20000 in
theorem ggX4_queued_X4_requireBank : GoodIn wsX4_queued wsX4_requireBank := goodIn_ca (goodIn_r _ [7, 1, 2] (by decide +kernel) (by decide +kernel)) (goodIn_sub (fun _ h => List.mem_cons_of_mem _ (List.mem_append_right _ h)) (by decide +kernel))
set_option maxRecDepth 20000 in
theorem gX4_queued_X4_requireBank : GoodIn wsX4_queued (va_wsS RX4 61 yX4_requireBank wsX4_requireBank) := goodIn_app (goodIn_of _ (by decide +kernel)) ggX4_queued_X4_requireBank
set_option maxRecDepth 20000 in
theorem ggX4_queued_X2_inQueue : GoodIn wsX4_queued wsX2_inQueue := goodIn_r _ [12, 13, 14, 15, 16, 17, 11, 18, 19, 20, 33, 34, 35, 36, 37, 38, 39] (by decide +kernel) (by decide +kernel)
set_option maxRecDepth 20000 in
theorem gX4_queued_X2_inQueue : GoodIn wsX4_queued (wsV RX4 145 RX2 yX2_inQueue wsX2_inQueue) := goodIn_app (goodIn_of _ (by decide +kernel)) ggX4_queued_X2_inQueue
set_option maxRecDepth 20000 in
theorem ggX4_why_X4_requirePayment : GoodIn wsX4_why wsX4_requirePayment := goodIn_ca (goodIn_r _ [5, 6, 7, 8, 9, 27, 28, 29, 30, 31, 32, 33, 34, 35, 36, 37, 38, 39, 40, 41, 42, 43, 44, 45] (by decide +kernel) (by decide +kernel)) (goodIn_sub (fun _ h => List.mem_cons_of_mem _ (List.mem_append_right _ h)) (by decide +kernel))
set_option maxRecDepth 20000 in
theorem gX4_why_X4_requirePayment : GoodIn wsX4_why (wsV RX4 122 RX4 yX4_requirePayment wsX4_requirePayment) := goodIn_app (goodIn_of _ (by decide +kernel)) ggX4_why_X4_requirePayment
set_option maxRecDepth 20000 in
theorem ggX4_why_X4_obstacle : GoodIn wsX4_why wsX4_obstacle := goodIn_r _ [13, 8, 14, 15, 16, 17, 18, 19, 20, 21, 22, 23, 24, 25, 4, 26, 27, 28, 29, 30, 31, 32, 33, 34, 35, 36, 37, 38, 39, 40, 41, 42, 43, 44, 45, 46, 47, 48, 49] (by decide +kernel) (by decide +kernel)
set_option maxRecDepth 20000 in
theorem gX4_why_X4_obstacle : GoodIn wsX4_why (wsV RX4 148 RX4 yX4_obstacle wsX4_obstacle) := goodIn_app (goodIn_of _ (by decide +kernel)) ggX4_why_X4_obstacle
set_option maxRecDepth 20000 in
theorem ggX4_canAny_X2_countWaiting : GoodIn wsX4_canAny wsX2_countWaiting := goodIn_r _ [8, 9, 10, 78, 79, 80, 81, 82, 83, 84] (by decide +kernel) (by decide +kernel)
set_option maxRecDepth 20000 in
theorem gX4_canAny_X2_countWaiting : GoodIn wsX4_canAny (wsV RX4 130 RX2 yX2_countWaiting wsX2_countWaiting) := goodIn_app (goodIn_of _ (by decide +kernel)) ggX4_canAny_X2_countWaiting
set_option maxRecDepth 20000 in
theorem ggX4_canAny_X4_listWaiting : GoodIn wsX4_canAny wsX4_listWaiting := goodIn_r _ [15, 3, 16, 17, 18, 66, 67, 68, 69, 70, 71, 72, 73, 74, 75, 76, 77, 78, 79, 80, 81, 82, 83, 84] (by decide +kernel) (by decide +kernel)
set_option maxRecDepth 20000 in
theorem gX4_canAny_X4_listWaiting : GoodIn wsX4_canAny (wsV RX4 154 RX4 yX4_listWaiting wsX4_listWaiting) := goodIn_app (goodIn_of _ (by decide +kernel)) ggX4_canAny_X4_listWaiting
set_option maxRecDepth 20000 in
theorem ggX4_canAny_X4_canGoTogether : GoodIn wsX4_canAny wsX4_canGoTogether := goodIn_r _ [22, 23, 24, 18, 3, 25, 26, 27, 28, 29, 30, 31, 32, 33, 34, 35, 36, 37, 38, 14, 39, 40, 41, 42, 7, 43, 44, 45, 46, 47, 48, 49, 50, 51, 52, 53, 54, 55, 56, 57, 58, 59, 60, 61, 62, 63, 64, 65, 66, 67, 68, 69, 70, 71, 72, 73, 74, 75, 76, 77, 85, 86, 78, 79, 80, 81, 82, 83, 84, 87, 88] (by decide +kernel) (by decide +kernel)
set_option maxRecDepth 20000 in
theorem gX4_canAny_X4_canGoTogether : GoodIn wsX4_canAny (wsV RX4 157 RX4 yX4_canGoTogether wsX4_canGoTogether) := goodIn_app (goodIn_of _ (by decide +kernel)) ggX4_canAny_X4_canGoTogether
set_option maxRecDepth 20000 in
theorem ggX4_setPrice_X4_requireRange : GoodIn wsX4_setPrice wsX4_requireRange := goodIn_ca (goodIn_r _ [6, 7, 8] (by decide +kernel) (by decide +kernel)) (goodIn_sub (fun _ h => List.mem_cons_of_mem _ (List.mem_append_right _ h)) (by decide +kernel))
set_option maxRecDepth 20000 in
theorem gX4_setPrice_X4_requireRange : GoodIn wsX4_setPrice (va_wsS RX4 66 yX4_requireRange wsX4_requireRange) := goodIn_app (goodIn_of _ (by decide +kernel)) ggX4_setPrice_X4_requireRange
set_option maxRecDepth 20000 in
theorem ggX4_lend_X4_requireBank : GoodIn wsX4_lend wsX4_requireBank := goodIn_ca (goodIn_r _ [8, 9, 10] (by decide +kernel) (by decide +kernel)) (goodIn_sub (fun _ h => List.mem_cons_of_mem _ (List.mem_append_left _ (List.mem_append_left _ (List.mem_append_right _ h)))) (by decide +kernel))
set_option maxRecDepth 20000 in
theorem gX4_lend_X4_requireBank : GoodIn wsX4_lend (va_wsS RX4 61 yX4_requireBank wsX4_requireBank) := goodIn_app (goodIn_of _ (by decide +kernel)) ggX4_lend_X4_requireBank
set_option maxRecDepth 20000 in
theorem ggX4_lend_X4_requireTwo : GoodIn wsX4_lend wsX4_requireTwo := goodIn_ca (goodIn_r _ [13, 14, 15] (by decide +kernel) (by decide +kernel)) (goodIn_sub (fun _ h => List.mem_cons_of_mem _ (List.mem_append_left _ (List.mem_append_right _ h))) (by decide +kernel))
set_option maxRecDepth 20000 in
theorem gX4_lend_X4_requireTwo : GoodIn wsX4_lend (va_wsS RX4 94 yX4_requireTwo wsX4_requireTwo) := goodIn_app (goodIn_of _ (by decide +kernel)) ggX4_lend_X4_requireTwo
set_option maxRecDepth 20000 in
theorem ggX4_lend_X4_requireRange : GoodIn wsX4_lend wsX4_requireRange := goodIn_ca (goodIn_r _ [18, 14, 15] (by decide +kernel) (by decide +kernel)) (goodIn_sub (fun _ h => List.mem_cons_of_mem _ (List.mem_append_left _ (List.mem_append_right _ h))) (by decide +kernel))
set_option maxRecDepth 20000 in
theorem gX4_lend_X4_requireRange : GoodIn wsX4_lend (va_wsS RX4 66 yX4_requireRange wsX4_requireRange) := goodIn_app (goodIn_of _ (by decide +kernel)) ggX4_lend_X4_requireRange
set_option maxRecDepth 20000 in
theorem ggX4_lend_X4_requireOpen : GoodIn wsX4_lend wsX4_requireOpen := goodIn_ca (goodIn_r _ [22, 23, 24, 25, 56, 57, 58, 59, 60, 61, 62, 63, 64, 65, 66, 67] (by decide +kernel) (by decide +kernel)) (goodIn_sub (fun _ h => List.mem_cons_of_mem _ (List.mem_append_right _ h)) (by decide +kernel))
set_option maxRecDepth 20000 in
theorem gX4_lend_X4_requireOpen : GoodIn wsX4_lend (wsV RX4 70 RX4 yX4_requireOpen wsX4_requireOpen) := goodIn_app (goodIn_of _ (by decide +kernel)) ggX4_lend_X4_requireOpen
set_option maxRecDepth 20000 in
theorem ggX4_lend_X4_requireLoanable : GoodIn wsX4_lend wsX4_requireLoanable := goodIn_ca (goodIn_r _ [29, 23, 24, 4, 30, 3, 2, 31, 32, 33, 34, 35, 36, 7, 37, 38, 39, 56, 57, 58, 59, 60, 61, 62, 63, 64, 65, 66, 67, 68, 69, 70, 71, 72, 73, 74, 75, 76, 77] (by decide +kernel) (by decide +kernel)) (goodIn_sub (fun _ h => List.mem_cons_of_mem _ (List.mem_append_right _ h)) (by decide +kernel))
set_option maxRecDepth 20000 in
theorem gX4_lend_X4_requireLoanable : GoodIn wsX4_lend (wsV RX4 161 RX4 yX4_requireLoanable wsX4_requireLoanable) := goodIn_app (goodIn_of _ (by decide +kernel)) ggX4_lend_X4_requireLoanable
set_option maxRecDepth 20000 in
theorem ggX4_lend_X3_move : GoodIn wsX4_lend wsX3_move := goodIn_r _ [44, 45, 74, 75] (by decide +kernel) (by decide +kernel)
set_option maxRecDepth 20000 in
theorem gX4_lend_X3_move : GoodIn wsX4_lend (wsV RX4 165 RX3 yX3_move wsX3_move) := goodIn_app (goodIn_of _ (by decide +kernel)) ggX4_lend_X3_move
set_option maxRecDepth 20000 in
theorem ggX4_lend_X1_enter : GoodIn wsX4_lend wsX1_enter := goodIn_r _ [50, 51, 52, 53, 54, 55, 68, 69, 70, 71, 72, 73] (by decide +kernel) (by decide +kernel)
set_option maxRecDepth 20000 in
theorem gX4_lend_X1_enter : GoodIn wsX4_lend (wsV RX4 168 RX1 yX1_enter wsX1_enter) := goodIn_app (goodIn_of _ (by decide +kernel)) ggX4_lend_X1_enter
set_option maxRecDepth 20000 in
theorem ggX4_morning_X3_forgetPaid : GoodIn wsX4_morning wsX3_forgetPaid := goodIn_r _ [10, 11, 76, 77] (by decide +kernel) (by decide +kernel)
set_option maxRecDepth 20000 in
theorem gX4_morning_X3_forgetPaid : GoodIn wsX4_morning (wsV RX4 173 RX3 yX3_forgetPaid wsX3_forgetPaid) := goodIn_app (goodIn_of _ (by decide +kernel)) ggX4_morning_X3_forgetPaid
set_option maxRecDepth 20000 in
theorem ggX4_morning_X4_canRepay : GoodIn wsX4_morning wsX4_canRepay := goodIn_r _ [16, 2, 5, 17, 1, 18, 19, 20, 21, 58, 59, 60, 61, 62, 63, 64, 65, 66, 67, 68, 69, 70, 71, 72, 73, 74, 75, 76, 77, 78, 79] (by decide +kernel) (by decide +kernel)
set_option maxRecDepth 20000 in
theorem gX4_morning_X4_canRepay : GoodIn wsX4_morning (wsV RX4 176 RX4 yX4_canRepay wsX4_canRepay) := goodIn_app (goodIn_of _ (by decide +kernel)) ggX4_morning_X4_canRepay
set_option maxRecDepth 20000 in
theorem ggX4_morning_X4_repay : GoodIn wsX4_morning wsX4_repay := goodIn_r _ [25, 2, 5, 1, 26, 19, 27, 28, 29, 30, 31, 9, 32, 33, 58, 59, 60, 61, 62, 63, 64, 65, 66, 67, 68, 69, 70, 71, 72, 73, 74, 75, 76, 77] (by decide +kernel) (by decide +kernel)
set_option maxRecDepth 20000 in
theorem gX4_morning_X4_repay : GoodIn wsX4_morning (wsV RX4 180 RX4 yX4_repay wsX4_repay) := goodIn_app (goodIn_of _ (by decide +kernel)) ggX4_morning_X4_repay
set_option maxRecDepth 20000 in
theorem ggX4_morning_X4_close : GoodIn wsX4_morning wsX4_close := goodIn_r _ [37, 17, 38, 39, 40, 41, 42, 43, 44, 45, 46, 47, 58, 59, 60, 61, 62, 63, 64, 65, 66, 67, 68, 69, 80, 81, 82, 83, 84, 85, 86] (by decide +kernel) (by decide +kernel)
set_option maxRecDepth 20000 in
theorem gX4_morning_X4_close : GoodIn wsX4_morning (wsV RX4 186 RX4 yX4_close wsX4_close) := goodIn_app (goodIn_of _ (by decide +kernel)) ggX4_morning_X4_close
set_option maxRecDepth 20000 in
theorem ggX4_morning_X4_sellPledge : GoodIn wsX4_morning wsX4_sellPledge := goodIn_r _ [51, 2, 28, 52, 19, 53, 54, 55, 56, 1, 18, 26, 5, 57, 58, 59, 60, 61, 62, 63, 64, 65, 66, 67, 68, 69, 70, 71, 72, 73, 74, 75, 76, 77] (by decide +kernel) (by decide +kernel)
set_option maxRecDepth 20000 in
theorem gX4_morning_X4_sellPledge : GoodIn wsX4_morning (wsV RX4 189 RX4 yX4_sellPledge wsX4_sellPledge) := goodIn_app (goodIn_of _ (by decide +kernel)) ggX4_morning_X4_sellPledge
set_option maxRecDepth 20000 in
theorem ggX4_requireLoanable_X4_pledgeWorth : GoodIn wsX4_requireLoanable wsX4_pledgeWorth := goodIn_r _ [14, 15, 16, 17, 18, 19, 20, 21, 22, 23, 24, 25, 26, 27, 28] (by decide +kernel) (by decide +kernel)
set_option maxRecDepth 20000 in
theorem gX4_requireLoanable_X4_pledgeWorth : GoodIn wsX4_requireLoanable (wsV RX4 210 RX4 yX4_pledgeWorth wsX4_pledgeWorth) := goodIn_app (goodIn_of _ (by decide +kernel)) ggX4_requireLoanable_X4_pledgeWorth
set_option maxRecDepth 20000 in
theorem ggX4_obstacle_X4_pairOf : GoodIn wsX4_obstacle wsX4_pairOf := goodIn_r _ [15] (by decide +kernel) (by decide +kernel)
set_option maxRecDepth 20000 in
theorem gX4_obstacle_X4_pairOf : GoodIn wsX4_obstacle (va_wsS RX4 98 yX4_pairOf wsX4_pairOf) := goodIn_app (goodIn_of _ (by decide +kernel)) ggX4_obstacle_X4_pairOf
set_option maxRecDepth 20000 in
theorem ggX4_send_X2_apply : GoodIn wsX4_send wsX2_apply := goodIn_r _ [8, 9, 10, 11, 12, 13, 14, 15, 16, 17, 18, 19, 20, 21, 22, 23, 24, 25, 38, 39, 40, 41, 42, 43, 44, 45, 46] (by decide +kernel) (by decide +kernel)
set_option maxRecDepth 20000 in
theorem gX4_send_X2_apply : GoodIn wsX4_send (wsV RX4 226 RX2 yX2_apply wsX2_apply) := goodIn_app (goodIn_of _ (by decide +kernel)) ggX4_send_X2_apply
set_option maxRecDepth 20000 in
theorem ggX4_goThroughBanks_X4_nextToGo : GoodIn wsX4_goThroughBanks wsX4_nextToGo := goodIn_r _ [5, 6, 7, 8, 9, 10, 11, 12, 13, 14, 15, 16, 17, 18, 19, 20, 21, 22, 4, 23, 24, 25, 26, 27, 28, 29, 30, 31, 32, 33, 34, 35, 36, 37, 38, 39, 40, 41, 42, 43, 44, 66, 67, 68, 69, 70, 71, 72, 73, 74, 75, 76, 77, 78, 79, 80, 81, 82, 83, 84, 85, 86, 87, 88] (by decide +kernel) (by decide +kernel)
set_option maxRecDepth 20000 in
theorem gX4_goThroughBanks_X4_nextToGo : GoodIn wsX4_goThroughBanks (wsV RX4 230 RX4 yX4_nextToGo wsX4_nextToGo) := goodIn_app (goodIn_of _ (by decide +kernel)) ggX4_goThroughBanks_X4_nextToGo
set_option maxRecDepth 20000 in
theorem ggX4_goThroughBanks_X4_send : GoodIn wsX4_goThroughBanks wsX4_send := goodIn_r _ [48, 6, 27, 24, 49, 50, 51, 10, 52, 19, 53, 54, 55, 56, 57, 58, 59, 60, 61, 62, 63, 64, 65, 35, 4, 36, 66, 67, 68, 69, 70, 71, 72, 73, 74, 75, 76, 77, 78, 79, 80, 81, 82, 83, 84, 85, 86] (by decide +kernel) (by decide +kernel)
set_option maxRecDepth 20000 in
theorem gX4_goThroughBanks_X4_send : GoodIn wsX4_goThroughBanks (wsV RX4 233 RX4 yX4_send wsX4_send) := goodIn_app (goodIn_of _ (by decide +kernel)) ggX4_goThroughBanks_X4_send
set_option maxRecDepth 20000 in
theorem ggX4_nextToGo_X2_inQueue : GoodIn wsX4_nextToGo wsX2_inQueue := goodIn_r _ [6, 7, 8, 9, 10, 11, 5, 12, 13, 14, 53, 54, 55, 56, 57, 58, 59] (by decide +kernel) (by decide +kernel)
set_option maxRecDepth 20000 in
theorem gX4_nextToGo_X2_inQueue : GoodIn wsX4_nextToGo (wsV RX4 145 RX2 yX2_inQueue wsX2_inQueue) := goodIn_app (goodIn_of _ (by decide +kernel)) ggX4_nextToGo_X2_inQueue
set_option maxRecDepth 20000 in
theorem ggX4_nextToGo_X4_obstacle : GoodIn wsX4_nextToGo wsX4_obstacle := goodIn_r _ [19, 1, 20, 21, 22, 23, 24, 25, 26, 27, 28, 29, 30, 31, 18, 32, 41, 42, 43, 44, 45, 46, 47, 48, 49, 50, 51, 52, 53, 54, 55, 56, 57, 58, 59, 60, 61, 62, 63] (by decide +kernel) (by decide +kernel)
set_option maxRecDepth 20000 in
theorem gX4_nextToGo_X4_obstacle : GoodIn wsX4_nextToGo (wsV RX4 148 RX4 yX4_obstacle wsX4_obstacle) := goodIn_app (goodIn_of _ (by decide +kernel)) ggX4_nextToGo_X4_obstacle
set_option maxRecDepth 20000 in
theorem ggX4_nextToGo_X4_firstSmallFree : GoodIn wsX4_nextToGo wsX4_firstSmallFree := goodIn_r _ [36, 1, 37, 38, 22, 39, 40, 10, 11, 5, 12, 13, 14, 15, 16, 17, 18, 19, 20, 21, 23, 24, 25, 26, 27, 28, 29, 30, 31, 32, 41, 42, 43, 44, 45, 46, 47, 48, 49, 50, 51, 52, 53, 54, 55, 56, 57, 58, 59, 60, 61, 62, 63] (by decide +kernel) (by decide +kernel)
set_option maxRecDepth 20000 in
theorem gX4_nextToGo_X4_firstSmallFree : GoodIn wsX4_nextToGo (wsV RX4 236 RX4 yX4_firstSmallFree wsX4_firstSmallFree) := goodIn_app (goodIn_of _ (by decide +kernel)) ggX4_nextToGo_X4_firstSmallFree
set_option maxRecDepth 20000 in
theorem ggX4_firstSmallFree_X2_waitsAt : GoodIn wsX4_firstSmallFree wsX2_waitsAt := goodIn_r _ [10, 11, 12, 42, 43, 44, 45, 46, 47, 48] (by decide +kernel) (by decide +kernel)
set_option maxRecDepth 20000 in
theorem gX4_firstSmallFree_X2_waitsAt : GoodIn wsX4_firstSmallFree (wsV RX4 242 RX2 yX2_waitsAt wsX2_waitsAt) := goodIn_app (goodIn_of _ (by decide +kernel)) ggX4_firstSmallFree_X2_waitsAt
set_option maxRecDepth 20000 in
theorem ggX4_firstSmallFree_X4_obstacle : GoodIn wsX4_firstSmallFree wsX4_obstacle := goodIn_r _ [17, 1, 18, 19, 4, 20, 21, 22, 23, 24, 25, 26, 27, 28, 16, 29, 30, 31, 32, 33, 34, 35, 36, 37, 38, 39, 40, 41, 42, 43, 44, 45, 46, 47, 48, 49, 50, 51, 52] (by decide +kernel) (by decide +kernel)
set_option maxRecDepth 20000 in
theorem gX4_firstSmallFree_X4_obstacle : GoodIn wsX4_firstSmallFree (wsV RX4 148 RX4 yX4_obstacle wsX4_obstacle) := goodIn_app (goodIn_of _ (by decide +kernel)) ggX4_firstSmallFree_X4_obstacle
set_option maxRecDepth 20000 in
theorem ggX4_sendLargestSet_X2_inQueue : GoodIn wsX4_sendLargestSet wsX2_inQueue := goodIn_r _ [7, 8, 9, 10, 11, 12, 6, 13, 14, 15, 87, 88, 89, 90, 91, 92, 93] (by decide +kernel) (by decide +kernel)
set_option maxRecDepth 20000 in
theorem gX4_sendLargestSet_X2_inQueue : GoodIn wsX4_sendLargestSet (wsV RX4 145 RX2 yX2_inQueue wsX2_inQueue) := goodIn_app (goodIn_of _ (by decide +kernel)) ggX4_sendLargestSet_X2_inQueue
set_option maxRecDepth 20000 in
theorem ggX4_sendLargestSet_J6_bitCount_0f7a4 : GoodIn wsX4_sendLargestSet wsJ6_bitCount_0f7a4 := goodIn_r _ [19, 20, 21, 22] (by decide +kernel) (by decide +kernel)
set_option maxRecDepth 20000 in
theorem gX4_sendLargestSet_J6_bitCount_0f7a4 : GoodIn wsX4_sendLargestSet (va_wsS RX4 245 yJ6_bitCount_0f7a4 wsJ6_bitCount_0f7a4) := goodIn_app (goodIn_of _ (by decide +kernel)) ggX4_sendLargestSet_J6_bitCount_0f7a4
set_option maxRecDepth 20000 in
theorem ggX4_sendLargestSet_X4_canGoTogether : GoodIn wsX4_sendLargestSet wsX4_canGoTogether := goodIn_r _ [27, 28, 29, 1, 2, 30, 31, 32, 33, 34, 35, 36, 37, 38, 39, 40, 41, 42, 43, 26, 44, 45, 46, 47, 6, 48, 15, 49, 50, 51, 52, 53, 54, 55, 56, 57, 58, 59, 60, 61, 62, 63, 64, 65, 66, 67, 68, 69, 75, 76, 77, 78, 79, 80, 81, 82, 83, 84, 85, 86, 94, 95, 87, 88, 89, 90, 91, 92, 93, 96, 97] (by decide +kernel) (by decide +kernel)
set_option maxRecDepth 20000 in
theorem gX4_sendLargestSet_X4_canGoTogether : GoodIn wsX4_sendLargestSet (wsV RX4 157 RX4 yX4_canGoTogether wsX4_canGoTogether) := goodIn_app (goodIn_of _ (by decide +kernel)) ggX4_sendLargestSet_X4_canGoTogether
set_option maxRecDepth 20000 in
theorem ggX4_sendLargestSet_X4_isIn : GoodIn wsX4_sendLargestSet wsX4_isIn := goodIn_r _ [44] (by decide +kernel) (by decide +kernel)
set_option maxRecDepth 20000 in
theorem gX4_sendLargestSet_X4_isIn : GoodIn wsX4_sendLargestSet (va_wsS RX4 250 yX4_isIn wsX4_isIn) := goodIn_app (goodIn_of _ (by decide +kernel)) ggX4_sendLargestSet_X4_isIn
set_option maxRecDepth 20000 in
theorem ggX4_sendLargestSet_X4_send : GoodIn wsX4_sendLargestSet wsX4_send := goodIn_r _ [73, 2, 29, 74, 45, 46, 47, 6, 48, 15, 49, 50, 51, 52, 53, 34, 54, 36, 55, 56, 57, 58, 41, 59, 26, 60, 75, 76, 77, 78, 79, 80, 81, 82, 83, 84, 85, 86, 87, 88, 89, 90, 91, 92, 93, 94, 95] (by decide +kernel) (by decide +kernel)
set_option maxRecDepth 20000 in
theorem gX4_sendLargestSet_X4_send : GoodIn wsX4_sendLargestSet (wsV RX4 233 RX4 yX4_send wsX4_send) := goodIn_app (goodIn_of _ (by decide +kernel)) ggX4_sendLargestSet_X4_send
set_option maxRecDepth 20000 in
theorem ggX4_canGoTogether_X3_copy : GoodIn wsX4_canGoTogether wsX3_copy := goodIn_r _ [10, 11, 12, 13, 14, 15, 16, 60, 61] (by decide +kernel) (by decide +kernel)
set_option maxRecDepth 20000 in
theorem gX4_canGoTogether_X3_copy : GoodIn wsX4_canGoTogether (wsV RX4 253 RX3 yX3_copy wsX3_copy) := goodIn_app (goodIn_of _ (by decide +kernel)) ggX4_canGoTogether_X3_copy
set_option maxRecDepth 20000 in
theorem ggX4_canGoTogether_X4_isIn : GoodIn wsX4_canGoTogether wsX4_isIn := goodIn_r _ [20] (by decide +kernel) (by decide +kernel)
set_option maxRecDepth 20000 in
theorem gX4_canGoTogether_X4_isIn : GoodIn wsX4_canGoTogether (va_wsS RX4 250 yX4_isIn wsX4_isIn) := goodIn_app (goodIn_of _ (by decide +kernel)) ggX4_canGoTogether_X4_isIn
set_option maxRecDepth 20000 in
theorem ggX4_canGoTogether_X2_apply : GoodIn wsX4_canGoTogether wsX2_apply := goodIn_r _ [25, 26, 27, 28, 29, 30, 31, 9, 32, 11, 33, 34, 35, 36, 16, 37, 19, 38, 62, 63, 64, 65, 66, 67, 68, 60, 61] (by decide +kernel) (by decide +kernel)
set_option maxRecDepth 20000 in
theorem gX4_canGoTogether_X2_apply : GoodIn wsX4_canGoTogether (wsV RX4 226 RX2 yX2_apply wsX2_apply) := goodIn_app (goodIn_of _ (by decide +kernel)) ggX4_canGoTogether_X2_apply
set_option maxRecDepth 20000 in
theorem ggX4_canGoTogether_X0_allow : GoodIn wsX4_canGoTogether wsX0_allow := goodIn_r _ [43, 44, 45, 46, 47, 60, 61, 69, 70] (by decide +kernel) (by decide +kernel)
set_option maxRecDepth 20000 in
theorem gX4_canGoTogether_X0_allow : GoodIn wsX4_canGoTogether (wsV RX4 257 RX0 yX0_allow wsX0_allow) := goodIn_app (goodIn_of _ (by decide +kernel)) ggX4_canGoTogether_X0_allow
set_option maxRecDepth 20000 in
theorem ggX4_repay_X3_move : GoodIn wsX4_repay wsX3_move := goodIn_r _ [12, 13, 32, 33] (by decide +kernel) (by decide +kernel)
set_option maxRecDepth 20000 in
theorem gX4_repay_X3_move : GoodIn wsX4_repay (wsV RX4 165 RX3 yX3_move wsX3_move) := goodIn_app (goodIn_of _ (by decide +kernel)) ggX4_repay_X3_move
set_option maxRecDepth 20000 in
theorem ggX4_close_X2_dropAllOf : GoodIn wsX4_close wsX2_dropAllOf := goodIn_r _ [7, 8, 9, 10, 11, 24, 25, 26, 27, 28, 29, 30] (by decide +kernel) (by decide +kernel)
set_option maxRecDepth 20000 in
theorem gX4_close_X2_dropAllOf : GoodIn wsX4_close (wsV RX4 270 RX2 yX2_dropAllOf wsX2_dropAllOf) := goodIn_app (goodIn_of _ (by decide +kernel)) ggX4_close_X2_dropAllOf
abbrev vwCl : List vw_C := [(RX0, TX0, 2), (RX1, TX1, 6), (RX2, TX2, 7), (RX3, TX3, 2), (RX4, TX4, 12)]
end
section
theorem dX0_init_0 : decode cX0_init 0 = .ok (.aload_n 0, 1) := by decide +kernel
theorem dX0_init_1 : decode cX0_init 1 = .ok (.invokespecial 3, 3) := by decide +kernel
theorem dX0_init_4 : decode cX0_init 4 = .ok (.aload_n 0, 1) := by decide +kernel
theorem dX0_init_5 : decode cX0_init 5 = .ok (.iconst 5, 1) := by decide +kernel
theorem dX0_init_6 : decode cX0_init 6 = .ok (.newarray .int, 2) := by decide +kernel
theorem dX0_init_8 : decode cX0_init 8 = .ok (.putfield 9, 3) := by decide +kernel
theorem dX0_init_11 : decode cX0_init 11 = .ok (.aload_n 0, 1) := by decide +kernel
theorem dX0_init_12 : decode cX0_init 12 = .ok (.bipush 25, 2) := by decide +kernel
theorem dX0_init_14 : decode cX0_init 14 = .ok (.newarray .int, 2) := by decide +kernel
theorem dX0_init_16 : decode cX0_init 16 = .ok (.putfield 15, 3) := by decide +kernel
theorem dX0_init_19 : decode cX0_init 19 = .ok (.iconst 0, 1) := by decide +kernel
theorem dX0_init_20 : decode cX0_init 20 = .ok (.istore_n 1, 1) := by decide +kernel
theorem dX0_init_21 : decode cX0_init 21 = .ok (.iload_n 1, 1) := by decide +kernel
theorem dX0_init_22 : decode cX0_init 22 = .ok (.bipush 25, 2) := by decide +kernel
theorem dX0_init_24 : decode cX0_init 24 = .ok (.if_icmp .ge 17, 3) := by decide +kernel
theorem dX0_init_27 : decode cX0_init 27 = .ok (.aload_n 0, 1) := by decide +kernel
theorem dX0_init_28 : decode cX0_init 28 = .ok (.getfield 15, 3) := by decide +kernel
theorem dX0_init_31 : decode cX0_init 31 = .ok (.iload_n 1, 1) := by decide +kernel
theorem dX0_init_32 : decode cX0_init 32 = .ok (.ldc 18, 2) := by decide +kernel
theorem dX0_init_34 : decode cX0_init 34 = .ok (.iastore, 1) := by decide +kernel
theorem dX0_init_35 : decode cX0_init 35 = .ok (.iinc 1 1, 3) := by decide +kernel
theorem dX0_init_38 : decode cX0_init 38 = .ok (.goto (-17), 3) := by decide +kernel
theorem dX0_init_41 : decode cX0_init 41 = .ok (.return_, 1) := by decide +kernel
theorem dX0_allow_0 : decode cX0_allow 0 = .ok (.iconst 0, 1) := by decide +kernel
theorem dX0_allow_1 : decode cX0_allow 1 = .ok (.istore_n 2, 1) := by decide +kernel
theorem dX0_allow_2 : decode cX0_allow 2 = .ok (.iload_n 2, 1) := by decide +kernel
theorem dX0_allow_3 : decode cX0_allow 3 = .ok (.iconst 5, 1) := by decide +kernel
theorem dX0_allow_4 : decode cX0_allow 4 = .ok (.if_icmp .ge 26, 3) := by decide +kernel
theorem dX0_allow_7 : decode cX0_allow 7 = .ok (.aload_n 1, 1) := by decide +kernel
theorem dX0_allow_8 : decode cX0_allow 8 = .ok (.getfield 19, 3) := by decide +kernel
theorem dX0_allow_11 : decode cX0_allow 11 = .ok (.iload_n 2, 1) := by decide +kernel
theorem dX0_allow_12 : decode cX0_allow 12 = .ok (.iaload, 1) := by decide +kernel
theorem dX0_allow_13 : decode cX0_allow 13 = .ok (.aload_n 0, 1) := by decide +kernel
theorem dX0_allow_14 : decode cX0_allow 14 = .ok (.getfield 9, 3) := by decide +kernel
theorem dX0_allow_17 : decode cX0_allow 17 = .ok (.iload_n 2, 1) := by decide +kernel
theorem dX0_allow_18 : decode cX0_allow 18 = .ok (.iaload, 1) := by decide +kernel
theorem dX0_allow_19 : decode cX0_allow 19 = .ok (.if_icmp .ge 5, 3) := by decide +kernel
theorem dX0_allow_22 : decode cX0_allow 22 = .ok (.iconst 0, 1) := by decide +kernel
theorem dX0_allow_23 : decode cX0_allow 23 = .ok (.ireturn, 1) := by decide +kernel
theorem dX0_allow_24 : decode cX0_allow 24 = .ok (.iinc 2 1, 3) := by decide +kernel
theorem dX0_allow_27 : decode cX0_allow 27 = .ok (.goto (-25), 3) := by decide +kernel
theorem dX0_allow_30 : decode cX0_allow 30 = .ok (.iconst 0, 1) := by decide +kernel
theorem dX0_allow_31 : decode cX0_allow 31 = .ok (.istore_n 2, 1) := by decide +kernel
theorem dX0_allow_32 : decode cX0_allow 32 = .ok (.iload_n 2, 1) := by decide +kernel
theorem dX0_allow_33 : decode cX0_allow 33 = .ok (.bipush 25, 2) := by decide +kernel
theorem dX0_allow_35 : decode cX0_allow 35 = .ok (.if_icmp .ge 26, 3) := by decide +kernel
theorem dX0_allow_38 : decode cX0_allow 38 = .ok (.aload_n 1, 1) := by decide +kernel
theorem dX0_allow_39 : decode cX0_allow 39 = .ok (.getfield 24, 3) := by decide +kernel
theorem dX0_allow_42 : decode cX0_allow 42 = .ok (.iload_n 2, 1) := by decide +kernel
theorem dX0_allow_43 : decode cX0_allow 43 = .ok (.iaload, 1) := by decide +kernel
theorem dX0_allow_44 : decode cX0_allow 44 = .ok (.aload_n 0, 1) := by decide +kernel
theorem dX0_allow_45 : decode cX0_allow 45 = .ok (.getfield 15, 3) := by decide +kernel
theorem dX0_allow_48 : decode cX0_allow 48 = .ok (.iload_n 2, 1) := by decide +kernel
theorem dX0_allow_49 : decode cX0_allow 49 = .ok (.iaload, 1) := by decide +kernel
theorem dX0_allow_50 : decode cX0_allow 50 = .ok (.if_icmp .le 5, 3) := by decide +kernel
theorem dX0_allow_53 : decode cX0_allow 53 = .ok (.iconst 0, 1) := by decide +kernel
theorem dX0_allow_54 : decode cX0_allow 54 = .ok (.ireturn, 1) := by decide +kernel
theorem dX0_allow_55 : decode cX0_allow 55 = .ok (.iinc 2 1, 3) := by decide +kernel
theorem dX0_allow_58 : decode cX0_allow 58 = .ok (.goto (-26), 3) := by decide +kernel
theorem dX0_allow_61 : decode cX0_allow 61 = .ok (.iconst 1, 1) := by decide +kernel
theorem dX0_allow_62 : decode cX0_allow 62 = .ok (.ireturn, 1) := by decide +kernel
theorem dX1_init_0 : decode cX1_init 0 = .ok (.aload_n 0, 1) := by decide +kernel
theorem dX1_init_1 : decode cX1_init 1 = .ok (.invokespecial 3, 3) := by decide +kernel
theorem dX1_init_4 : decode cX1_init 4 = .ok (.aload_n 0, 1) := by decide +kernel
theorem dX1_init_5 : decode cX1_init 5 = .ok (.bipush 40, 2) := by decide +kernel
theorem dX1_init_7 : decode cX1_init 7 = .ok (.newarray .int, 2) := by decide +kernel
theorem dX1_init_9 : decode cX1_init 9 = .ok (.putfield 9, 3) := by decide +kernel
theorem dX1_init_12 : decode cX1_init 12 = .ok (.aload_n 0, 1) := by decide +kernel
theorem dX1_init_13 : decode cX1_init 13 = .ok (.bipush 40, 2) := by decide +kernel
theorem dX1_init_15 : decode cX1_init 15 = .ok (.newarray .int, 2) := by decide +kernel
theorem dX1_init_17 : decode cX1_init 17 = .ok (.putfield 15, 3) := by decide +kernel
theorem dX1_init_20 : decode cX1_init 20 = .ok (.aload_n 0, 1) := by decide +kernel
theorem dX1_init_21 : decode cX1_init 21 = .ok (.bipush 40, 2) := by decide +kernel
theorem dX1_init_23 : decode cX1_init 23 = .ok (.newarray .int, 2) := by decide +kernel
theorem dX1_init_25 : decode cX1_init 25 = .ok (.putfield 18, 3) := by decide +kernel
theorem dX1_init_28 : decode cX1_init 28 = .ok (.aload_n 0, 1) := by decide +kernel
theorem dX1_init_29 : decode cX1_init 29 = .ok (.bipush 40, 2) := by decide +kernel
theorem dX1_init_31 : decode cX1_init 31 = .ok (.newarray .int, 2) := by decide +kernel
theorem dX1_init_33 : decode cX1_init 33 = .ok (.putfield 21, 3) := by decide +kernel
theorem dX1_init_36 : decode cX1_init 36 = .ok (.return_, 1) := by decide +kernel
theorem dX1_enter_0 : decode cX1_enter 0 = .ok (.aload_n 0, 1) := by decide +kernel
theorem dX1_enter_1 : decode cX1_enter 1 = .ok (.getfield 24, 3) := by decide +kernel
theorem dX1_enter_4 : decode cX1_enter 4 = .ok (.istore 5, 2) := by decide +kernel
theorem dX1_enter_6 : decode cX1_enter 6 = .ok (.aload_n 0, 1) := by decide +kernel
theorem dX1_enter_7 : decode cX1_enter 7 = .ok (.getfield 9, 3) := by decide +kernel
theorem dX1_enter_10 : decode cX1_enter 10 = .ok (.iload 5, 2) := by decide +kernel
theorem dX1_enter_12 : decode cX1_enter 12 = .ok (.iload_n 1, 1) := by decide +kernel
theorem dX1_enter_13 : decode cX1_enter 13 = .ok (.iastore, 1) := by decide +kernel
theorem dX1_enter_14 : decode cX1_enter 14 = .ok (.aload_n 0, 1) := by decide +kernel
theorem dX1_enter_15 : decode cX1_enter 15 = .ok (.getfield 15, 3) := by decide +kernel
theorem dX1_enter_18 : decode cX1_enter 18 = .ok (.iload 5, 2) := by decide +kernel
theorem dX1_enter_20 : decode cX1_enter 20 = .ok (.iload_n 2, 1) := by decide +kernel
theorem dX1_enter_21 : decode cX1_enter 21 = .ok (.iastore, 1) := by decide +kernel
theorem dX1_enter_22 : decode cX1_enter 22 = .ok (.aload_n 0, 1) := by decide +kernel
theorem dX1_enter_23 : decode cX1_enter 23 = .ok (.getfield 18, 3) := by decide +kernel
theorem dX1_enter_26 : decode cX1_enter 26 = .ok (.iload 5, 2) := by decide +kernel
theorem dX1_enter_28 : decode cX1_enter 28 = .ok (.iload_n 3, 1) := by decide +kernel
theorem dX1_enter_29 : decode cX1_enter 29 = .ok (.iastore, 1) := by decide +kernel
theorem dX1_enter_30 : decode cX1_enter 30 = .ok (.aload_n 0, 1) := by decide +kernel
theorem dX1_enter_31 : decode cX1_enter 31 = .ok (.getfield 21, 3) := by decide +kernel
theorem dX1_enter_34 : decode cX1_enter 34 = .ok (.iload 5, 2) := by decide +kernel
theorem dX1_enter_36 : decode cX1_enter 36 = .ok (.iload 4, 2) := by decide +kernel
theorem dX1_enter_38 : decode cX1_enter 38 = .ok (.iastore, 1) := by decide +kernel
theorem dX1_enter_39 : decode cX1_enter 39 = .ok (.aload_n 0, 1) := by decide +kernel
theorem dX1_enter_40 : decode cX1_enter 40 = .ok (.dup, 1) := by decide +kernel
theorem dX1_enter_41 : decode cX1_enter 41 = .ok (.getfield 24, 3) := by decide +kernel
theorem dX1_enter_44 : decode cX1_enter 44 = .ok (.iconst 1, 1) := by decide +kernel
theorem dX1_enter_45 : decode cX1_enter 45 = .ok (.iadd, 1) := by decide +kernel
theorem dX1_enter_46 : decode cX1_enter 46 = .ok (.putfield 24, 3) := by decide +kernel
theorem dX1_enter_49 : decode cX1_enter 49 = .ok (.iload 5, 2) := by decide +kernel
theorem dX1_enter_51 : decode cX1_enter 51 = .ok (.ireturn, 1) := by decide +kernel
theorem dX2_init_0 : decode cX2_init 0 = .ok (.aload_n 0, 1) := by decide +kernel
theorem dX2_init_1 : decode cX2_init 1 = .ok (.invokespecial 3, 3) := by decide +kernel
theorem dX2_init_4 : decode cX2_init 4 = .ok (.aload_n 0, 1) := by decide +kernel
theorem dX2_init_5 : decode cX2_init 5 = .ok (.bipush 60, 2) := by decide +kernel
theorem dX2_init_7 : decode cX2_init 7 = .ok (.newarray .int, 2) := by decide +kernel
theorem dX2_init_9 : decode cX2_init 9 = .ok (.putfield 9, 3) := by decide +kernel
theorem dX2_init_12 : decode cX2_init 12 = .ok (.aload_n 0, 1) := by decide +kernel
theorem dX2_init_13 : decode cX2_init 13 = .ok (.bipush 60, 2) := by decide +kernel
theorem dX2_init_15 : decode cX2_init 15 = .ok (.newarray .int, 2) := by decide +kernel
theorem dX2_init_17 : decode cX2_init 17 = .ok (.putfield 15, 3) := by decide +kernel
theorem dX2_init_20 : decode cX2_init 20 = .ok (.aload_n 0, 1) := by decide +kernel
theorem dX2_init_21 : decode cX2_init 21 = .ok (.bipush 60, 2) := by decide +kernel
theorem dX2_init_23 : decode cX2_init 23 = .ok (.newarray .int, 2) := by decide +kernel
theorem dX2_init_25 : decode cX2_init 25 = .ok (.putfield 18, 3) := by decide +kernel
theorem dX2_init_28 : decode cX2_init 28 = .ok (.aload_n 0, 1) := by decide +kernel
theorem dX2_init_29 : decode cX2_init 29 = .ok (.bipush 60, 2) := by decide +kernel
theorem dX2_init_31 : decode cX2_init 31 = .ok (.newarray .int, 2) := by decide +kernel
theorem dX2_init_33 : decode cX2_init 33 = .ok (.putfield 21, 3) := by decide +kernel
theorem dX2_init_36 : decode cX2_init 36 = .ok (.aload_n 0, 1) := by decide +kernel
theorem dX2_init_37 : decode cX2_init 37 = .ok (.bipush 60, 2) := by decide +kernel
theorem dX2_init_39 : decode cX2_init 39 = .ok (.newarray .boolean, 2) := by decide +kernel
theorem dX2_init_41 : decode cX2_init 41 = .ok (.putfield 24, 3) := by decide +kernel
theorem dX2_init_44 : decode cX2_init 44 = .ok (.aload_n 0, 1) := by decide +kernel
theorem dX2_init_45 : decode cX2_init 45 = .ok (.bipush 60, 2) := by decide +kernel
theorem dX2_init_47 : decode cX2_init 47 = .ok (.newarray .int, 2) := by decide +kernel
theorem dX2_init_49 : decode cX2_init 49 = .ok (.putfield 28, 3) := by decide +kernel
theorem dX2_init_52 : decode cX2_init 52 = .ok (.return_, 1) := by decide +kernel
theorem dX2_enter_0 : decode cX2_enter 0 = .ok (.aload_n 0, 1) := by decide +kernel
theorem dX2_enter_1 : decode cX2_enter 1 = .ok (.getfield 31, 3) := by decide +kernel
theorem dX2_enter_4 : decode cX2_enter 4 = .ok (.istore 5, 2) := by decide +kernel
theorem dX2_enter_6 : decode cX2_enter 6 = .ok (.aload_n 0, 1) := by decide +kernel
theorem dX2_enter_7 : decode cX2_enter 7 = .ok (.getfield 9, 3) := by decide +kernel
theorem dX2_enter_10 : decode cX2_enter 10 = .ok (.iload 5, 2) := by decide +kernel
theorem dX2_enter_12 : decode cX2_enter 12 = .ok (.iload_n 1, 1) := by decide +kernel
theorem dX2_enter_13 : decode cX2_enter 13 = .ok (.iastore, 1) := by decide +kernel
theorem dX2_enter_14 : decode cX2_enter 14 = .ok (.aload_n 0, 1) := by decide +kernel
theorem dX2_enter_15 : decode cX2_enter 15 = .ok (.getfield 15, 3) := by decide +kernel
theorem dX2_enter_18 : decode cX2_enter 18 = .ok (.iload 5, 2) := by decide +kernel
theorem dX2_enter_20 : decode cX2_enter 20 = .ok (.iload_n 2, 1) := by decide +kernel
theorem dX2_enter_21 : decode cX2_enter 21 = .ok (.iastore, 1) := by decide +kernel
theorem dX2_enter_22 : decode cX2_enter 22 = .ok (.aload_n 0, 1) := by decide +kernel
theorem dX2_enter_23 : decode cX2_enter 23 = .ok (.getfield 18, 3) := by decide +kernel
theorem dX2_enter_26 : decode cX2_enter 26 = .ok (.iload 5, 2) := by decide +kernel
theorem dX2_enter_28 : decode cX2_enter 28 = .ok (.iload_n 3, 1) := by decide +kernel
theorem dX2_enter_29 : decode cX2_enter 29 = .ok (.iastore, 1) := by decide +kernel
theorem dX2_enter_30 : decode cX2_enter 30 = .ok (.aload_n 0, 1) := by decide +kernel
theorem dX2_enter_31 : decode cX2_enter 31 = .ok (.getfield 21, 3) := by decide +kernel
theorem dX2_enter_34 : decode cX2_enter 34 = .ok (.iload 5, 2) := by decide +kernel
theorem dX2_enter_36 : decode cX2_enter 36 = .ok (.iload 4, 2) := by decide +kernel
theorem dX2_enter_38 : decode cX2_enter 38 = .ok (.iastore, 1) := by decide +kernel
theorem dX2_enter_39 : decode cX2_enter 39 = .ok (.aload_n 0, 1) := by decide +kernel
theorem dX2_enter_40 : decode cX2_enter 40 = .ok (.getfield 24, 3) := by decide +kernel
theorem dX2_enter_43 : decode cX2_enter 43 = .ok (.iload 5, 2) := by decide +kernel
theorem dX2_enter_45 : decode cX2_enter 45 = .ok (.iconst 1, 1) := by decide +kernel
theorem dX2_enter_46 : decode cX2_enter 46 = .ok (.bastore, 1) := by decide +kernel
theorem dX2_enter_47 : decode cX2_enter 47 = .ok (.aload_n 0, 1) := by decide +kernel
theorem dX2_enter_48 : decode cX2_enter 48 = .ok (.getfield 31, 3) := by decide +kernel
theorem dX2_enter_51 : decode cX2_enter 51 = .ok (.istore 6, 2) := by decide +kernel
theorem dX2_enter_53 : decode cX2_enter 53 = .ok (.iload 6, 2) := by decide +kernel
theorem dX2_enter_55 : decode cX2_enter 55 = .ok (.ifCond .le 44, 3) := by decide +kernel
theorem dX2_enter_58 : decode cX2_enter 58 = .ok (.aload_n 0, 1) := by decide +kernel
theorem dX2_enter_59 : decode cX2_enter 59 = .ok (.getfield 21, 3) := by decide +kernel
theorem dX2_enter_62 : decode cX2_enter 62 = .ok (.aload_n 0, 1) := by decide +kernel
theorem dX2_enter_63 : decode cX2_enter 63 = .ok (.getfield 28, 3) := by decide +kernel
theorem dX2_enter_66 : decode cX2_enter 66 = .ok (.iload 6, 2) := by decide +kernel
theorem dX2_enter_68 : decode cX2_enter 68 = .ok (.iconst 1, 1) := by decide +kernel
theorem dX2_enter_69 : decode cX2_enter 69 = .ok (.isub, 1) := by decide +kernel
theorem dX2_enter_70 : decode cX2_enter 70 = .ok (.iaload, 1) := by decide +kernel
theorem dX2_enter_71 : decode cX2_enter 71 = .ok (.iaload, 1) := by decide +kernel
theorem dX2_enter_72 : decode cX2_enter 72 = .ok (.iload 4, 2) := by decide +kernel
theorem dX2_enter_74 : decode cX2_enter 74 = .ok (.if_icmp .ge 25, 3) := by decide +kernel
theorem dX2_enter_77 : decode cX2_enter 77 = .ok (.aload_n 0, 1) := by decide +kernel
theorem dX2_enter_78 : decode cX2_enter 78 = .ok (.getfield 28, 3) := by decide +kernel
theorem dX2_enter_81 : decode cX2_enter 81 = .ok (.iload 6, 2) := by decide +kernel
theorem dX2_enter_83 : decode cX2_enter 83 = .ok (.aload_n 0, 1) := by decide +kernel
theorem dX2_enter_84 : decode cX2_enter 84 = .ok (.getfield 28, 3) := by decide +kernel
theorem dX2_enter_87 : decode cX2_enter 87 = .ok (.iload 6, 2) := by decide +kernel
theorem dX2_enter_89 : decode cX2_enter 89 = .ok (.iconst 1, 1) := by decide +kernel
theorem dX2_enter_90 : decode cX2_enter 90 = .ok (.isub, 1) := by decide +kernel
theorem dX2_enter_91 : decode cX2_enter 91 = .ok (.iaload, 1) := by decide +kernel
theorem dX2_enter_92 : decode cX2_enter 92 = .ok (.iastore, 1) := by decide +kernel
theorem dX2_enter_93 : decode cX2_enter 93 = .ok (.iinc 6 (-1), 3) := by decide +kernel
theorem dX2_enter_96 : decode cX2_enter 96 = .ok (.goto (-43), 3) := by decide +kernel
theorem dX2_enter_99 : decode cX2_enter 99 = .ok (.aload_n 0, 1) := by decide +kernel
theorem dX2_enter_100 : decode cX2_enter 100 = .ok (.getfield 28, 3) := by decide +kernel
theorem dX2_enter_103 : decode cX2_enter 103 = .ok (.iload 6, 2) := by decide +kernel
theorem dX2_enter_105 : decode cX2_enter 105 = .ok (.iload 5, 2) := by decide +kernel
theorem dX2_enter_107 : decode cX2_enter 107 = .ok (.iastore, 1) := by decide +kernel
theorem dX2_enter_108 : decode cX2_enter 108 = .ok (.aload_n 0, 1) := by decide +kernel
theorem dX2_enter_109 : decode cX2_enter 109 = .ok (.dup, 1) := by decide +kernel
theorem dX2_enter_110 : decode cX2_enter 110 = .ok (.getfield 31, 3) := by decide +kernel
theorem dX2_enter_113 : decode cX2_enter 113 = .ok (.iconst 1, 1) := by decide +kernel
theorem dX2_enter_114 : decode cX2_enter 114 = .ok (.iadd, 1) := by decide +kernel
theorem dX2_enter_115 : decode cX2_enter 115 = .ok (.putfield 31, 3) := by decide +kernel
theorem dX2_enter_118 : decode cX2_enter 118 = .ok (.iload 5, 2) := by decide +kernel
theorem dX2_enter_120 : decode cX2_enter 120 = .ok (.ireturn, 1) := by decide +kernel
theorem dX2_apply_0 : decode cX2_apply 0 = .ok (.aload_n 2, 1) := by decide +kernel
theorem dX2_apply_1 : decode cX2_apply 1 = .ok (.aload_n 0, 1) := by decide +kernel
theorem dX2_apply_2 : decode cX2_apply 2 = .ok (.getfield 9, 3) := by decide +kernel
theorem dX2_apply_5 : decode cX2_apply 5 = .ok (.iload_n 1, 1) := by decide +kernel
theorem dX2_apply_6 : decode cX2_apply 6 = .ok (.iaload, 1) := by decide +kernel
theorem dX2_apply_7 : decode cX2_apply 7 = .ok (.aload_n 0, 1) := by decide +kernel
theorem dX2_apply_8 : decode cX2_apply 8 = .ok (.getfield 15, 3) := by decide +kernel
theorem dX2_apply_11 : decode cX2_apply 11 = .ok (.iload_n 1, 1) := by decide +kernel
theorem dX2_apply_12 : decode cX2_apply 12 = .ok (.iaload, 1) := by decide +kernel
theorem dX2_apply_13 : decode cX2_apply 13 = .ok (.aload_n 0, 1) := by decide +kernel
theorem dX2_apply_14 : decode cX2_apply 14 = .ok (.getfield 18, 3) := by decide +kernel
theorem dX2_apply_17 : decode cX2_apply 17 = .ok (.iload_n 1, 1) := by decide +kernel
theorem dX2_apply_18 : decode cX2_apply 18 = .ok (.iaload, 1) := by decide +kernel
theorem dX2_apply_19 : decode cX2_apply 19 = .ok (.invokevirtual 35, 3) := by decide +kernel
theorem dX2_apply_22 : decode cX2_apply 22 = .ok (.aload_n 2, 1) := by decide +kernel
theorem dX2_apply_23 : decode cX2_apply 23 = .ok (.aload_n 0, 1) := by decide +kernel
theorem dX2_apply_24 : decode cX2_apply 24 = .ok (.getfield 9, 3) := by decide +kernel
theorem dX2_apply_27 : decode cX2_apply 27 = .ok (.iload_n 1, 1) := by decide +kernel
theorem dX2_apply_28 : decode cX2_apply 28 = .ok (.iaload, 1) := by decide +kernel
theorem dX2_apply_29 : decode cX2_apply 29 = .ok (.aload_n 0, 1) := by decide +kernel
theorem dX2_apply_30 : decode cX2_apply 30 = .ok (.getfield 15, 3) := by decide +kernel
theorem dX2_apply_33 : decode cX2_apply 33 = .ok (.iload_n 1, 1) := by decide +kernel
theorem dX2_apply_34 : decode cX2_apply 34 = .ok (.iaload, 1) := by decide +kernel
theorem dX2_apply_35 : decode cX2_apply 35 = .ok (.aload_n 0, 1) := by decide +kernel
theorem dX2_apply_36 : decode cX2_apply 36 = .ok (.getfield 18, 3) := by decide +kernel
theorem dX2_apply_39 : decode cX2_apply 39 = .ok (.iload_n 1, 1) := by decide +kernel
theorem dX2_apply_40 : decode cX2_apply 40 = .ok (.iaload, 1) := by decide +kernel
theorem dX2_apply_41 : decode cX2_apply 41 = .ok (.invokevirtual 41, 3) := by decide +kernel
theorem dX2_apply_44 : decode cX2_apply 44 = .ok (.return_, 1) := by decide +kernel
theorem dX2_waitsAt_0 : decode cX2_waitsAt 0 = .ok (.aload_n 0, 1) := by decide +kernel
theorem dX2_waitsAt_1 : decode cX2_waitsAt 1 = .ok (.getfield 24, 3) := by decide +kernel
theorem dX2_waitsAt_4 : decode cX2_waitsAt 4 = .ok (.iload_n 1, 1) := by decide +kernel
theorem dX2_waitsAt_5 : decode cX2_waitsAt 5 = .ok (.baload, 1) := by decide +kernel
theorem dX2_waitsAt_6 : decode cX2_waitsAt 6 = .ok (.ifCond .eq 17, 3) := by decide +kernel
theorem dX2_waitsAt_9 : decode cX2_waitsAt 9 = .ok (.aload_n 0, 1) := by decide +kernel
theorem dX2_waitsAt_10 : decode cX2_waitsAt 10 = .ok (.getfield 9, 3) := by decide +kernel
theorem dX2_waitsAt_13 : decode cX2_waitsAt 13 = .ok (.iload_n 1, 1) := by decide +kernel
theorem dX2_waitsAt_14 : decode cX2_waitsAt 14 = .ok (.iaload, 1) := by decide +kernel
theorem dX2_waitsAt_15 : decode cX2_waitsAt 15 = .ok (.iload_n 2, 1) := by decide +kernel
theorem dX2_waitsAt_16 : decode cX2_waitsAt 16 = .ok (.if_icmp .ne 7, 3) := by decide +kernel
theorem dX2_waitsAt_19 : decode cX2_waitsAt 19 = .ok (.iconst 1, 1) := by decide +kernel
theorem dX2_waitsAt_20 : decode cX2_waitsAt 20 = .ok (.goto 4, 3) := by decide +kernel
theorem dX2_waitsAt_23 : decode cX2_waitsAt 23 = .ok (.iconst 0, 1) := by decide +kernel
theorem dX2_waitsAt_24 : decode cX2_waitsAt 24 = .ok (.ireturn, 1) := by decide +kernel
theorem dX2_inQueue_0 : decode cX2_inQueue 0 = .ok (.iconst 0, 1) := by decide +kernel
theorem dX2_inQueue_1 : decode cX2_inQueue 1 = .ok (.istore_n 3, 1) := by decide +kernel
theorem dX2_inQueue_2 : decode cX2_inQueue 2 = .ok (.iconst 0, 1) := by decide +kernel
theorem dX2_inQueue_3 : decode cX2_inQueue 3 = .ok (.istore 4, 2) := by decide +kernel
theorem dX2_inQueue_5 : decode cX2_inQueue 5 = .ok (.iload 4, 2) := by decide +kernel
theorem dX2_inQueue_7 : decode cX2_inQueue 7 = .ok (.aload_n 0, 1) := by decide +kernel
theorem dX2_inQueue_8 : decode cX2_inQueue 8 = .ok (.getfield 31, 3) := by decide +kernel
theorem dX2_inQueue_11 : decode cX2_inQueue 11 = .ok (.if_icmp .ge 40, 3) := by decide +kernel
theorem dX2_inQueue_14 : decode cX2_inQueue 14 = .ok (.aload_n 0, 1) := by decide +kernel
theorem dX2_inQueue_15 : decode cX2_inQueue 15 = .ok (.aload_n 0, 1) := by decide +kernel
theorem dX2_inQueue_16 : decode cX2_inQueue 16 = .ok (.getfield 28, 3) := by decide +kernel
theorem dX2_inQueue_19 : decode cX2_inQueue 19 = .ok (.iload 4, 2) := by decide +kernel
theorem dX2_inQueue_21 : decode cX2_inQueue 21 = .ok (.iaload, 1) := by decide +kernel
theorem dX2_inQueue_22 : decode cX2_inQueue 22 = .ok (.iload_n 1, 1) := by decide +kernel
theorem dX2_inQueue_23 : decode cX2_inQueue 23 = .ok (.invokevirtual 44, 3) := by decide +kernel
theorem dX2_inQueue_26 : decode cX2_inQueue 26 = .ok (.ifCond .eq 19, 3) := by decide +kernel
theorem dX2_inQueue_29 : decode cX2_inQueue 29 = .ok (.iload_n 3, 1) := by decide +kernel
theorem dX2_inQueue_30 : decode cX2_inQueue 30 = .ok (.iload_n 2, 1) := by decide +kernel
theorem dX2_inQueue_31 : decode cX2_inQueue 31 = .ok (.if_icmp .ne 11, 3) := by decide +kernel
theorem dX2_inQueue_34 : decode cX2_inQueue 34 = .ok (.aload_n 0, 1) := by decide +kernel
theorem dX2_inQueue_35 : decode cX2_inQueue 35 = .ok (.getfield 28, 3) := by decide +kernel
theorem dX2_inQueue_38 : decode cX2_inQueue 38 = .ok (.iload 4, 2) := by decide +kernel
theorem dX2_inQueue_40 : decode cX2_inQueue 40 = .ok (.iaload, 1) := by decide +kernel
theorem dX2_inQueue_41 : decode cX2_inQueue 41 = .ok (.ireturn, 1) := by decide +kernel
theorem dX2_inQueue_42 : decode cX2_inQueue 42 = .ok (.iinc 3 1, 3) := by decide +kernel
theorem dX2_inQueue_45 : decode cX2_inQueue 45 = .ok (.iinc 4 1, 3) := by decide +kernel
theorem dX2_inQueue_48 : decode cX2_inQueue 48 = .ok (.goto (-43), 3) := by decide +kernel
theorem dX2_inQueue_51 : decode cX2_inQueue 51 = .ok (.iconst (-1), 1) := by decide +kernel
theorem dX2_inQueue_52 : decode cX2_inQueue 52 = .ok (.ireturn, 1) := by decide +kernel
theorem dX2_countWaiting_0 : decode cX2_countWaiting 0 = .ok (.iconst 0, 1) := by decide +kernel
theorem dX2_countWaiting_1 : decode cX2_countWaiting 1 = .ok (.istore_n 1, 1) := by decide +kernel
theorem dX2_countWaiting_2 : decode cX2_countWaiting 2 = .ok (.iconst 0, 1) := by decide +kernel
theorem dX2_countWaiting_3 : decode cX2_countWaiting 3 = .ok (.istore_n 2, 1) := by decide +kernel
theorem dX2_countWaiting_4 : decode cX2_countWaiting 4 = .ok (.iload_n 2, 1) := by decide +kernel
theorem dX2_countWaiting_5 : decode cX2_countWaiting 5 = .ok (.aload_n 0, 1) := by decide +kernel
theorem dX2_countWaiting_6 : decode cX2_countWaiting 6 = .ok (.getfield 31, 3) := by decide +kernel
theorem dX2_countWaiting_9 : decode cX2_countWaiting 9 = .ok (.if_icmp .ge 21, 3) := by decide +kernel
theorem dX2_countWaiting_12 : decode cX2_countWaiting 12 = .ok (.aload_n 0, 1) := by decide +kernel
theorem dX2_countWaiting_13 : decode cX2_countWaiting 13 = .ok (.getfield 24, 3) := by decide +kernel
theorem dX2_countWaiting_16 : decode cX2_countWaiting 16 = .ok (.iload_n 2, 1) := by decide +kernel
theorem dX2_countWaiting_17 : decode cX2_countWaiting 17 = .ok (.baload, 1) := by decide +kernel
theorem dX2_countWaiting_18 : decode cX2_countWaiting 18 = .ok (.ifCond .eq 6, 3) := by decide +kernel
theorem dX2_countWaiting_21 : decode cX2_countWaiting 21 = .ok (.iinc 1 1, 3) := by decide +kernel
theorem dX2_countWaiting_24 : decode cX2_countWaiting 24 = .ok (.iinc 2 1, 3) := by decide +kernel
theorem dX2_countWaiting_27 : decode cX2_countWaiting 27 = .ok (.goto (-23), 3) := by decide +kernel
theorem dX2_countWaiting_30 : decode cX2_countWaiting 30 = .ok (.iload_n 1, 1) := by decide +kernel
theorem dX2_countWaiting_31 : decode cX2_countWaiting 31 = .ok (.ireturn, 1) := by decide +kernel
theorem dX2_dropAllOf_0 : decode cX2_dropAllOf 0 = .ok (.iconst 0, 1) := by decide +kernel
theorem dX2_dropAllOf_1 : decode cX2_dropAllOf 1 = .ok (.istore_n 2, 1) := by decide +kernel
theorem dX2_dropAllOf_2 : decode cX2_dropAllOf 2 = .ok (.iload_n 2, 1) := by decide +kernel
theorem dX2_dropAllOf_3 : decode cX2_dropAllOf 3 = .ok (.aload_n 0, 1) := by decide +kernel
theorem dX2_dropAllOf_4 : decode cX2_dropAllOf 4 = .ok (.getfield 31, 3) := by decide +kernel
theorem dX2_dropAllOf_7 : decode cX2_dropAllOf 7 = .ok (.if_icmp .ge 36, 3) := by decide +kernel
theorem dX2_dropAllOf_10 : decode cX2_dropAllOf 10 = .ok (.aload_n 0, 1) := by decide +kernel
theorem dX2_dropAllOf_11 : decode cX2_dropAllOf 11 = .ok (.getfield 9, 3) := by decide +kernel
theorem dX2_dropAllOf_14 : decode cX2_dropAllOf 14 = .ok (.iload_n 2, 1) := by decide +kernel
theorem dX2_dropAllOf_15 : decode cX2_dropAllOf 15 = .ok (.iaload, 1) := by decide +kernel
theorem dX2_dropAllOf_16 : decode cX2_dropAllOf 16 = .ok (.iload_n 1, 1) := by decide +kernel
theorem dX2_dropAllOf_17 : decode cX2_dropAllOf 17 = .ok (.if_icmp .eq 13, 3) := by decide +kernel
theorem dX2_dropAllOf_20 : decode cX2_dropAllOf 20 = .ok (.aload_n 0, 1) := by decide +kernel
theorem dX2_dropAllOf_21 : decode cX2_dropAllOf 21 = .ok (.getfield 15, 3) := by decide +kernel
theorem dX2_dropAllOf_24 : decode cX2_dropAllOf 24 = .ok (.iload_n 2, 1) := by decide +kernel
theorem dX2_dropAllOf_25 : decode cX2_dropAllOf 25 = .ok (.iaload, 1) := by decide +kernel
theorem dX2_dropAllOf_26 : decode cX2_dropAllOf 26 = .ok (.iload_n 1, 1) := by decide +kernel
theorem dX2_dropAllOf_27 : decode cX2_dropAllOf 27 = .ok (.if_icmp .ne 10, 3) := by decide +kernel
theorem dX2_dropAllOf_30 : decode cX2_dropAllOf 30 = .ok (.aload_n 0, 1) := by decide +kernel
theorem dX2_dropAllOf_31 : decode cX2_dropAllOf 31 = .ok (.getfield 24, 3) := by decide +kernel
theorem dX2_dropAllOf_34 : decode cX2_dropAllOf 34 = .ok (.iload_n 2, 1) := by decide +kernel
theorem dX2_dropAllOf_35 : decode cX2_dropAllOf 35 = .ok (.iconst 0, 1) := by decide +kernel
theorem dX2_dropAllOf_36 : decode cX2_dropAllOf 36 = .ok (.bastore, 1) := by decide +kernel
theorem dX2_dropAllOf_37 : decode cX2_dropAllOf 37 = .ok (.iinc 2 1, 3) := by decide +kernel
theorem dX2_dropAllOf_40 : decode cX2_dropAllOf 40 = .ok (.goto (-38), 3) := by decide +kernel
theorem dX2_dropAllOf_43 : decode cX2_dropAllOf 43 = .ok (.return_, 1) := by decide +kernel
theorem dX3_init_0 : decode cX3_init 0 = .ok (.aload_n 0, 1) := by decide +kernel
theorem dX3_init_1 : decode cX3_init 1 = .ok (.invokespecial 3, 3) := by decide +kernel
theorem dX3_init_4 : decode cX3_init 4 = .ok (.aload_n 0, 1) := by decide +kernel
theorem dX3_init_5 : decode cX3_init 5 = .ok (.iconst 5, 1) := by decide +kernel
theorem dX3_init_6 : decode cX3_init 6 = .ok (.newarray .int, 2) := by decide +kernel
theorem dX3_init_8 : decode cX3_init 8 = .ok (.putfield 9, 3) := by decide +kernel
theorem dX3_init_11 : decode cX3_init 11 = .ok (.aload_n 0, 1) := by decide +kernel
theorem dX3_init_12 : decode cX3_init 12 = .ok (.bipush 25, 2) := by decide +kernel
theorem dX3_init_14 : decode cX3_init 14 = .ok (.newarray .int, 2) := by decide +kernel
theorem dX3_init_16 : decode cX3_init 16 = .ok (.putfield 15, 3) := by decide +kernel
theorem dX3_init_19 : decode cX3_init 19 = .ok (.return_, 1) := by decide +kernel
theorem dX3_move_0 : decode cX3_move 0 = .ok (.aload_n 0, 1) := by decide +kernel
theorem dX3_move_1 : decode cX3_move 1 = .ok (.getfield 9, 3) := by decide +kernel
theorem dX3_move_4 : decode cX3_move 4 = .ok (.iload_n 1, 1) := by decide +kernel
theorem dX3_move_5 : decode cX3_move 5 = .ok (.dup2, 1) := by decide +kernel
theorem dX3_move_6 : decode cX3_move 6 = .ok (.iaload, 1) := by decide +kernel
theorem dX3_move_7 : decode cX3_move 7 = .ok (.iload_n 3, 1) := by decide +kernel
theorem dX3_move_8 : decode cX3_move 8 = .ok (.isub, 1) := by decide +kernel
theorem dX3_move_9 : decode cX3_move 9 = .ok (.iastore, 1) := by decide +kernel
theorem dX3_move_10 : decode cX3_move 10 = .ok (.aload_n 0, 1) := by decide +kernel
theorem dX3_move_11 : decode cX3_move 11 = .ok (.getfield 9, 3) := by decide +kernel
theorem dX3_move_14 : decode cX3_move 14 = .ok (.iload_n 2, 1) := by decide +kernel
theorem dX3_move_15 : decode cX3_move 15 = .ok (.dup2, 1) := by decide +kernel
theorem dX3_move_16 : decode cX3_move 16 = .ok (.iaload, 1) := by decide +kernel
theorem dX3_move_17 : decode cX3_move 17 = .ok (.iload_n 3, 1) := by decide +kernel
theorem dX3_move_18 : decode cX3_move 18 = .ok (.iadd, 1) := by decide +kernel
theorem dX3_move_19 : decode cX3_move 19 = .ok (.iastore, 1) := by decide +kernel
theorem dX3_move_20 : decode cX3_move 20 = .ok (.return_, 1) := by decide +kernel
theorem dX3_notePaid_0 : decode cX3_notePaid 0 = .ok (.aload_n 0, 1) := by decide +kernel
theorem dX3_notePaid_1 : decode cX3_notePaid 1 = .ok (.getfield 15, 3) := by decide +kernel
theorem dX3_notePaid_4 : decode cX3_notePaid 4 = .ok (.iload_n 1, 1) := by decide +kernel
theorem dX3_notePaid_5 : decode cX3_notePaid 5 = .ok (.iload_n 2, 1) := by decide +kernel
theorem dX3_notePaid_6 : decode cX3_notePaid 6 = .ok (.invokestatic 18, 3) := by decide +kernel
theorem dX3_notePaid_9 : decode cX3_notePaid 9 = .ok (.dup2, 1) := by decide +kernel
theorem dX3_notePaid_10 : decode cX3_notePaid 10 = .ok (.iaload, 1) := by decide +kernel
theorem dX3_notePaid_11 : decode cX3_notePaid 11 = .ok (.iload_n 3, 1) := by decide +kernel
theorem dX3_notePaid_12 : decode cX3_notePaid 12 = .ok (.iadd, 1) := by decide +kernel
theorem dX3_notePaid_13 : decode cX3_notePaid 13 = .ok (.iastore, 1) := by decide +kernel
theorem dX3_notePaid_14 : decode cX3_notePaid 14 = .ok (.aload_n 0, 1) := by decide +kernel
theorem dX3_notePaid_15 : decode cX3_notePaid 15 = .ok (.getfield 15, 3) := by decide +kernel
theorem dX3_notePaid_18 : decode cX3_notePaid 18 = .ok (.iload_n 2, 1) := by decide +kernel
theorem dX3_notePaid_19 : decode cX3_notePaid 19 = .ok (.iload_n 1, 1) := by decide +kernel
theorem dX3_notePaid_20 : decode cX3_notePaid 20 = .ok (.invokestatic 18, 3) := by decide +kernel
theorem dX3_notePaid_23 : decode cX3_notePaid 23 = .ok (.dup2, 1) := by decide +kernel
theorem dX3_notePaid_24 : decode cX3_notePaid 24 = .ok (.iaload, 1) := by decide +kernel
theorem dX3_notePaid_25 : decode cX3_notePaid 25 = .ok (.iload_n 3, 1) := by decide +kernel
theorem dX3_notePaid_26 : decode cX3_notePaid 26 = .ok (.isub, 1) := by decide +kernel
theorem dX3_notePaid_27 : decode cX3_notePaid 27 = .ok (.iastore, 1) := by decide +kernel
theorem dX3_notePaid_28 : decode cX3_notePaid 28 = .ok (.return_, 1) := by decide +kernel
theorem dX3_forgetPaid_0 : decode cX3_forgetPaid 0 = .ok (.iconst 0, 1) := by decide +kernel
theorem dX3_forgetPaid_1 : decode cX3_forgetPaid 1 = .ok (.istore_n 1, 1) := by decide +kernel
theorem dX3_forgetPaid_2 : decode cX3_forgetPaid 2 = .ok (.iload_n 1, 1) := by decide +kernel
theorem dX3_forgetPaid_3 : decode cX3_forgetPaid 3 = .ok (.bipush 25, 2) := by decide +kernel
theorem dX3_forgetPaid_5 : decode cX3_forgetPaid 5 = .ok (.if_icmp .ge 16, 3) := by decide +kernel
theorem dX3_forgetPaid_8 : decode cX3_forgetPaid 8 = .ok (.aload_n 0, 1) := by decide +kernel
theorem dX3_forgetPaid_9 : decode cX3_forgetPaid 9 = .ok (.getfield 15, 3) := by decide +kernel
theorem dX3_forgetPaid_12 : decode cX3_forgetPaid 12 = .ok (.iload_n 1, 1) := by decide +kernel
theorem dX3_forgetPaid_13 : decode cX3_forgetPaid 13 = .ok (.iconst 0, 1) := by decide +kernel
theorem dX3_forgetPaid_14 : decode cX3_forgetPaid 14 = .ok (.iastore, 1) := by decide +kernel
theorem dX3_forgetPaid_15 : decode cX3_forgetPaid 15 = .ok (.iinc 1 1, 3) := by decide +kernel
theorem dX3_forgetPaid_18 : decode cX3_forgetPaid 18 = .ok (.goto (-16), 3) := by decide +kernel
theorem dX3_forgetPaid_21 : decode cX3_forgetPaid 21 = .ok (.return_, 1) := by decide +kernel
theorem dX3_copy_0 : decode cX3_copy 0 = .ok (.aload_n 1, 1) := by decide +kernel
theorem dX3_copy_1 : decode cX3_copy 1 = .ok (.getfield 9, 3) := by decide +kernel
theorem dX3_copy_4 : decode cX3_copy 4 = .ok (.iconst 0, 1) := by decide +kernel
theorem dX3_copy_5 : decode cX3_copy 5 = .ok (.aload_n 0, 1) := by decide +kernel
theorem dX3_copy_6 : decode cX3_copy 6 = .ok (.getfield 9, 3) := by decide +kernel
theorem dX3_copy_9 : decode cX3_copy 9 = .ok (.iconst 0, 1) := by decide +kernel
theorem dX3_copy_10 : decode cX3_copy 10 = .ok (.iconst 5, 1) := by decide +kernel
theorem dX3_copy_11 : decode cX3_copy 11 = .ok (.invokestatic 22, 3) := by decide +kernel
theorem dX3_copy_14 : decode cX3_copy 14 = .ok (.aload_n 1, 1) := by decide +kernel
theorem dX3_copy_15 : decode cX3_copy 15 = .ok (.getfield 15, 3) := by decide +kernel
theorem dX3_copy_18 : decode cX3_copy 18 = .ok (.iconst 0, 1) := by decide +kernel
theorem dX3_copy_19 : decode cX3_copy 19 = .ok (.aload_n 0, 1) := by decide +kernel
theorem dX3_copy_20 : decode cX3_copy 20 = .ok (.getfield 15, 3) := by decide +kernel
theorem dX3_copy_23 : decode cX3_copy 23 = .ok (.iconst 0, 1) := by decide +kernel
theorem dX3_copy_24 : decode cX3_copy 24 = .ok (.bipush 25, 2) := by decide +kernel
theorem dX3_copy_26 : decode cX3_copy 26 = .ok (.invokestatic 22, 3) := by decide +kernel
theorem dX3_copy_29 : decode cX3_copy 29 = .ok (.return_, 1) := by decide +kernel
theorem dX4_init_0 : decode cX4_init 0 = .ok (.aload_n 0, 1) := by decide +kernel
theorem dX4_init_1 : decode cX4_init 1 = .ok (.invokespecial 1, 3) := by decide +kernel
theorem dX4_init_4 : decode cX4_init 4 = .ok (.aload_n 0, 1) := by decide +kernel
theorem dX4_init_5 : decode cX4_init 5 = .ok (.new 7, 3) := by decide +kernel
theorem dX4_init_8 : decode cX4_init 8 = .ok (.dup, 1) := by decide +kernel
theorem dX4_init_9 : decode cX4_init 9 = .ok (.invokespecial 9, 3) := by decide +kernel
theorem dX4_init_12 : decode cX4_init 12 = .ok (.putfield 10, 3) := by decide +kernel
theorem dX4_init_15 : decode cX4_init 15 = .ok (.aload_n 0, 1) := by decide +kernel
theorem dX4_init_16 : decode cX4_init 16 = .ok (.new 7, 3) := by decide +kernel
theorem dX4_init_19 : decode cX4_init 19 = .ok (.dup, 1) := by decide +kernel
theorem dX4_init_20 : decode cX4_init 20 = .ok (.invokespecial 9, 3) := by decide +kernel
theorem dX4_init_23 : decode cX4_init 23 = .ok (.putfield 16, 3) := by decide +kernel
theorem dX4_init_26 : decode cX4_init 26 = .ok (.aload_n 0, 1) := by decide +kernel
theorem dX4_init_27 : decode cX4_init 27 = .ok (.new 19, 3) := by decide +kernel
theorem dX4_init_30 : decode cX4_init 30 = .ok (.dup, 1) := by decide +kernel
theorem dX4_init_31 : decode cX4_init 31 = .ok (.invokespecial 21, 3) := by decide +kernel
theorem dX4_init_34 : decode cX4_init 34 = .ok (.putfield 22, 3) := by decide +kernel
theorem dX4_init_37 : decode cX4_init 37 = .ok (.aload_n 0, 1) := by decide +kernel
theorem dX4_init_38 : decode cX4_init 38 = .ok (.new 26, 3) := by decide +kernel
theorem dX4_init_41 : decode cX4_init 41 = .ok (.dup, 1) := by decide +kernel
theorem dX4_init_42 : decode cX4_init 42 = .ok (.invokespecial 28, 3) := by decide +kernel
theorem dX4_init_45 : decode cX4_init 45 = .ok (.putfield 29, 3) := by decide +kernel
theorem dX4_init_48 : decode cX4_init 48 = .ok (.aload_n 0, 1) := by decide +kernel
theorem dX4_init_49 : decode cX4_init 49 = .ok (.new 33, 3) := by decide +kernel
theorem dX4_init_52 : decode cX4_init 52 = .ok (.dup, 1) := by decide +kernel
theorem dX4_init_53 : decode cX4_init 53 = .ok (.invokespecial 35, 3) := by decide +kernel
theorem dX4_init_56 : decode cX4_init 56 = .ok (.putfield 36, 3) := by decide +kernel
theorem dX4_init_59 : decode cX4_init 59 = .ok (.aload_n 0, 1) := by decide +kernel
theorem dX4_init_60 : decode cX4_init 60 = .ok (.iconst 5, 1) := by decide +kernel
theorem dX4_init_61 : decode cX4_init 61 = .ok (.newarray .boolean, 2) := by decide +kernel
theorem dX4_init_63 : decode cX4_init 63 = .ok (.putfield 40, 3) := by decide +kernel
theorem dX4_init_66 : decode cX4_init 66 = .ok (.aload_n 0, 1) := by decide +kernel
theorem dX4_init_67 : decode cX4_init 67 = .ok (.iconst 5, 1) := by decide +kernel
theorem dX4_init_68 : decode cX4_init 68 = .ok (.newarray .int, 2) := by decide +kernel
theorem dX4_init_70 : decode cX4_init 70 = .ok (.putfield 44, 3) := by decide +kernel
theorem dX4_init_73 : decode cX4_init 73 = .ok (.aload_n 0, 1) := by decide +kernel
theorem dX4_init_74 : decode cX4_init 74 = .ok (.bipush 10, 2) := by decide +kernel
theorem dX4_init_76 : decode cX4_init 76 = .ok (.newarray .int, 2) := by decide +kernel
theorem dX4_init_78 : decode cX4_init 78 = .ok (.putfield 48, 3) := by decide +kernel
theorem dX4_init_81 : decode cX4_init 81 = .ok (.aload_n 0, 1) := by decide +kernel
theorem dX4_init_82 : decode cX4_init 82 = .ok (.bipush 100, 2) := by decide +kernel
theorem dX4_init_84 : decode cX4_init 84 = .ok (.putfield 51, 3) := by decide +kernel
theorem dX4_init_87 : decode cX4_init 87 = .ok (.aload_n 0, 1) := by decide +kernel
theorem dX4_init_88 : decode cX4_init 88 = .ok (.bipush 100, 2) := by decide +kernel
theorem dX4_init_90 : decode cX4_init 90 = .ok (.putfield 55, 3) := by decide +kernel
theorem dX4_init_93 : decode cX4_init 93 = .ok (.aload_n 0, 1) := by decide +kernel
theorem dX4_init_94 : decode cX4_init 94 = .ok (.sipush 200, 3) := by decide +kernel
theorem dX4_init_97 : decode cX4_init 97 = .ok (.putfield 58, 3) := by decide +kernel
theorem dX4_init_100 : decode cX4_init 100 = .ok (.return_, 1) := by decide +kernel
theorem dX4_fund_0 : decode cX4_fund 0 = .ok (.iload_n 1, 1) := by decide +kernel
theorem dX4_fund_1 : decode cX4_fund 1 = .ok (.invokestatic 61, 3) := by decide +kernel
theorem dX4_fund_4 : decode cX4_fund 4 = .ok (.iload_n 2, 1) := by decide +kernel
theorem dX4_fund_5 : decode cX4_fund 5 = .ok (.iconst 1, 1) := by decide +kernel
theorem dX4_fund_6 : decode cX4_fund 6 = .ok (.ldc 65, 2) := by decide +kernel
theorem dX4_fund_8 : decode cX4_fund 8 = .ok (.invokestatic 66, 3) := by decide +kernel
theorem dX4_fund_11 : decode cX4_fund 11 = .ok (.aload_n 0, 1) := by decide +kernel
theorem dX4_fund_12 : decode cX4_fund 12 = .ok (.iload_n 1, 1) := by decide +kernel
theorem dX4_fund_13 : decode cX4_fund 13 = .ok (.invokevirtual 70, 3) := by decide +kernel
theorem dX4_fund_16 : decode cX4_fund 16 = .ok (.aload_n 0, 1) := by decide +kernel
theorem dX4_fund_17 : decode cX4_fund 17 = .ok (.getfield 10, 3) := by decide +kernel
theorem dX4_fund_20 : decode cX4_fund 20 = .ok (.getfield 73, 3) := by decide +kernel
theorem dX4_fund_23 : decode cX4_fund 23 = .ok (.iload_n 1, 1) := by decide +kernel
theorem dX4_fund_24 : decode cX4_fund 24 = .ok (.iaload, 1) := by decide +kernel
theorem dX4_fund_25 : decode cX4_fund 25 = .ok (.iload_n 2, 1) := by decide +kernel
theorem dX4_fund_26 : decode cX4_fund 26 = .ok (.iadd, 1) := by decide +kernel
theorem dX4_fund_27 : decode cX4_fund 27 = .ok (.ldc 76, 2) := by decide +kernel
theorem dX4_fund_29 : decode cX4_fund 29 = .ok (.if_icmp .le 13, 3) := by decide +kernel
theorem dX4_fund_32 : decode cX4_fund 32 = .ok (.new 77, 3) := by decide +kernel
theorem dX4_fund_35 : decode cX4_fund 35 = .ok (.dup, 1) := by decide +kernel
theorem dX4_fund_36 : decode cX4_fund 36 = .ok (.ldc 79, 2) := by decide +kernel
theorem dX4_fund_38 : decode cX4_fund 38 = .ok (.invokespecial 81, 3) := by decide +kernel
theorem dX4_fund_41 : decode cX4_fund 41 = .ok (.athrow, 1) := by decide +kernel
theorem dX4_fund_42 : decode cX4_fund 42 = .ok (.aload_n 0, 1) := by decide +kernel
theorem dX4_fund_43 : decode cX4_fund 43 = .ok (.getfield 10, 3) := by decide +kernel
theorem dX4_fund_46 : decode cX4_fund 46 = .ok (.getfield 73, 3) := by decide +kernel
theorem dX4_fund_49 : decode cX4_fund 49 = .ok (.iload_n 1, 1) := by decide +kernel
theorem dX4_fund_50 : decode cX4_fund 50 = .ok (.dup2, 1) := by decide +kernel
theorem dX4_fund_51 : decode cX4_fund 51 = .ok (.iaload, 1) := by decide +kernel
theorem dX4_fund_52 : decode cX4_fund 52 = .ok (.iload_n 2, 1) := by decide +kernel
theorem dX4_fund_53 : decode cX4_fund 53 = .ok (.iadd, 1) := by decide +kernel
theorem dX4_fund_54 : decode cX4_fund 54 = .ok (.iastore, 1) := by decide +kernel
theorem dX4_fund_55 : decode cX4_fund 55 = .ok (.aload_n 0, 1) := by decide +kernel
theorem dX4_fund_56 : decode cX4_fund 56 = .ok (.getfield 10, 3) := by decide +kernel
theorem dX4_fund_59 : decode cX4_fund 59 = .ok (.getfield 73, 3) := by decide +kernel
theorem dX4_fund_62 : decode cX4_fund 62 = .ok (.iload_n 1, 1) := by decide +kernel
theorem dX4_fund_63 : decode cX4_fund 63 = .ok (.iaload, 1) := by decide +kernel
theorem dX4_fund_64 : decode cX4_fund 64 = .ok (.ireturn, 1) := by decide +kernel
theorem dX4_setFloor_0 : decode cX4_setFloor 0 = .ok (.iload_n 1, 1) := by decide +kernel
theorem dX4_setFloor_1 : decode cX4_setFloor 1 = .ok (.invokestatic 61, 3) := by decide +kernel
theorem dX4_setFloor_4 : decode cX4_setFloor 4 = .ok (.iload_n 2, 1) := by decide +kernel
theorem dX4_setFloor_5 : decode cX4_setFloor 5 = .ok (.ldc 84, 2) := by decide +kernel
theorem dX4_setFloor_7 : decode cX4_setFloor 7 = .ok (.iconst 0, 1) := by decide +kernel
theorem dX4_setFloor_8 : decode cX4_setFloor 8 = .ok (.aload_n 0, 1) := by decide +kernel
theorem dX4_setFloor_9 : decode cX4_setFloor 9 = .ok (.getfield 10, 3) := by decide +kernel
theorem dX4_setFloor_12 : decode cX4_setFloor 12 = .ok (.getfield 73, 3) := by decide +kernel
theorem dX4_setFloor_15 : decode cX4_setFloor 15 = .ok (.iload_n 1, 1) := by decide +kernel
theorem dX4_setFloor_16 : decode cX4_setFloor 16 = .ok (.iaload, 1) := by decide +kernel
theorem dX4_setFloor_17 : decode cX4_setFloor 17 = .ok (.invokestatic 85, 3) := by decide +kernel
theorem dX4_setFloor_20 : decode cX4_setFloor 20 = .ok (.invokestatic 66, 3) := by decide +kernel
theorem dX4_setFloor_23 : decode cX4_setFloor 23 = .ok (.aload_n 0, 1) := by decide +kernel
theorem dX4_setFloor_24 : decode cX4_setFloor 24 = .ok (.getfield 22, 3) := by decide +kernel
theorem dX4_setFloor_27 : decode cX4_setFloor 27 = .ok (.getfield 91, 3) := by decide +kernel
theorem dX4_setFloor_30 : decode cX4_setFloor 30 = .ok (.iload_n 1, 1) := by decide +kernel
theorem dX4_setFloor_31 : decode cX4_setFloor 31 = .ok (.iaload, 1) := by decide +kernel
theorem dX4_setFloor_32 : decode cX4_setFloor 32 = .ok (.istore_n 3, 1) := by decide +kernel
theorem dX4_setFloor_33 : decode cX4_setFloor 33 = .ok (.aload_n 0, 1) := by decide +kernel
theorem dX4_setFloor_34 : decode cX4_setFloor 34 = .ok (.getfield 22, 3) := by decide +kernel
theorem dX4_setFloor_37 : decode cX4_setFloor 37 = .ok (.getfield 91, 3) := by decide +kernel
theorem dX4_setFloor_40 : decode cX4_setFloor 40 = .ok (.iload_n 1, 1) := by decide +kernel
theorem dX4_setFloor_41 : decode cX4_setFloor 41 = .ok (.iload_n 2, 1) := by decide +kernel
theorem dX4_setFloor_42 : decode cX4_setFloor 42 = .ok (.iastore, 1) := by decide +kernel
theorem dX4_setFloor_43 : decode cX4_setFloor 43 = .ok (.iload_n 3, 1) := by decide +kernel
theorem dX4_setFloor_44 : decode cX4_setFloor 44 = .ok (.ireturn, 1) := by decide +kernel
theorem dX4_setBound_0 : decode cX4_setBound 0 = .ok (.iload_n 1, 1) := by decide +kernel
theorem dX4_setBound_1 : decode cX4_setBound 1 = .ok (.invokestatic 61, 3) := by decide +kernel
theorem dX4_setBound_4 : decode cX4_setBound 4 = .ok (.iload_n 2, 1) := by decide +kernel
theorem dX4_setBound_5 : decode cX4_setBound 5 = .ok (.invokestatic 61, 3) := by decide +kernel
theorem dX4_setBound_8 : decode cX4_setBound 8 = .ok (.iload_n 1, 1) := by decide +kernel
theorem dX4_setBound_9 : decode cX4_setBound 9 = .ok (.iload_n 2, 1) := by decide +kernel
theorem dX4_setBound_10 : decode cX4_setBound 10 = .ok (.invokestatic 94, 3) := by decide +kernel
theorem dX4_setBound_13 : decode cX4_setBound 13 = .ok (.iload_n 1, 1) := by decide +kernel
theorem dX4_setBound_14 : decode cX4_setBound 14 = .ok (.iload_n 2, 1) := by decide +kernel
theorem dX4_setBound_15 : decode cX4_setBound 15 = .ok (.invokestatic 98, 3) := by decide +kernel
theorem dX4_setBound_18 : decode cX4_setBound 18 = .ok (.istore 4, 2) := by decide +kernel
theorem dX4_setBound_20 : decode cX4_setBound 20 = .ok (.iload_n 3, 1) := by decide +kernel
theorem dX4_setBound_21 : decode cX4_setBound 21 = .ok (.iconst 0, 1) := by decide +kernel
theorem dX4_setBound_22 : decode cX4_setBound 22 = .ok (.aload_n 0, 1) := by decide +kernel
theorem dX4_setBound_23 : decode cX4_setBound 23 = .ok (.getfield 10, 3) := by decide +kernel
theorem dX4_setBound_26 : decode cX4_setBound 26 = .ok (.getfield 101, 3) := by decide +kernel
theorem dX4_setBound_29 : decode cX4_setBound 29 = .ok (.iload 4, 2) := by decide +kernel
theorem dX4_setBound_31 : decode cX4_setBound 31 = .ok (.iaload, 1) := by decide +kernel
theorem dX4_setBound_32 : decode cX4_setBound 32 = .ok (.invokestatic 104, 3) := by decide +kernel
theorem dX4_setBound_35 : decode cX4_setBound 35 = .ok (.ldc 65, 2) := by decide +kernel
theorem dX4_setBound_37 : decode cX4_setBound 37 = .ok (.invokestatic 66, 3) := by decide +kernel
theorem dX4_setBound_40 : decode cX4_setBound 40 = .ok (.aload_n 0, 1) := by decide +kernel
theorem dX4_setBound_41 : decode cX4_setBound 41 = .ok (.getfield 22, 3) := by decide +kernel
theorem dX4_setBound_44 : decode cX4_setBound 44 = .ok (.getfield 107, 3) := by decide +kernel
theorem dX4_setBound_47 : decode cX4_setBound 47 = .ok (.iload 4, 2) := by decide +kernel
theorem dX4_setBound_49 : decode cX4_setBound 49 = .ok (.iaload, 1) := by decide +kernel
theorem dX4_setBound_50 : decode cX4_setBound 50 = .ok (.istore 5, 2) := by decide +kernel
theorem dX4_setBound_52 : decode cX4_setBound 52 = .ok (.aload_n 0, 1) := by decide +kernel
theorem dX4_setBound_53 : decode cX4_setBound 53 = .ok (.getfield 22, 3) := by decide +kernel
theorem dX4_setBound_56 : decode cX4_setBound 56 = .ok (.getfield 107, 3) := by decide +kernel
theorem dX4_setBound_59 : decode cX4_setBound 59 = .ok (.iload 4, 2) := by decide +kernel
theorem dX4_setBound_61 : decode cX4_setBound 61 = .ok (.iload_n 3, 1) := by decide +kernel
theorem dX4_setBound_62 : decode cX4_setBound 62 = .ok (.iastore, 1) := by decide +kernel
theorem dX4_setBound_63 : decode cX4_setBound 63 = .ok (.iload 5, 2) := by decide +kernel
theorem dX4_setBound_65 : decode cX4_setBound 65 = .ok (.ireturn, 1) := by decide +kernel
theorem dX4_givePapers_0 : decode cX4_givePapers 0 = .ok (.iload_n 1, 1) := by decide +kernel
theorem dX4_givePapers_1 : decode cX4_givePapers 1 = .ok (.invokestatic 61, 3) := by decide +kernel
theorem dX4_givePapers_4 : decode cX4_givePapers 4 = .ok (.iload_n 2, 1) := by decide +kernel
theorem dX4_givePapers_5 : decode cX4_givePapers 5 = .ok (.iconst 1, 1) := by decide +kernel
theorem dX4_givePapers_6 : decode cX4_givePapers 6 = .ok (.sipush 1000, 3) := by decide +kernel
theorem dX4_givePapers_9 : decode cX4_givePapers 9 = .ok (.invokestatic 66, 3) := by decide +kernel
theorem dX4_givePapers_12 : decode cX4_givePapers 12 = .ok (.aload_n 0, 1) := by decide +kernel
theorem dX4_givePapers_13 : decode cX4_givePapers 13 = .ok (.iload_n 1, 1) := by decide +kernel
theorem dX4_givePapers_14 : decode cX4_givePapers 14 = .ok (.invokevirtual 70, 3) := by decide +kernel
theorem dX4_givePapers_17 : decode cX4_givePapers 17 = .ok (.aload_n 0, 1) := by decide +kernel
theorem dX4_givePapers_18 : decode cX4_givePapers 18 = .ok (.getfield 44, 3) := by decide +kernel
theorem dX4_givePapers_21 : decode cX4_givePapers 21 = .ok (.iload_n 1, 1) := by decide +kernel
theorem dX4_givePapers_22 : decode cX4_givePapers 22 = .ok (.iaload, 1) := by decide +kernel
theorem dX4_givePapers_23 : decode cX4_givePapers 23 = .ok (.iload_n 2, 1) := by decide +kernel
theorem dX4_givePapers_24 : decode cX4_givePapers 24 = .ok (.iadd, 1) := by decide +kernel
theorem dX4_givePapers_25 : decode cX4_givePapers 25 = .ok (.ldc 110, 2) := by decide +kernel
theorem dX4_givePapers_27 : decode cX4_givePapers 27 = .ok (.if_icmp .le 13, 3) := by decide +kernel
theorem dX4_givePapers_30 : decode cX4_givePapers 30 = .ok (.new 77, 3) := by decide +kernel
theorem dX4_givePapers_33 : decode cX4_givePapers 33 = .ok (.dup, 1) := by decide +kernel
theorem dX4_givePapers_34 : decode cX4_givePapers 34 = .ok (.ldc 111, 2) := by decide +kernel
theorem dX4_givePapers_36 : decode cX4_givePapers 36 = .ok (.invokespecial 81, 3) := by decide +kernel
theorem dX4_givePapers_39 : decode cX4_givePapers 39 = .ok (.athrow, 1) := by decide +kernel
theorem dX4_givePapers_40 : decode cX4_givePapers 40 = .ok (.aload_n 0, 1) := by decide +kernel
theorem dX4_givePapers_41 : decode cX4_givePapers 41 = .ok (.getfield 44, 3) := by decide +kernel
theorem dX4_givePapers_44 : decode cX4_givePapers 44 = .ok (.iload_n 1, 1) := by decide +kernel
theorem dX4_givePapers_45 : decode cX4_givePapers 45 = .ok (.dup2, 1) := by decide +kernel
theorem dX4_givePapers_46 : decode cX4_givePapers 46 = .ok (.iaload, 1) := by decide +kernel
theorem dX4_givePapers_47 : decode cX4_givePapers 47 = .ok (.iload_n 2, 1) := by decide +kernel
theorem dX4_givePapers_48 : decode cX4_givePapers 48 = .ok (.iadd, 1) := by decide +kernel
theorem dX4_givePapers_49 : decode cX4_givePapers 49 = .ok (.iastore, 1) := by decide +kernel
theorem dX4_givePapers_50 : decode cX4_givePapers 50 = .ok (.aload_n 0, 1) := by decide +kernel
theorem dX4_givePapers_51 : decode cX4_givePapers 51 = .ok (.getfield 44, 3) := by decide +kernel
theorem dX4_givePapers_54 : decode cX4_givePapers 54 = .ok (.iload_n 1, 1) := by decide +kernel
theorem dX4_givePapers_55 : decode cX4_givePapers 55 = .ok (.iaload, 1) := by decide +kernel
theorem dX4_givePapers_56 : decode cX4_givePapers 56 = .ok (.ireturn, 1) := by decide +kernel
theorem dX4_account_0 : decode cX4_account 0 = .ok (.iload_n 1, 1) := by decide +kernel
theorem dX4_account_1 : decode cX4_account 1 = .ok (.invokestatic 61, 3) := by decide +kernel
theorem dX4_account_4 : decode cX4_account 4 = .ok (.aload_n 0, 1) := by decide +kernel
theorem dX4_account_5 : decode cX4_account 5 = .ok (.getfield 10, 3) := by decide +kernel
theorem dX4_account_8 : decode cX4_account 8 = .ok (.getfield 73, 3) := by decide +kernel
theorem dX4_account_11 : decode cX4_account 11 = .ok (.iload_n 1, 1) := by decide +kernel
theorem dX4_account_12 : decode cX4_account 12 = .ok (.iaload, 1) := by decide +kernel
theorem dX4_account_13 : decode cX4_account 13 = .ok (.ireturn, 1) := by decide +kernel
theorem dX4_papers_0 : decode cX4_papers 0 = .ok (.iload_n 1, 1) := by decide +kernel
theorem dX4_papers_1 : decode cX4_papers 1 = .ok (.invokestatic 61, 3) := by decide +kernel
theorem dX4_papers_4 : decode cX4_papers 4 = .ok (.aload_n 0, 1) := by decide +kernel
theorem dX4_papers_5 : decode cX4_papers 5 = .ok (.getfield 44, 3) := by decide +kernel
theorem dX4_papers_8 : decode cX4_papers 8 = .ok (.iload_n 1, 1) := by decide +kernel
theorem dX4_papers_9 : decode cX4_papers 9 = .ok (.iaload, 1) := by decide +kernel
theorem dX4_papers_10 : decode cX4_papers 10 = .ok (.ireturn, 1) := by decide +kernel
theorem dX4_isOpen_0 : decode cX4_isOpen 0 = .ok (.iload_n 1, 1) := by decide +kernel
theorem dX4_isOpen_1 : decode cX4_isOpen 1 = .ok (.invokestatic 61, 3) := by decide +kernel
theorem dX4_isOpen_4 : decode cX4_isOpen 4 = .ok (.aload_n 0, 1) := by decide +kernel
theorem dX4_isOpen_5 : decode cX4_isOpen 5 = .ok (.getfield 40, 3) := by decide +kernel
theorem dX4_isOpen_8 : decode cX4_isOpen 8 = .ok (.iload_n 1, 1) := by decide +kernel
theorem dX4_isOpen_9 : decode cX4_isOpen 9 = .ok (.baload, 1) := by decide +kernel
theorem dX4_isOpen_10 : decode cX4_isOpen 10 = .ok (.ifCond .ne 7, 3) := by decide +kernel
theorem dX4_isOpen_13 : decode cX4_isOpen 13 = .ok (.iconst 1, 1) := by decide +kernel
theorem dX4_isOpen_14 : decode cX4_isOpen 14 = .ok (.goto 4, 3) := by decide +kernel
theorem dX4_isOpen_17 : decode cX4_isOpen 17 = .ok (.iconst 0, 1) := by decide +kernel
theorem dX4_isOpen_18 : decode cX4_isOpen 18 = .ok (.ireturn, 1) := by decide +kernel
theorem dX4_paid_0 : decode cX4_paid 0 = .ok (.iload_n 1, 1) := by decide +kernel
theorem dX4_paid_1 : decode cX4_paid 1 = .ok (.invokestatic 61, 3) := by decide +kernel
theorem dX4_paid_4 : decode cX4_paid 4 = .ok (.iload_n 2, 1) := by decide +kernel
theorem dX4_paid_5 : decode cX4_paid 5 = .ok (.invokestatic 61, 3) := by decide +kernel
theorem dX4_paid_8 : decode cX4_paid 8 = .ok (.aload_n 0, 1) := by decide +kernel
theorem dX4_paid_9 : decode cX4_paid 9 = .ok (.getfield 10, 3) := by decide +kernel
theorem dX4_paid_12 : decode cX4_paid 12 = .ok (.getfield 101, 3) := by decide +kernel
theorem dX4_paid_15 : decode cX4_paid 15 = .ok (.iload_n 1, 1) := by decide +kernel
theorem dX4_paid_16 : decode cX4_paid 16 = .ok (.iload_n 2, 1) := by decide +kernel
theorem dX4_paid_17 : decode cX4_paid 17 = .ok (.invokestatic 98, 3) := by decide +kernel
theorem dX4_paid_20 : decode cX4_paid 20 = .ok (.iaload, 1) := by decide +kernel
theorem dX4_paid_21 : decode cX4_paid 21 = .ok (.ireturn, 1) := by decide +kernel
theorem dX4_pay_0 : decode cX4_pay 0 = .ok (.iload_n 1, 1) := by decide +kernel
theorem dX4_pay_1 : decode cX4_pay 1 = .ok (.invokestatic 61, 3) := by decide +kernel
theorem dX4_pay_4 : decode cX4_pay 4 = .ok (.iload_n 2, 1) := by decide +kernel
theorem dX4_pay_5 : decode cX4_pay 5 = .ok (.invokestatic 61, 3) := by decide +kernel
theorem dX4_pay_8 : decode cX4_pay 8 = .ok (.iload_n 1, 1) := by decide +kernel
theorem dX4_pay_9 : decode cX4_pay 9 = .ok (.iload_n 2, 1) := by decide +kernel
theorem dX4_pay_10 : decode cX4_pay 10 = .ok (.invokestatic 94, 3) := by decide +kernel
theorem dX4_pay_13 : decode cX4_pay 13 = .ok (.iload_n 3, 1) := by decide +kernel
theorem dX4_pay_14 : decode cX4_pay 14 = .ok (.iconst 1, 1) := by decide +kernel
theorem dX4_pay_15 : decode cX4_pay 15 = .ok (.ldc 110, 2) := by decide +kernel
theorem dX4_pay_17 : decode cX4_pay 17 = .ok (.invokestatic 66, 3) := by decide +kernel
theorem dX4_pay_20 : decode cX4_pay 20 = .ok (.iload 4, 2) := by decide +kernel
theorem dX4_pay_22 : decode cX4_pay 22 = .ok (.iconst 0, 1) := by decide +kernel
theorem dX4_pay_23 : decode cX4_pay 23 = .ok (.iconst 2, 1) := by decide +kernel
theorem dX4_pay_24 : decode cX4_pay 24 = .ok (.invokestatic 66, 3) := by decide +kernel
theorem dX4_pay_27 : decode cX4_pay 27 = .ok (.aload_n 0, 1) := by decide +kernel
theorem dX4_pay_28 : decode cX4_pay 28 = .ok (.iload_n 1, 1) := by decide +kernel
theorem dX4_pay_29 : decode cX4_pay 29 = .ok (.invokevirtual 70, 3) := by decide +kernel
theorem dX4_pay_32 : decode cX4_pay 32 = .ok (.aload_n 0, 1) := by decide +kernel
theorem dX4_pay_33 : decode cX4_pay 33 = .ok (.iload_n 2, 1) := by decide +kernel
theorem dX4_pay_34 : decode cX4_pay 34 = .ok (.invokevirtual 70, 3) := by decide +kernel
theorem dX4_pay_37 : decode cX4_pay 37 = .ok (.aload_n 0, 1) := by decide +kernel
theorem dX4_pay_38 : decode cX4_pay 38 = .ok (.getfield 29, 3) := by decide +kernel
theorem dX4_pay_41 : decode cX4_pay 41 = .ok (.getfield 113, 3) := by decide +kernel
theorem dX4_pay_44 : decode cX4_pay 44 = .ok (.bipush 60, 2) := by decide +kernel
theorem dX4_pay_46 : decode cX4_pay 46 = .ok (.if_icmp .lt 13, 3) := by decide +kernel
theorem dX4_pay_49 : decode cX4_pay 49 = .ok (.new 77, 3) := by decide +kernel
theorem dX4_pay_52 : decode cX4_pay 52 = .ok (.dup, 1) := by decide +kernel
theorem dX4_pay_53 : decode cX4_pay 53 = .ok (.ldc 116, 2) := by decide +kernel
theorem dX4_pay_55 : decode cX4_pay 55 = .ok (.invokespecial 81, 3) := by decide +kernel
theorem dX4_pay_58 : decode cX4_pay 58 = .ok (.athrow, 1) := by decide +kernel
theorem dX4_pay_59 : decode cX4_pay 59 = .ok (.aload_n 0, 1) := by decide +kernel
theorem dX4_pay_60 : decode cX4_pay 60 = .ok (.getfield 29, 3) := by decide +kernel
theorem dX4_pay_63 : decode cX4_pay 63 = .ok (.iload_n 1, 1) := by decide +kernel
theorem dX4_pay_64 : decode cX4_pay 64 = .ok (.iload_n 2, 1) := by decide +kernel
theorem dX4_pay_65 : decode cX4_pay 65 = .ok (.iload_n 3, 1) := by decide +kernel
theorem dX4_pay_66 : decode cX4_pay 66 = .ok (.iload 4, 2) := by decide +kernel
theorem dX4_pay_68 : decode cX4_pay 68 = .ok (.invokevirtual 118, 3) := by decide +kernel
theorem dX4_pay_71 : decode cX4_pay 71 = .ok (.ireturn, 1) := by decide +kernel
theorem dX4_drop_0 : decode cX4_drop 0 = .ok (.aload_n 0, 1) := by decide +kernel
theorem dX4_drop_1 : decode cX4_drop 1 = .ok (.iload_n 1, 1) := by decide +kernel
theorem dX4_drop_2 : decode cX4_drop 2 = .ok (.invokevirtual 122, 3) := by decide +kernel
theorem dX4_drop_5 : decode cX4_drop 5 = .ok (.aload_n 0, 1) := by decide +kernel
theorem dX4_drop_6 : decode cX4_drop 6 = .ok (.getfield 29, 3) := by decide +kernel
theorem dX4_drop_9 : decode cX4_drop 9 = .ok (.getfield 125, 3) := by decide +kernel
theorem dX4_drop_12 : decode cX4_drop 12 = .ok (.iload_n 1, 1) := by decide +kernel
theorem dX4_drop_13 : decode cX4_drop 13 = .ok (.baload, 1) := by decide +kernel
theorem dX4_drop_14 : decode cX4_drop 14 = .ok (.ifCond .ne 13, 3) := by decide +kernel
theorem dX4_drop_17 : decode cX4_drop 17 = .ok (.new 77, 3) := by decide +kernel
theorem dX4_drop_20 : decode cX4_drop 20 = .ok (.dup, 1) := by decide +kernel
theorem dX4_drop_21 : decode cX4_drop 21 = .ok (.ldc 128, 2) := by decide +kernel
theorem dX4_drop_23 : decode cX4_drop 23 = .ok (.invokespecial 81, 3) := by decide +kernel
theorem dX4_drop_26 : decode cX4_drop 26 = .ok (.athrow, 1) := by decide +kernel
theorem dX4_drop_27 : decode cX4_drop 27 = .ok (.aload_n 0, 1) := by decide +kernel
theorem dX4_drop_28 : decode cX4_drop 28 = .ok (.getfield 29, 3) := by decide +kernel
theorem dX4_drop_31 : decode cX4_drop 31 = .ok (.getfield 125, 3) := by decide +kernel
theorem dX4_drop_34 : decode cX4_drop 34 = .ok (.iload_n 1, 1) := by decide +kernel
theorem dX4_drop_35 : decode cX4_drop 35 = .ok (.iconst 0, 1) := by decide +kernel
theorem dX4_drop_36 : decode cX4_drop 36 = .ok (.bastore, 1) := by decide +kernel
theorem dX4_drop_37 : decode cX4_drop 37 = .ok (.aload_n 0, 1) := by decide +kernel
theorem dX4_drop_38 : decode cX4_drop 38 = .ok (.getfield 29, 3) := by decide +kernel
theorem dX4_drop_41 : decode cX4_drop 41 = .ok (.invokevirtual 130, 3) := by decide +kernel
theorem dX4_drop_44 : decode cX4_drop 44 = .ok (.ireturn, 1) := by decide +kernel
theorem dX4_setSmall_0 : decode cX4_setSmall 0 = .ok (.iload_n 1, 1) := by decide +kernel
theorem dX4_setSmall_1 : decode cX4_setSmall 1 = .ok (.iconst 0, 1) := by decide +kernel
theorem dX4_setSmall_2 : decode cX4_setSmall 2 = .ok (.ldc 110, 2) := by decide +kernel
theorem dX4_setSmall_4 : decode cX4_setSmall 4 = .ok (.invokestatic 66, 3) := by decide +kernel
theorem dX4_setSmall_7 : decode cX4_setSmall 7 = .ok (.aload_n 0, 1) := by decide +kernel
theorem dX4_setSmall_8 : decode cX4_setSmall 8 = .ok (.getfield 51, 3) := by decide +kernel
theorem dX4_setSmall_11 : decode cX4_setSmall 11 = .ok (.istore_n 2, 1) := by decide +kernel
theorem dX4_setSmall_12 : decode cX4_setSmall 12 = .ok (.aload_n 0, 1) := by decide +kernel
theorem dX4_setSmall_13 : decode cX4_setSmall 13 = .ok (.iload_n 1, 1) := by decide +kernel
theorem dX4_setSmall_14 : decode cX4_setSmall 14 = .ok (.putfield 51, 3) := by decide +kernel
theorem dX4_setSmall_17 : decode cX4_setSmall 17 = .ok (.iload_n 2, 1) := by decide +kernel
theorem dX4_setSmall_18 : decode cX4_setSmall 18 = .ok (.ireturn, 1) := by decide +kernel
theorem dX4_run_0 : decode cX4_run 0 = .ok (.iconst 0, 1) := by decide +kernel
theorem dX4_run_1 : decode cX4_run 1 = .ok (.istore_n 1, 1) := by decide +kernel
theorem dX4_run_2 : decode cX4_run 2 = .ok (.iconst 0, 1) := by decide +kernel
theorem dX4_run_3 : decode cX4_run 3 = .ok (.istore_n 2, 1) := by decide +kernel
theorem dX4_run_4 : decode cX4_run 4 = .ok (.iload_n 2, 1) := by decide +kernel
theorem dX4_run_5 : decode cX4_run 5 = .ok (.bipush 60, 2) := by decide +kernel
theorem dX4_run_7 : decode cX4_run 7 = .ok (.if_icmp .gt 33, 3) := by decide +kernel
theorem dX4_run_10 : decode cX4_run 10 = .ok (.aload_n 0, 1) := by decide +kernel
theorem dX4_run_11 : decode cX4_run 11 = .ok (.invokevirtual 134, 3) := by decide +kernel
theorem dX4_run_14 : decode cX4_run 14 = .ok (.istore_n 3, 1) := by decide +kernel
theorem dX4_run_15 : decode cX4_run 15 = .ok (.iload_n 3, 1) := by decide +kernel
theorem dX4_run_16 : decode cX4_run 16 = .ok (.ifCond .ne 8, 3) := by decide +kernel
theorem dX4_run_19 : decode cX4_run 19 = .ok (.aload_n 0, 1) := by decide +kernel
theorem dX4_run_20 : decode cX4_run 20 = .ok (.invokevirtual 137, 3) := by decide +kernel
theorem dX4_run_23 : decode cX4_run 23 = .ok (.istore_n 3, 1) := by decide +kernel
theorem dX4_run_24 : decode cX4_run 24 = .ok (.iload_n 3, 1) := by decide +kernel
theorem dX4_run_25 : decode cX4_run 25 = .ok (.ifCond .ne 5, 3) := by decide +kernel
theorem dX4_run_28 : decode cX4_run 28 = .ok (.iload_n 1, 1) := by decide +kernel
theorem dX4_run_29 : decode cX4_run 29 = .ok (.ireturn, 1) := by decide +kernel
theorem dX4_run_30 : decode cX4_run 30 = .ok (.iload_n 1, 1) := by decide +kernel
theorem dX4_run_31 : decode cX4_run 31 = .ok (.iload_n 3, 1) := by decide +kernel
theorem dX4_run_32 : decode cX4_run 32 = .ok (.iadd, 1) := by decide +kernel
theorem dX4_run_33 : decode cX4_run 33 = .ok (.istore_n 1, 1) := by decide +kernel
theorem dX4_run_34 : decode cX4_run 34 = .ok (.iinc 2 1, 3) := by decide +kernel
theorem dX4_run_37 : decode cX4_run 37 = .ok (.goto (-33), 3) := by decide +kernel
theorem dX4_run_40 : decode cX4_run 40 = .ok (.iload_n 1, 1) := by decide +kernel
theorem dX4_run_41 : decode cX4_run 41 = .ok (.ireturn, 1) := by decide +kernel
theorem dX4_queued_0 : decode cX4_queued 0 = .ok (.iload_n 1, 1) := by decide +kernel
theorem dX4_queued_1 : decode cX4_queued 1 = .ok (.invokestatic 61, 3) := by decide +kernel
theorem dX4_queued_4 : decode cX4_queued 4 = .ok (.iload_n 2, 1) := by decide +kernel
theorem dX4_queued_5 : decode cX4_queued 5 = .ok (.ifCond .ge 13, 3) := by decide +kernel
theorem dX4_queued_8 : decode cX4_queued 8 = .ok (.new 140, 3) := by decide +kernel
theorem dX4_queued_11 : decode cX4_queued 11 = .ok (.dup, 1) := by decide +kernel
theorem dX4_queued_12 : decode cX4_queued 12 = .ok (.ldc 142, 2) := by decide +kernel
theorem dX4_queued_14 : decode cX4_queued 14 = .ok (.invokespecial 144, 3) := by decide +kernel
theorem dX4_queued_17 : decode cX4_queued 17 = .ok (.athrow, 1) := by decide +kernel
theorem dX4_queued_18 : decode cX4_queued 18 = .ok (.aload_n 0, 1) := by decide +kernel
theorem dX4_queued_19 : decode cX4_queued 19 = .ok (.getfield 29, 3) := by decide +kernel
theorem dX4_queued_22 : decode cX4_queued 22 = .ok (.iload_n 1, 1) := by decide +kernel
theorem dX4_queued_23 : decode cX4_queued 23 = .ok (.iload_n 2, 1) := by decide +kernel
theorem dX4_queued_24 : decode cX4_queued 24 = .ok (.invokevirtual 145, 3) := by decide +kernel
theorem dX4_queued_27 : decode cX4_queued 27 = .ok (.ireturn, 1) := by decide +kernel
theorem dX4_why_0 : decode cX4_why 0 = .ok (.aload_n 0, 1) := by decide +kernel
theorem dX4_why_1 : decode cX4_why 1 = .ok (.iload_n 1, 1) := by decide +kernel
theorem dX4_why_2 : decode cX4_why 2 = .ok (.invokevirtual 122, 3) := by decide +kernel
theorem dX4_why_5 : decode cX4_why 5 = .ok (.aload_n 0, 1) := by decide +kernel
theorem dX4_why_6 : decode cX4_why 6 = .ok (.iload_n 1, 1) := by decide +kernel
theorem dX4_why_7 : decode cX4_why 7 = .ok (.invokevirtual 148, 3) := by decide +kernel
theorem dX4_why_10 : decode cX4_why 10 = .ok (.ireturn, 1) := by decide +kernel
theorem dX4_canAny_0 : decode cX4_canAny 0 = .ok (.aload_n 0, 1) := by decide +kernel
theorem dX4_canAny_1 : decode cX4_canAny 1 = .ok (.getfield 29, 3) := by decide +kernel
theorem dX4_canAny_4 : decode cX4_canAny 4 = .ok (.invokevirtual 130, 3) := by decide +kernel
theorem dX4_canAny_7 : decode cX4_canAny 7 = .ok (.bipush 10, 2) := by decide +kernel
theorem dX4_canAny_9 : decode cX4_canAny 9 = .ok (.if_icmp .le 13, 3) := by decide +kernel
theorem dX4_canAny_12 : decode cX4_canAny 12 = .ok (.new 77, 3) := by decide +kernel
theorem dX4_canAny_15 : decode cX4_canAny 15 = .ok (.dup, 1) := by decide +kernel
theorem dX4_canAny_16 : decode cX4_canAny 16 = .ok (.ldc 152, 2) := by decide +kernel
theorem dX4_canAny_18 : decode cX4_canAny 18 = .ok (.invokespecial 81, 3) := by decide +kernel
theorem dX4_canAny_21 : decode cX4_canAny 21 = .ok (.athrow, 1) := by decide +kernel
theorem dX4_canAny_22 : decode cX4_canAny 22 = .ok (.aload_n 0, 1) := by decide +kernel
theorem dX4_canAny_23 : decode cX4_canAny 23 = .ok (.invokevirtual 154, 3) := by decide +kernel
theorem dX4_canAny_26 : decode cX4_canAny 26 = .ok (.istore_n 1, 1) := by decide +kernel
theorem dX4_canAny_27 : decode cX4_canAny 27 = .ok (.iconst 1, 1) := by decide +kernel
theorem dX4_canAny_28 : decode cX4_canAny 28 = .ok (.istore_n 2, 1) := by decide +kernel
theorem dX4_canAny_29 : decode cX4_canAny 29 = .ok (.iload_n 2, 1) := by decide +kernel
theorem dX4_canAny_30 : decode cX4_canAny 30 = .ok (.iconst 1, 1) := by decide +kernel
theorem dX4_canAny_31 : decode cX4_canAny 31 = .ok (.iload_n 1, 1) := by decide +kernel
theorem dX4_canAny_32 : decode cX4_canAny 32 = .ok (.ishl, 1) := by decide +kernel
theorem dX4_canAny_33 : decode cX4_canAny 33 = .ok (.if_icmp .ge 20, 3) := by decide +kernel
theorem dX4_canAny_36 : decode cX4_canAny 36 = .ok (.aload_n 0, 1) := by decide +kernel
theorem dX4_canAny_37 : decode cX4_canAny 37 = .ok (.iload_n 2, 1) := by decide +kernel
theorem dX4_canAny_38 : decode cX4_canAny 38 = .ok (.iload_n 1, 1) := by decide +kernel
theorem dX4_canAny_39 : decode cX4_canAny 39 = .ok (.invokevirtual 157, 3) := by decide +kernel
theorem dX4_canAny_42 : decode cX4_canAny 42 = .ok (.ifCond .eq 5, 3) := by decide +kernel
theorem dX4_canAny_45 : decode cX4_canAny 45 = .ok (.iconst 1, 1) := by decide +kernel
theorem dX4_canAny_46 : decode cX4_canAny 46 = .ok (.ireturn, 1) := by decide +kernel
theorem dX4_canAny_47 : decode cX4_canAny 47 = .ok (.iinc 2 1, 3) := by decide +kernel
theorem dX4_canAny_50 : decode cX4_canAny 50 = .ok (.goto (-21), 3) := by decide +kernel
theorem dX4_canAny_53 : decode cX4_canAny 53 = .ok (.iconst 0, 1) := by decide +kernel
theorem dX4_canAny_54 : decode cX4_canAny 54 = .ok (.ireturn, 1) := by decide +kernel
theorem dX4_setPrice_0 : decode cX4_setPrice 0 = .ok (.iload_n 1, 1) := by decide +kernel
theorem dX4_setPrice_1 : decode cX4_setPrice 1 = .ok (.iconst 1, 1) := by decide +kernel
theorem dX4_setPrice_2 : decode cX4_setPrice 2 = .ok (.sipush 1000, 3) := by decide +kernel
theorem dX4_setPrice_5 : decode cX4_setPrice 5 = .ok (.invokestatic 66, 3) := by decide +kernel
theorem dX4_setPrice_8 : decode cX4_setPrice 8 = .ok (.iload_n 2, 1) := by decide +kernel
theorem dX4_setPrice_9 : decode cX4_setPrice 9 = .ok (.iconst 0, 1) := by decide +kernel
theorem dX4_setPrice_10 : decode cX4_setPrice 10 = .ok (.sipush 1000, 3) := by decide +kernel
theorem dX4_setPrice_13 : decode cX4_setPrice 13 = .ok (.invokestatic 66, 3) := by decide +kernel
theorem dX4_setPrice_16 : decode cX4_setPrice 16 = .ok (.aload_n 0, 1) := by decide +kernel
theorem dX4_setPrice_17 : decode cX4_setPrice 17 = .ok (.iload_n 1, 1) := by decide +kernel
theorem dX4_setPrice_18 : decode cX4_setPrice 18 = .ok (.putfield 55, 3) := by decide +kernel
theorem dX4_setPrice_21 : decode cX4_setPrice 21 = .ok (.aload_n 0, 1) := by decide +kernel
theorem dX4_setPrice_22 : decode cX4_setPrice 22 = .ok (.iload_n 2, 1) := by decide +kernel
theorem dX4_setPrice_23 : decode cX4_setPrice 23 = .ok (.putfield 58, 3) := by decide +kernel
theorem dX4_setPrice_26 : decode cX4_setPrice 26 = .ok (.return_, 1) := by decide +kernel
theorem dX4_lend_0 : decode cX4_lend 0 = .ok (.iload_n 1, 1) := by decide +kernel
theorem dX4_lend_1 : decode cX4_lend 1 = .ok (.invokestatic 61, 3) := by decide +kernel
theorem dX4_lend_4 : decode cX4_lend 4 = .ok (.iload_n 2, 1) := by decide +kernel
theorem dX4_lend_5 : decode cX4_lend 5 = .ok (.invokestatic 61, 3) := by decide +kernel
theorem dX4_lend_8 : decode cX4_lend 8 = .ok (.iload_n 1, 1) := by decide +kernel
theorem dX4_lend_9 : decode cX4_lend 9 = .ok (.iload_n 2, 1) := by decide +kernel
theorem dX4_lend_10 : decode cX4_lend 10 = .ok (.invokestatic 94, 3) := by decide +kernel
theorem dX4_lend_13 : decode cX4_lend 13 = .ok (.iload_n 3, 1) := by decide +kernel
theorem dX4_lend_14 : decode cX4_lend 14 = .ok (.iconst 1, 1) := by decide +kernel
theorem dX4_lend_15 : decode cX4_lend 15 = .ok (.ldc 110, 2) := by decide +kernel
theorem dX4_lend_17 : decode cX4_lend 17 = .ok (.invokestatic 66, 3) := by decide +kernel
theorem dX4_lend_20 : decode cX4_lend 20 = .ok (.iload 4, 2) := by decide +kernel
theorem dX4_lend_22 : decode cX4_lend 22 = .ok (.iconst 0, 1) := by decide +kernel
theorem dX4_lend_23 : decode cX4_lend 23 = .ok (.sipush 200, 3) := by decide +kernel
theorem dX4_lend_26 : decode cX4_lend 26 = .ok (.invokestatic 66, 3) := by decide +kernel
theorem dX4_lend_29 : decode cX4_lend 29 = .ok (.iload 5, 2) := by decide +kernel
theorem dX4_lend_31 : decode cX4_lend 31 = .ok (.iconst 0, 1) := by decide +kernel
theorem dX4_lend_32 : decode cX4_lend 32 = .ok (.sipush 1000, 3) := by decide +kernel
theorem dX4_lend_35 : decode cX4_lend 35 = .ok (.invokestatic 66, 3) := by decide +kernel
theorem dX4_lend_38 : decode cX4_lend 38 = .ok (.aload_n 0, 1) := by decide +kernel
theorem dX4_lend_39 : decode cX4_lend 39 = .ok (.iload_n 1, 1) := by decide +kernel
theorem dX4_lend_40 : decode cX4_lend 40 = .ok (.invokevirtual 70, 3) := by decide +kernel
theorem dX4_lend_43 : decode cX4_lend 43 = .ok (.aload_n 0, 1) := by decide +kernel
theorem dX4_lend_44 : decode cX4_lend 44 = .ok (.iload_n 2, 1) := by decide +kernel
theorem dX4_lend_45 : decode cX4_lend 45 = .ok (.invokevirtual 70, 3) := by decide +kernel
theorem dX4_lend_48 : decode cX4_lend 48 = .ok (.aload_n 0, 1) := by decide +kernel
theorem dX4_lend_49 : decode cX4_lend 49 = .ok (.iload_n 1, 1) := by decide +kernel
theorem dX4_lend_50 : decode cX4_lend 50 = .ok (.iload_n 2, 1) := by decide +kernel
theorem dX4_lend_51 : decode cX4_lend 51 = .ok (.iload_n 3, 1) := by decide +kernel
theorem dX4_lend_52 : decode cX4_lend 52 = .ok (.iload 5, 2) := by decide +kernel
theorem dX4_lend_54 : decode cX4_lend 54 = .ok (.invokevirtual 161, 3) := by decide +kernel
theorem dX4_lend_57 : decode cX4_lend 57 = .ok (.aload_n 0, 1) := by decide +kernel
theorem dX4_lend_58 : decode cX4_lend 58 = .ok (.getfield 10, 3) := by decide +kernel
theorem dX4_lend_61 : decode cX4_lend 61 = .ok (.iload_n 1, 1) := by decide +kernel
theorem dX4_lend_62 : decode cX4_lend 62 = .ok (.iload_n 2, 1) := by decide +kernel
theorem dX4_lend_63 : decode cX4_lend 63 = .ok (.iload_n 3, 1) := by decide +kernel
theorem dX4_lend_64 : decode cX4_lend 64 = .ok (.invokevirtual 165, 3) := by decide +kernel
theorem dX4_lend_67 : decode cX4_lend 67 = .ok (.aload_n 0, 1) := by decide +kernel
theorem dX4_lend_68 : decode cX4_lend 68 = .ok (.getfield 44, 3) := by decide +kernel
theorem dX4_lend_71 : decode cX4_lend 71 = .ok (.iload_n 2, 1) := by decide +kernel
theorem dX4_lend_72 : decode cX4_lend 72 = .ok (.dup2, 1) := by decide +kernel
theorem dX4_lend_73 : decode cX4_lend 73 = .ok (.iaload, 1) := by decide +kernel
theorem dX4_lend_74 : decode cX4_lend 74 = .ok (.iload 5, 2) := by decide +kernel
theorem dX4_lend_76 : decode cX4_lend 76 = .ok (.isub, 1) := by decide +kernel
theorem dX4_lend_77 : decode cX4_lend 77 = .ok (.iastore, 1) := by decide +kernel
theorem dX4_lend_78 : decode cX4_lend 78 = .ok (.aload_n 0, 1) := by decide +kernel
theorem dX4_lend_79 : decode cX4_lend 79 = .ok (.getfield 36, 3) := by decide +kernel
theorem dX4_lend_82 : decode cX4_lend 82 = .ok (.iload_n 1, 1) := by decide +kernel
theorem dX4_lend_83 : decode cX4_lend 83 = .ok (.iload_n 2, 1) := by decide +kernel
theorem dX4_lend_84 : decode cX4_lend 84 = .ok (.iload_n 3, 1) := by decide +kernel
theorem dX4_lend_85 : decode cX4_lend 85 = .ok (.iload_n 3, 1) := by decide +kernel
theorem dX4_lend_86 : decode cX4_lend 86 = .ok (.iload 4, 2) := by decide +kernel
theorem dX4_lend_88 : decode cX4_lend 88 = .ok (.imul, 1) := by decide +kernel
theorem dX4_lend_89 : decode cX4_lend 89 = .ok (.sipush 1000, 3) := by decide +kernel
theorem dX4_lend_92 : decode cX4_lend 92 = .ok (.idiv, 1) := by decide +kernel
theorem dX4_lend_93 : decode cX4_lend 93 = .ok (.iadd, 1) := by decide +kernel
theorem dX4_lend_94 : decode cX4_lend 94 = .ok (.iload 5, 2) := by decide +kernel
theorem dX4_lend_96 : decode cX4_lend 96 = .ok (.invokevirtual 168, 3) := by decide +kernel
theorem dX4_lend_99 : decode cX4_lend 99 = .ok (.ireturn, 1) := by decide +kernel
theorem dX4_loans_0 : decode cX4_loans 0 = .ok (.aload_n 0, 1) := by decide +kernel
theorem dX4_loans_1 : decode cX4_loans 1 = .ok (.getfield 36, 3) := by decide +kernel
theorem dX4_loans_4 : decode cX4_loans 4 = .ok (.getfield 169, 3) := by decide +kernel
theorem dX4_loans_7 : decode cX4_loans 7 = .ok (.aload_n 0, 1) := by decide +kernel
theorem dX4_loans_8 : decode cX4_loans 8 = .ok (.getfield 36, 3) := by decide +kernel
theorem dX4_loans_11 : decode cX4_loans 11 = .ok (.getfield 170, 3) := by decide +kernel
theorem dX4_loans_14 : decode cX4_loans 14 = .ok (.isub, 1) := by decide +kernel
theorem dX4_loans_15 : decode cX4_loans 15 = .ok (.ireturn, 1) := by decide +kernel
theorem dX4_morning_0 : decode cX4_morning 0 = .ok (.aload_n 0, 1) := by decide +kernel
theorem dX4_morning_1 : decode cX4_morning 1 = .ok (.getfield 10, 3) := by decide +kernel
theorem dX4_morning_4 : decode cX4_morning 4 = .ok (.invokevirtual 173, 3) := by decide +kernel
theorem dX4_morning_7 : decode cX4_morning 7 = .ok (.iconst 0, 1) := by decide +kernel
theorem dX4_morning_8 : decode cX4_morning 8 = .ok (.istore_n 1, 1) := by decide +kernel
theorem dX4_morning_9 : decode cX4_morning 9 = .ok (.aload_n 0, 1) := by decide +kernel
theorem dX4_morning_10 : decode cX4_morning 10 = .ok (.getfield 36, 3) := by decide +kernel
theorem dX4_morning_13 : decode cX4_morning 13 = .ok (.getfield 170, 3) := by decide +kernel
theorem dX4_morning_16 : decode cX4_morning 16 = .ok (.istore_n 2, 1) := by decide +kernel
theorem dX4_morning_17 : decode cX4_morning 17 = .ok (.iload_n 2, 1) := by decide +kernel
theorem dX4_morning_18 : decode cX4_morning 18 = .ok (.aload_n 0, 1) := by decide +kernel
theorem dX4_morning_19 : decode cX4_morning 19 = .ok (.getfield 36, 3) := by decide +kernel
theorem dX4_morning_22 : decode cX4_morning 22 = .ok (.getfield 169, 3) := by decide +kernel
theorem dX4_morning_25 : decode cX4_morning 25 = .ok (.if_icmp .ge 46, 3) := by decide +kernel
theorem dX4_morning_28 : decode cX4_morning 28 = .ok (.aload_n 0, 1) := by decide +kernel
theorem dX4_morning_29 : decode cX4_morning 29 = .ok (.iload_n 2, 1) := by decide +kernel
theorem dX4_morning_30 : decode cX4_morning 30 = .ok (.invokevirtual 176, 3) := by decide +kernel
theorem dX4_morning_33 : decode cX4_morning 33 = .ok (.ifCond .eq 11, 3) := by decide +kernel
theorem dX4_morning_36 : decode cX4_morning 36 = .ok (.aload_n 0, 1) := by decide +kernel
theorem dX4_morning_37 : decode cX4_morning 37 = .ok (.iload_n 2, 1) := by decide +kernel
theorem dX4_morning_38 : decode cX4_morning 38 = .ok (.invokevirtual 180, 3) := by decide +kernel
theorem dX4_morning_41 : decode cX4_morning 41 = .ok (.goto 24, 3) := by decide +kernel
theorem dX4_morning_44 : decode cX4_morning 44 = .ok (.iload_n 1, 1) := by decide +kernel
theorem dX4_morning_45 : decode cX4_morning 45 = .ok (.aload_n 0, 1) := by decide +kernel
theorem dX4_morning_46 : decode cX4_morning 46 = .ok (.aload_n 0, 1) := by decide +kernel
theorem dX4_morning_47 : decode cX4_morning 47 = .ok (.getfield 36, 3) := by decide +kernel
theorem dX4_morning_50 : decode cX4_morning 50 = .ok (.getfield 183, 3) := by decide +kernel
theorem dX4_morning_53 : decode cX4_morning 53 = .ok (.iload_n 2, 1) := by decide +kernel
theorem dX4_morning_54 : decode cX4_morning 54 = .ok (.iaload, 1) := by decide +kernel
theorem dX4_morning_55 : decode cX4_morning 55 = .ok (.invokevirtual 186, 3) := by decide +kernel
theorem dX4_morning_58 : decode cX4_morning 58 = .ok (.iadd, 1) := by decide +kernel
theorem dX4_morning_59 : decode cX4_morning 59 = .ok (.istore_n 1, 1) := by decide +kernel
theorem dX4_morning_60 : decode cX4_morning 60 = .ok (.aload_n 0, 1) := by decide +kernel
theorem dX4_morning_61 : decode cX4_morning 61 = .ok (.iload_n 2, 1) := by decide +kernel
theorem dX4_morning_62 : decode cX4_morning 62 = .ok (.invokevirtual 189, 3) := by decide +kernel
theorem dX4_morning_65 : decode cX4_morning 65 = .ok (.iinc 2 1, 3) := by decide +kernel
theorem dX4_morning_68 : decode cX4_morning 68 = .ok (.goto (-51), 3) := by decide +kernel
theorem dX4_morning_71 : decode cX4_morning 71 = .ok (.aload_n 0, 1) := by decide +kernel
theorem dX4_morning_72 : decode cX4_morning 72 = .ok (.getfield 36, 3) := by decide +kernel
theorem dX4_morning_75 : decode cX4_morning 75 = .ok (.aload_n 0, 1) := by decide +kernel
theorem dX4_morning_76 : decode cX4_morning 76 = .ok (.getfield 36, 3) := by decide +kernel
theorem dX4_morning_79 : decode cX4_morning 79 = .ok (.getfield 169, 3) := by decide +kernel
theorem dX4_morning_82 : decode cX4_morning 82 = .ok (.putfield 170, 3) := by decide +kernel
theorem dX4_morning_85 : decode cX4_morning 85 = .ok (.iload_n 1, 1) := by decide +kernel
theorem dX4_morning_86 : decode cX4_morning 86 = .ok (.ireturn, 1) := by decide +kernel
theorem dX4_sold_0 : decode cX4_sold 0 = .ok (.aload_n 0, 1) := by decide +kernel
theorem dX4_sold_1 : decode cX4_sold 1 = .ok (.getfield 192, 3) := by decide +kernel
theorem dX4_sold_4 : decode cX4_sold 4 = .ok (.ireturn, 1) := by decide +kernel
theorem dX4_requireBank_0 : decode cX4_requireBank 0 = .ok (.iload_n 0, 1) := by decide +kernel
theorem dX4_requireBank_1 : decode cX4_requireBank 1 = .ok (.ifCond .lt 8, 3) := by decide +kernel
theorem dX4_requireBank_4 : decode cX4_requireBank 4 = .ok (.iload_n 0, 1) := by decide +kernel
theorem dX4_requireBank_5 : decode cX4_requireBank 5 = .ok (.iconst 5, 1) := by decide +kernel
theorem dX4_requireBank_6 : decode cX4_requireBank 6 = .ok (.if_icmp .lt 13, 3) := by decide +kernel
theorem dX4_requireBank_9 : decode cX4_requireBank 9 = .ok (.new 140, 3) := by decide +kernel
theorem dX4_requireBank_12 : decode cX4_requireBank 12 = .ok (.dup, 1) := by decide +kernel
theorem dX4_requireBank_13 : decode cX4_requireBank 13 = .ok (.ldc 195, 2) := by decide +kernel
theorem dX4_requireBank_15 : decode cX4_requireBank 15 = .ok (.invokespecial 144, 3) := by decide +kernel
theorem dX4_requireBank_18 : decode cX4_requireBank 18 = .ok (.athrow, 1) := by decide +kernel
theorem dX4_requireBank_19 : decode cX4_requireBank 19 = .ok (.return_, 1) := by decide +kernel
theorem dX4_requireTwo_0 : decode cX4_requireTwo 0 = .ok (.iload_n 0, 1) := by decide +kernel
theorem dX4_requireTwo_1 : decode cX4_requireTwo 1 = .ok (.iload_n 1, 1) := by decide +kernel
theorem dX4_requireTwo_2 : decode cX4_requireTwo 2 = .ok (.if_icmp .ne 13, 3) := by decide +kernel
theorem dX4_requireTwo_5 : decode cX4_requireTwo 5 = .ok (.new 197, 3) := by decide +kernel
theorem dX4_requireTwo_8 : decode cX4_requireTwo 8 = .ok (.dup, 1) := by decide +kernel
theorem dX4_requireTwo_9 : decode cX4_requireTwo 9 = .ok (.ldc 199, 2) := by decide +kernel
theorem dX4_requireTwo_11 : decode cX4_requireTwo 11 = .ok (.invokespecial 201, 3) := by decide +kernel
theorem dX4_requireTwo_14 : decode cX4_requireTwo 14 = .ok (.athrow, 1) := by decide +kernel
theorem dX4_requireTwo_15 : decode cX4_requireTwo 15 = .ok (.return_, 1) := by decide +kernel
theorem dX4_requireRange_0 : decode cX4_requireRange 0 = .ok (.iload_n 0, 1) := by decide +kernel
theorem dX4_requireRange_1 : decode cX4_requireRange 1 = .ok (.iload_n 1, 1) := by decide +kernel
theorem dX4_requireRange_2 : decode cX4_requireRange 2 = .ok (.if_icmp .lt 8, 3) := by decide +kernel
theorem dX4_requireRange_5 : decode cX4_requireRange 5 = .ok (.iload_n 0, 1) := by decide +kernel
theorem dX4_requireRange_6 : decode cX4_requireRange 6 = .ok (.iload_n 2, 1) := by decide +kernel
theorem dX4_requireRange_7 : decode cX4_requireRange 7 = .ok (.if_icmp .le 13, 3) := by decide +kernel
theorem dX4_requireRange_10 : decode cX4_requireRange 10 = .ok (.new 197, 3) := by decide +kernel
theorem dX4_requireRange_13 : decode cX4_requireRange 13 = .ok (.dup, 1) := by decide +kernel
theorem dX4_requireRange_14 : decode cX4_requireRange 14 = .ok (.ldc 202, 2) := by decide +kernel
theorem dX4_requireRange_16 : decode cX4_requireRange 16 = .ok (.invokespecial 201, 3) := by decide +kernel
theorem dX4_requireRange_19 : decode cX4_requireRange 19 = .ok (.athrow, 1) := by decide +kernel
theorem dX4_requireRange_20 : decode cX4_requireRange 20 = .ok (.return_, 1) := by decide +kernel
theorem dX4_requireOpen_0 : decode cX4_requireOpen 0 = .ok (.aload_n 0, 1) := by decide +kernel
theorem dX4_requireOpen_1 : decode cX4_requireOpen 1 = .ok (.getfield 40, 3) := by decide +kernel
theorem dX4_requireOpen_4 : decode cX4_requireOpen 4 = .ok (.iload_n 1, 1) := by decide +kernel
theorem dX4_requireOpen_5 : decode cX4_requireOpen 5 = .ok (.baload, 1) := by decide +kernel
theorem dX4_requireOpen_6 : decode cX4_requireOpen 6 = .ok (.ifCond .eq 13, 3) := by decide +kernel
theorem dX4_requireOpen_9 : decode cX4_requireOpen 9 = .ok (.new 77, 3) := by decide +kernel
theorem dX4_requireOpen_12 : decode cX4_requireOpen 12 = .ok (.dup, 1) := by decide +kernel
theorem dX4_requireOpen_13 : decode cX4_requireOpen 13 = .ok (.ldc 204, 2) := by decide +kernel
theorem dX4_requireOpen_15 : decode cX4_requireOpen 15 = .ok (.invokespecial 81, 3) := by decide +kernel
theorem dX4_requireOpen_18 : decode cX4_requireOpen 18 = .ok (.athrow, 1) := by decide +kernel
theorem dX4_requireOpen_19 : decode cX4_requireOpen 19 = .ok (.return_, 1) := by decide +kernel
theorem dX4_requirePayment_0 : decode cX4_requirePayment 0 = .ok (.iload_n 1, 1) := by decide +kernel
theorem dX4_requirePayment_1 : decode cX4_requirePayment 1 = .ok (.ifCond .lt 14, 3) := by decide +kernel
theorem dX4_requirePayment_4 : decode cX4_requirePayment 4 = .ok (.iload_n 1, 1) := by decide +kernel
theorem dX4_requirePayment_5 : decode cX4_requirePayment 5 = .ok (.aload_n 0, 1) := by decide +kernel
theorem dX4_requirePayment_6 : decode cX4_requirePayment 6 = .ok (.getfield 29, 3) := by decide +kernel
theorem dX4_requirePayment_9 : decode cX4_requirePayment 9 = .ok (.getfield 113, 3) := by decide +kernel
theorem dX4_requirePayment_12 : decode cX4_requirePayment 12 = .ok (.if_icmp .lt 13, 3) := by decide +kernel
theorem dX4_requirePayment_15 : decode cX4_requirePayment 15 = .ok (.new 140, 3) := by decide +kernel
theorem dX4_requirePayment_18 : decode cX4_requirePayment 18 = .ok (.dup, 1) := by decide +kernel
theorem dX4_requirePayment_19 : decode cX4_requirePayment 19 = .ok (.ldc 206, 2) := by decide +kernel
theorem dX4_requirePayment_21 : decode cX4_requirePayment 21 = .ok (.invokespecial 144, 3) := by decide +kernel
theorem dX4_requirePayment_24 : decode cX4_requirePayment 24 = .ok (.athrow, 1) := by decide +kernel
theorem dX4_requirePayment_25 : decode cX4_requirePayment 25 = .ok (.return_, 1) := by decide +kernel
theorem dX4_requireLoanable_0 : decode cX4_requireLoanable 0 = .ok (.aload_n 0, 1) := by decide +kernel
theorem dX4_requireLoanable_1 : decode cX4_requireLoanable 1 = .ok (.getfield 36, 3) := by decide +kernel
theorem dX4_requireLoanable_4 : decode cX4_requireLoanable 4 = .ok (.getfield 169, 3) := by decide +kernel
theorem dX4_requireLoanable_7 : decode cX4_requireLoanable 7 = .ok (.bipush 40, 2) := by decide +kernel
theorem dX4_requireLoanable_9 : decode cX4_requireLoanable 9 = .ok (.if_icmp .lt 13, 3) := by decide +kernel
theorem dX4_requireLoanable_12 : decode cX4_requireLoanable 12 = .ok (.new 77, 3) := by decide +kernel
theorem dX4_requireLoanable_15 : decode cX4_requireLoanable 15 = .ok (.dup, 1) := by decide +kernel
theorem dX4_requireLoanable_16 : decode cX4_requireLoanable 16 = .ok (.ldc 208, 2) := by decide +kernel
theorem dX4_requireLoanable_18 : decode cX4_requireLoanable 18 = .ok (.invokespecial 81, 3) := by decide +kernel
theorem dX4_requireLoanable_21 : decode cX4_requireLoanable 21 = .ok (.athrow, 1) := by decide +kernel
theorem dX4_requireLoanable_22 : decode cX4_requireLoanable 22 = .ok (.aload_n 0, 1) := by decide +kernel
theorem dX4_requireLoanable_23 : decode cX4_requireLoanable 23 = .ok (.getfield 44, 3) := by decide +kernel
theorem dX4_requireLoanable_26 : decode cX4_requireLoanable 26 = .ok (.iload_n 2, 1) := by decide +kernel
theorem dX4_requireLoanable_27 : decode cX4_requireLoanable 27 = .ok (.iaload, 1) := by decide +kernel
theorem dX4_requireLoanable_28 : decode cX4_requireLoanable 28 = .ok (.iload 4, 2) := by decide +kernel
theorem dX4_requireLoanable_30 : decode cX4_requireLoanable 30 = .ok (.if_icmp .lt 13, 3) := by decide +kernel
theorem dX4_requireLoanable_33 : decode cX4_requireLoanable 33 = .ok (.aload_n 0, 1) := by decide +kernel
theorem dX4_requireLoanable_34 : decode cX4_requireLoanable 34 = .ok (.iload 4, 2) := by decide +kernel
theorem dX4_requireLoanable_36 : decode cX4_requireLoanable 36 = .ok (.invokevirtual 210, 3) := by decide +kernel
theorem dX4_requireLoanable_39 : decode cX4_requireLoanable 39 = .ok (.iload_n 3, 1) := by decide +kernel
theorem dX4_requireLoanable_40 : decode cX4_requireLoanable 40 = .ok (.if_icmp .ge 13, 3) := by decide +kernel
theorem dX4_requireLoanable_43 : decode cX4_requireLoanable 43 = .ok (.new 77, 3) := by decide +kernel
theorem dX4_requireLoanable_46 : decode cX4_requireLoanable 46 = .ok (.dup, 1) := by decide +kernel
theorem dX4_requireLoanable_47 : decode cX4_requireLoanable 47 = .ok (.ldc 213, 2) := by decide +kernel
theorem dX4_requireLoanable_49 : decode cX4_requireLoanable 49 = .ok (.invokespecial 81, 3) := by decide +kernel
theorem dX4_requireLoanable_52 : decode cX4_requireLoanable 52 = .ok (.athrow, 1) := by decide +kernel
theorem dX4_requireLoanable_53 : decode cX4_requireLoanable 53 = .ok (.aload_n 0, 1) := by decide +kernel
theorem dX4_requireLoanable_54 : decode cX4_requireLoanable 54 = .ok (.getfield 10, 3) := by decide +kernel
theorem dX4_requireLoanable_57 : decode cX4_requireLoanable 57 = .ok (.getfield 73, 3) := by decide +kernel
theorem dX4_requireLoanable_60 : decode cX4_requireLoanable 60 = .ok (.iload_n 1, 1) := by decide +kernel
theorem dX4_requireLoanable_61 : decode cX4_requireLoanable 61 = .ok (.iaload, 1) := by decide +kernel
theorem dX4_requireLoanable_62 : decode cX4_requireLoanable 62 = .ok (.iload_n 3, 1) := by decide +kernel
theorem dX4_requireLoanable_63 : decode cX4_requireLoanable 63 = .ok (.isub, 1) := by decide +kernel
theorem dX4_requireLoanable_64 : decode cX4_requireLoanable 64 = .ok (.aload_n 0, 1) := by decide +kernel
theorem dX4_requireLoanable_65 : decode cX4_requireLoanable 65 = .ok (.getfield 22, 3) := by decide +kernel
theorem dX4_requireLoanable_68 : decode cX4_requireLoanable 68 = .ok (.getfield 91, 3) := by decide +kernel
theorem dX4_requireLoanable_71 : decode cX4_requireLoanable 71 = .ok (.iload_n 1, 1) := by decide +kernel
theorem dX4_requireLoanable_72 : decode cX4_requireLoanable 72 = .ok (.iaload, 1) := by decide +kernel
theorem dX4_requireLoanable_73 : decode cX4_requireLoanable 73 = .ok (.if_icmp .ge 13, 3) := by decide +kernel
theorem dX4_requireLoanable_76 : decode cX4_requireLoanable 76 = .ok (.new 77, 3) := by decide +kernel
theorem dX4_requireLoanable_79 : decode cX4_requireLoanable 79 = .ok (.dup, 1) := by decide +kernel
theorem dX4_requireLoanable_80 : decode cX4_requireLoanable 80 = .ok (.ldc 215, 2) := by decide +kernel
theorem dX4_requireLoanable_82 : decode cX4_requireLoanable 82 = .ok (.invokespecial 81, 3) := by decide +kernel
theorem dX4_requireLoanable_85 : decode cX4_requireLoanable 85 = .ok (.athrow, 1) := by decide +kernel
theorem dX4_requireLoanable_86 : decode cX4_requireLoanable 86 = .ok (.return_, 1) := by decide +kernel
theorem dX4_pairOf_0 : decode cX4_pairOf 0 = .ok (.iload_n 0, 1) := by decide +kernel
theorem dX4_pairOf_1 : decode cX4_pairOf 1 = .ok (.iconst 5, 1) := by decide +kernel
theorem dX4_pairOf_2 : decode cX4_pairOf 2 = .ok (.imul, 1) := by decide +kernel
theorem dX4_pairOf_3 : decode cX4_pairOf 3 = .ok (.iload_n 1, 1) := by decide +kernel
theorem dX4_pairOf_4 : decode cX4_pairOf 4 = .ok (.iadd, 1) := by decide +kernel
theorem dX4_pairOf_5 : decode cX4_pairOf 5 = .ok (.ireturn, 1) := by decide +kernel
theorem dX4_obstacle_0 : decode cX4_obstacle 0 = .ok (.aload_n 0, 1) := by decide +kernel
theorem dX4_obstacle_1 : decode cX4_obstacle 1 = .ok (.getfield 29, 3) := by decide +kernel
theorem dX4_obstacle_4 : decode cX4_obstacle 4 = .ok (.getfield 125, 3) := by decide +kernel
theorem dX4_obstacle_7 : decode cX4_obstacle 7 = .ok (.iload_n 1, 1) := by decide +kernel
theorem dX4_obstacle_8 : decode cX4_obstacle 8 = .ok (.baload, 1) := by decide +kernel
theorem dX4_obstacle_9 : decode cX4_obstacle 9 = .ok (.ifCond .ne 5, 3) := by decide +kernel
theorem dX4_obstacle_12 : decode cX4_obstacle 12 = .ok (.iconst 3, 1) := by decide +kernel
theorem dX4_obstacle_13 : decode cX4_obstacle 13 = .ok (.ireturn, 1) := by decide +kernel
theorem dX4_obstacle_14 : decode cX4_obstacle 14 = .ok (.aload_n 0, 1) := by decide +kernel
theorem dX4_obstacle_15 : decode cX4_obstacle 15 = .ok (.getfield 29, 3) := by decide +kernel
theorem dX4_obstacle_18 : decode cX4_obstacle 18 = .ok (.getfield 217, 3) := by decide +kernel
theorem dX4_obstacle_21 : decode cX4_obstacle 21 = .ok (.iload_n 1, 1) := by decide +kernel
theorem dX4_obstacle_22 : decode cX4_obstacle 22 = .ok (.iaload, 1) := by decide +kernel
theorem dX4_obstacle_23 : decode cX4_obstacle 23 = .ok (.istore_n 2, 1) := by decide +kernel
theorem dX4_obstacle_24 : decode cX4_obstacle 24 = .ok (.aload_n 0, 1) := by decide +kernel
theorem dX4_obstacle_25 : decode cX4_obstacle 25 = .ok (.getfield 29, 3) := by decide +kernel
theorem dX4_obstacle_28 : decode cX4_obstacle 28 = .ok (.getfield 220, 3) := by decide +kernel
theorem dX4_obstacle_31 : decode cX4_obstacle 31 = .ok (.iload_n 1, 1) := by decide +kernel
theorem dX4_obstacle_32 : decode cX4_obstacle 32 = .ok (.iaload, 1) := by decide +kernel
theorem dX4_obstacle_33 : decode cX4_obstacle 33 = .ok (.istore_n 3, 1) := by decide +kernel
theorem dX4_obstacle_34 : decode cX4_obstacle 34 = .ok (.aload_n 0, 1) := by decide +kernel
theorem dX4_obstacle_35 : decode cX4_obstacle 35 = .ok (.getfield 10, 3) := by decide +kernel
theorem dX4_obstacle_38 : decode cX4_obstacle 38 = .ok (.getfield 73, 3) := by decide +kernel
theorem dX4_obstacle_41 : decode cX4_obstacle 41 = .ok (.iload_n 2, 1) := by decide +kernel
theorem dX4_obstacle_42 : decode cX4_obstacle 42 = .ok (.iaload, 1) := by decide +kernel
theorem dX4_obstacle_43 : decode cX4_obstacle 43 = .ok (.iload_n 3, 1) := by decide +kernel
theorem dX4_obstacle_44 : decode cX4_obstacle 44 = .ok (.isub, 1) := by decide +kernel
theorem dX4_obstacle_45 : decode cX4_obstacle 45 = .ok (.aload_n 0, 1) := by decide +kernel
theorem dX4_obstacle_46 : decode cX4_obstacle 46 = .ok (.getfield 22, 3) := by decide +kernel
theorem dX4_obstacle_49 : decode cX4_obstacle 49 = .ok (.getfield 91, 3) := by decide +kernel
theorem dX4_obstacle_52 : decode cX4_obstacle 52 = .ok (.iload_n 2, 1) := by decide +kernel
theorem dX4_obstacle_53 : decode cX4_obstacle 53 = .ok (.iaload, 1) := by decide +kernel
theorem dX4_obstacle_54 : decode cX4_obstacle 54 = .ok (.if_icmp .ge 5, 3) := by decide +kernel
theorem dX4_obstacle_57 : decode cX4_obstacle 57 = .ok (.iconst 1, 1) := by decide +kernel
theorem dX4_obstacle_58 : decode cX4_obstacle 58 = .ok (.ireturn, 1) := by decide +kernel
theorem dX4_obstacle_59 : decode cX4_obstacle 59 = .ok (.iload_n 2, 1) := by decide +kernel
theorem dX4_obstacle_60 : decode cX4_obstacle 60 = .ok (.aload_n 0, 1) := by decide +kernel
theorem dX4_obstacle_61 : decode cX4_obstacle 61 = .ok (.getfield 29, 3) := by decide +kernel
theorem dX4_obstacle_64 : decode cX4_obstacle 64 = .ok (.getfield 223, 3) := by decide +kernel
theorem dX4_obstacle_67 : decode cX4_obstacle 67 = .ok (.iload_n 1, 1) := by decide +kernel
theorem dX4_obstacle_68 : decode cX4_obstacle 68 = .ok (.iaload, 1) := by decide +kernel
theorem dX4_obstacle_69 : decode cX4_obstacle 69 = .ok (.invokestatic 98, 3) := by decide +kernel
theorem dX4_obstacle_72 : decode cX4_obstacle 72 = .ok (.istore 4, 2) := by decide +kernel
theorem dX4_obstacle_74 : decode cX4_obstacle 74 = .ok (.aload_n 0, 1) := by decide +kernel
theorem dX4_obstacle_75 : decode cX4_obstacle 75 = .ok (.getfield 10, 3) := by decide +kernel
theorem dX4_obstacle_78 : decode cX4_obstacle 78 = .ok (.getfield 101, 3) := by decide +kernel
theorem dX4_obstacle_81 : decode cX4_obstacle 81 = .ok (.iload 4, 2) := by decide +kernel
theorem dX4_obstacle_83 : decode cX4_obstacle 83 = .ok (.iaload, 1) := by decide +kernel
theorem dX4_obstacle_84 : decode cX4_obstacle 84 = .ok (.iload_n 3, 1) := by decide +kernel
theorem dX4_obstacle_85 : decode cX4_obstacle 85 = .ok (.iadd, 1) := by decide +kernel
theorem dX4_obstacle_86 : decode cX4_obstacle 86 = .ok (.aload_n 0, 1) := by decide +kernel
theorem dX4_obstacle_87 : decode cX4_obstacle 87 = .ok (.getfield 22, 3) := by decide +kernel
theorem dX4_obstacle_90 : decode cX4_obstacle 90 = .ok (.getfield 107, 3) := by decide +kernel
theorem dX4_obstacle_93 : decode cX4_obstacle 93 = .ok (.iload 4, 2) := by decide +kernel
theorem dX4_obstacle_95 : decode cX4_obstacle 95 = .ok (.iaload, 1) := by decide +kernel
theorem dX4_obstacle_96 : decode cX4_obstacle 96 = .ok (.if_icmp .le 7, 3) := by decide +kernel
theorem dX4_obstacle_99 : decode cX4_obstacle 99 = .ok (.iconst 2, 1) := by decide +kernel
theorem dX4_obstacle_100 : decode cX4_obstacle 100 = .ok (.goto 4, 3) := by decide +kernel
theorem dX4_obstacle_103 : decode cX4_obstacle 103 = .ok (.iconst 0, 1) := by decide +kernel
theorem dX4_obstacle_104 : decode cX4_obstacle 104 = .ok (.ireturn, 1) := by decide +kernel
theorem dX4_send_0 : decode cX4_send 0 = .ok (.aload_n 0, 1) := by decide +kernel
theorem dX4_send_1 : decode cX4_send 1 = .ok (.getfield 29, 3) := by decide +kernel
theorem dX4_send_4 : decode cX4_send 4 = .ok (.iload_n 1, 1) := by decide +kernel
theorem dX4_send_5 : decode cX4_send 5 = .ok (.aload_n 0, 1) := by decide +kernel
theorem dX4_send_6 : decode cX4_send 6 = .ok (.getfield 10, 3) := by decide +kernel
theorem dX4_send_9 : decode cX4_send 9 = .ok (.invokevirtual 226, 3) := by decide +kernel
theorem dX4_send_12 : decode cX4_send 12 = .ok (.aload_n 0, 1) := by decide +kernel
theorem dX4_send_13 : decode cX4_send 13 = .ok (.getfield 29, 3) := by decide +kernel
theorem dX4_send_16 : decode cX4_send 16 = .ok (.getfield 125, 3) := by decide +kernel
theorem dX4_send_19 : decode cX4_send 19 = .ok (.iload_n 1, 1) := by decide +kernel
theorem dX4_send_20 : decode cX4_send 20 = .ok (.iconst 0, 1) := by decide +kernel
theorem dX4_send_21 : decode cX4_send 21 = .ok (.bastore, 1) := by decide +kernel
theorem dX4_send_22 : decode cX4_send 22 = .ok (.return_, 1) := by decide +kernel
theorem dX4_goThroughBanks_0 : decode cX4_goThroughBanks 0 = .ok (.iconst 0, 1) := by decide +kernel
theorem dX4_goThroughBanks_1 : decode cX4_goThroughBanks 1 = .ok (.istore_n 1, 1) := by decide +kernel
theorem dX4_goThroughBanks_2 : decode cX4_goThroughBanks 2 = .ok (.iconst 0, 1) := by decide +kernel
theorem dX4_goThroughBanks_3 : decode cX4_goThroughBanks 3 = .ok (.istore_n 2, 1) := by decide +kernel
theorem dX4_goThroughBanks_4 : decode cX4_goThroughBanks 4 = .ok (.iload_n 2, 1) := by decide +kernel
theorem dX4_goThroughBanks_5 : decode cX4_goThroughBanks 5 = .ok (.iconst 5, 1) := by decide +kernel
theorem dX4_goThroughBanks_6 : decode cX4_goThroughBanks 6 = .ok (.if_icmp .ge 28, 3) := by decide +kernel
theorem dX4_goThroughBanks_9 : decode cX4_goThroughBanks 9 = .ok (.aload_n 0, 1) := by decide +kernel
theorem dX4_goThroughBanks_10 : decode cX4_goThroughBanks 10 = .ok (.iload_n 2, 1) := by decide +kernel
theorem dX4_goThroughBanks_11 : decode cX4_goThroughBanks 11 = .ok (.invokevirtual 230, 3) := by decide +kernel
theorem dX4_goThroughBanks_14 : decode cX4_goThroughBanks 14 = .ok (.istore_n 3, 1) := by decide +kernel
theorem dX4_goThroughBanks_15 : decode cX4_goThroughBanks 15 = .ok (.iload_n 3, 1) := by decide +kernel
theorem dX4_goThroughBanks_16 : decode cX4_goThroughBanks 16 = .ok (.iconst (-1), 1) := by decide +kernel
theorem dX4_goThroughBanks_17 : decode cX4_goThroughBanks 17 = .ok (.if_icmp .eq 11, 3) := by decide +kernel
theorem dX4_goThroughBanks_20 : decode cX4_goThroughBanks 20 = .ok (.aload_n 0, 1) := by decide +kernel
theorem dX4_goThroughBanks_21 : decode cX4_goThroughBanks 21 = .ok (.iload_n 3, 1) := by decide +kernel
theorem dX4_goThroughBanks_22 : decode cX4_goThroughBanks 22 = .ok (.invokevirtual 233, 3) := by decide +kernel
theorem dX4_goThroughBanks_25 : decode cX4_goThroughBanks 25 = .ok (.iinc 1 1, 3) := by decide +kernel
theorem dX4_goThroughBanks_28 : decode cX4_goThroughBanks 28 = .ok (.iinc 2 1, 3) := by decide +kernel
theorem dX4_goThroughBanks_31 : decode cX4_goThroughBanks 31 = .ok (.goto (-27), 3) := by decide +kernel
theorem dX4_goThroughBanks_34 : decode cX4_goThroughBanks 34 = .ok (.iload_n 1, 1) := by decide +kernel
theorem dX4_goThroughBanks_35 : decode cX4_goThroughBanks 35 = .ok (.ireturn, 1) := by decide +kernel
theorem dX4_nextToGo_0 : decode cX4_nextToGo 0 = .ok (.aload_n 0, 1) := by decide +kernel
theorem dX4_nextToGo_1 : decode cX4_nextToGo 1 = .ok (.getfield 29, 3) := by decide +kernel
theorem dX4_nextToGo_4 : decode cX4_nextToGo 4 = .ok (.iload_n 1, 1) := by decide +kernel
theorem dX4_nextToGo_5 : decode cX4_nextToGo 5 = .ok (.iconst 0, 1) := by decide +kernel
theorem dX4_nextToGo_6 : decode cX4_nextToGo 6 = .ok (.invokevirtual 145, 3) := by decide +kernel
theorem dX4_nextToGo_9 : decode cX4_nextToGo 9 = .ok (.istore_n 2, 1) := by decide +kernel
theorem dX4_nextToGo_10 : decode cX4_nextToGo 10 = .ok (.iload_n 2, 1) := by decide +kernel
theorem dX4_nextToGo_11 : decode cX4_nextToGo 11 = .ok (.iconst (-1), 1) := by decide +kernel
theorem dX4_nextToGo_12 : decode cX4_nextToGo 12 = .ok (.if_icmp .eq 11, 3) := by decide +kernel
theorem dX4_nextToGo_15 : decode cX4_nextToGo 15 = .ok (.aload_n 0, 1) := by decide +kernel
theorem dX4_nextToGo_16 : decode cX4_nextToGo 16 = .ok (.iload_n 2, 1) := by decide +kernel
theorem dX4_nextToGo_17 : decode cX4_nextToGo 17 = .ok (.invokevirtual 148, 3) := by decide +kernel
theorem dX4_nextToGo_20 : decode cX4_nextToGo 20 = .ok (.ifCond .ne 5, 3) := by decide +kernel
theorem dX4_nextToGo_23 : decode cX4_nextToGo 23 = .ok (.iload_n 2, 1) := by decide +kernel
theorem dX4_nextToGo_24 : decode cX4_nextToGo 24 = .ok (.ireturn, 1) := by decide +kernel
theorem dX4_nextToGo_25 : decode cX4_nextToGo 25 = .ok (.aload_n 0, 1) := by decide +kernel
theorem dX4_nextToGo_26 : decode cX4_nextToGo 26 = .ok (.iload_n 1, 1) := by decide +kernel
theorem dX4_nextToGo_27 : decode cX4_nextToGo 27 = .ok (.invokevirtual 236, 3) := by decide +kernel
theorem dX4_nextToGo_30 : decode cX4_nextToGo 30 = .ok (.ireturn, 1) := by decide +kernel
theorem dX4_firstSmallFree_0 : decode cX4_firstSmallFree 0 = .ok (.iconst 0, 1) := by decide +kernel
theorem dX4_firstSmallFree_1 : decode cX4_firstSmallFree 1 = .ok (.istore_n 2, 1) := by decide +kernel
theorem dX4_firstSmallFree_2 : decode cX4_firstSmallFree 2 = .ok (.iload_n 2, 1) := by decide +kernel
theorem dX4_firstSmallFree_3 : decode cX4_firstSmallFree 3 = .ok (.aload_n 0, 1) := by decide +kernel
theorem dX4_firstSmallFree_4 : decode cX4_firstSmallFree 4 = .ok (.getfield 29, 3) := by decide +kernel
theorem dX4_firstSmallFree_7 : decode cX4_firstSmallFree 7 = .ok (.getfield 113, 3) := by decide +kernel
theorem dX4_firstSmallFree_10 : decode cX4_firstSmallFree 10 = .ok (.if_icmp .ge 57, 3) := by decide +kernel
theorem dX4_firstSmallFree_13 : decode cX4_firstSmallFree 13 = .ok (.aload_n 0, 1) := by decide +kernel
theorem dX4_firstSmallFree_14 : decode cX4_firstSmallFree 14 = .ok (.getfield 29, 3) := by decide +kernel
theorem dX4_firstSmallFree_17 : decode cX4_firstSmallFree 17 = .ok (.getfield 239, 3) := by decide +kernel
theorem dX4_firstSmallFree_20 : decode cX4_firstSmallFree 20 = .ok (.iload_n 2, 1) := by decide +kernel
theorem dX4_firstSmallFree_21 : decode cX4_firstSmallFree 21 = .ok (.iaload, 1) := by decide +kernel
theorem dX4_firstSmallFree_22 : decode cX4_firstSmallFree 22 = .ok (.istore_n 3, 1) := by decide +kernel
theorem dX4_firstSmallFree_23 : decode cX4_firstSmallFree 23 = .ok (.aload_n 0, 1) := by decide +kernel
theorem dX4_firstSmallFree_24 : decode cX4_firstSmallFree 24 = .ok (.getfield 29, 3) := by decide +kernel
theorem dX4_firstSmallFree_27 : decode cX4_firstSmallFree 27 = .ok (.iload_n 3, 1) := by decide +kernel
theorem dX4_firstSmallFree_28 : decode cX4_firstSmallFree 28 = .ok (.iload_n 1, 1) := by decide +kernel
theorem dX4_firstSmallFree_29 : decode cX4_firstSmallFree 29 = .ok (.invokevirtual 242, 3) := by decide +kernel
theorem dX4_firstSmallFree_32 : decode cX4_firstSmallFree 32 = .ok (.ifCond .eq 29, 3) := by decide +kernel
theorem dX4_firstSmallFree_35 : decode cX4_firstSmallFree 35 = .ok (.aload_n 0, 1) := by decide +kernel
theorem dX4_firstSmallFree_36 : decode cX4_firstSmallFree 36 = .ok (.getfield 29, 3) := by decide +kernel
theorem dX4_firstSmallFree_39 : decode cX4_firstSmallFree 39 = .ok (.getfield 220, 3) := by decide +kernel
theorem dX4_firstSmallFree_42 : decode cX4_firstSmallFree 42 = .ok (.iload_n 3, 1) := by decide +kernel
theorem dX4_firstSmallFree_43 : decode cX4_firstSmallFree 43 = .ok (.iaload, 1) := by decide +kernel
theorem dX4_firstSmallFree_44 : decode cX4_firstSmallFree 44 = .ok (.aload_n 0, 1) := by decide +kernel
theorem dX4_firstSmallFree_45 : decode cX4_firstSmallFree 45 = .ok (.getfield 51, 3) := by decide +kernel
theorem dX4_firstSmallFree_48 : decode cX4_firstSmallFree 48 = .ok (.if_icmp .gt 13, 3) := by decide +kernel
theorem dX4_firstSmallFree_51 : decode cX4_firstSmallFree 51 = .ok (.aload_n 0, 1) := by decide +kernel
theorem dX4_firstSmallFree_52 : decode cX4_firstSmallFree 52 = .ok (.iload_n 3, 1) := by decide +kernel
theorem dX4_firstSmallFree_53 : decode cX4_firstSmallFree 53 = .ok (.invokevirtual 148, 3) := by decide +kernel
theorem dX4_firstSmallFree_56 : decode cX4_firstSmallFree 56 = .ok (.ifCond .ne 5, 3) := by decide +kernel
theorem dX4_firstSmallFree_59 : decode cX4_firstSmallFree 59 = .ok (.iload_n 3, 1) := by decide +kernel
theorem dX4_firstSmallFree_60 : decode cX4_firstSmallFree 60 = .ok (.ireturn, 1) := by decide +kernel
theorem dX4_firstSmallFree_61 : decode cX4_firstSmallFree 61 = .ok (.iinc 2 1, 3) := by decide +kernel
theorem dX4_firstSmallFree_64 : decode cX4_firstSmallFree 64 = .ok (.goto (-62), 3) := by decide +kernel
theorem dX4_firstSmallFree_67 : decode cX4_firstSmallFree 67 = .ok (.iconst (-1), 1) := by decide +kernel
theorem dX4_firstSmallFree_68 : decode cX4_firstSmallFree 68 = .ok (.ireturn, 1) := by decide +kernel
theorem dX4_sendLargestSet_0 : decode cX4_sendLargestSet 0 = .ok (.iconst 0, 1) := by decide +kernel
theorem dX4_sendLargestSet_1 : decode cX4_sendLargestSet 1 = .ok (.istore_n 1, 1) := by decide +kernel
theorem dX4_sendLargestSet_2 : decode cX4_sendLargestSet 2 = .ok (.iload_n 1, 1) := by decide +kernel
theorem dX4_sendLargestSet_3 : decode cX4_sendLargestSet 3 = .ok (.iconst 5, 1) := by decide +kernel
theorem dX4_sendLargestSet_4 : decode cX4_sendLargestSet 4 = .ok (.if_icmp .ge 24, 3) := by decide +kernel
theorem dX4_sendLargestSet_7 : decode cX4_sendLargestSet 7 = .ok (.aload_n 0, 1) := by decide +kernel
theorem dX4_sendLargestSet_8 : decode cX4_sendLargestSet 8 = .ok (.getfield 48, 3) := by decide +kernel
theorem dX4_sendLargestSet_11 : decode cX4_sendLargestSet 11 = .ok (.iload_n 1, 1) := by decide +kernel
theorem dX4_sendLargestSet_12 : decode cX4_sendLargestSet 12 = .ok (.aload_n 0, 1) := by decide +kernel
theorem dX4_sendLargestSet_13 : decode cX4_sendLargestSet 13 = .ok (.getfield 29, 3) := by decide +kernel
theorem dX4_sendLargestSet_16 : decode cX4_sendLargestSet 16 = .ok (.iload_n 1, 1) := by decide +kernel
theorem dX4_sendLargestSet_17 : decode cX4_sendLargestSet 17 = .ok (.iconst 0, 1) := by decide +kernel
theorem dX4_sendLargestSet_18 : decode cX4_sendLargestSet 18 = .ok (.invokevirtual 145, 3) := by decide +kernel
theorem dX4_sendLargestSet_21 : decode cX4_sendLargestSet 21 = .ok (.iastore, 1) := by decide +kernel
theorem dX4_sendLargestSet_22 : decode cX4_sendLargestSet 22 = .ok (.iinc 1 1, 3) := by decide +kernel
theorem dX4_sendLargestSet_25 : decode cX4_sendLargestSet 25 = .ok (.goto (-23), 3) := by decide +kernel
theorem dX4_sendLargestSet_28 : decode cX4_sendLargestSet 28 = .ok (.iconst 0, 1) := by decide +kernel
theorem dX4_sendLargestSet_29 : decode cX4_sendLargestSet 29 = .ok (.istore_n 1, 1) := by decide +kernel
theorem dX4_sendLargestSet_30 : decode cX4_sendLargestSet 30 = .ok (.iconst 1, 1) := by decide +kernel
theorem dX4_sendLargestSet_31 : decode cX4_sendLargestSet 31 = .ok (.istore_n 2, 1) := by decide +kernel
theorem dX4_sendLargestSet_32 : decode cX4_sendLargestSet 32 = .ok (.iload_n 2, 1) := by decide +kernel
theorem dX4_sendLargestSet_33 : decode cX4_sendLargestSet 33 = .ok (.bipush 32, 2) := by decide +kernel
theorem dX4_sendLargestSet_35 : decode cX4_sendLargestSet 35 = .ok (.if_icmp .ge 31, 3) := by decide +kernel
theorem dX4_sendLargestSet_38 : decode cX4_sendLargestSet 38 = .ok (.iload_n 2, 1) := by decide +kernel
theorem dX4_sendLargestSet_39 : decode cX4_sendLargestSet 39 = .ok (.invokestatic 245, 3) := by decide +kernel
theorem dX4_sendLargestSet_42 : decode cX4_sendLargestSet 42 = .ok (.iload_n 1, 1) := by decide +kernel
theorem dX4_sendLargestSet_43 : decode cX4_sendLargestSet 43 = .ok (.invokestatic 245, 3) := by decide +kernel
theorem dX4_sendLargestSet_46 : decode cX4_sendLargestSet 46 = .ok (.if_icmp .le 14, 3) := by decide +kernel
theorem dX4_sendLargestSet_49 : decode cX4_sendLargestSet 49 = .ok (.aload_n 0, 1) := by decide +kernel
theorem dX4_sendLargestSet_50 : decode cX4_sendLargestSet 50 = .ok (.iload_n 2, 1) := by decide +kernel
theorem dX4_sendLargestSet_51 : decode cX4_sendLargestSet 51 = .ok (.iconst 5, 1) := by decide +kernel
theorem dX4_sendLargestSet_52 : decode cX4_sendLargestSet 52 = .ok (.invokevirtual 157, 3) := by decide +kernel
theorem dX4_sendLargestSet_55 : decode cX4_sendLargestSet 55 = .ok (.ifCond .eq 5, 3) := by decide +kernel
theorem dX4_sendLargestSet_58 : decode cX4_sendLargestSet 58 = .ok (.iload_n 2, 1) := by decide +kernel
theorem dX4_sendLargestSet_59 : decode cX4_sendLargestSet 59 = .ok (.istore_n 1, 1) := by decide +kernel
theorem dX4_sendLargestSet_60 : decode cX4_sendLargestSet 60 = .ok (.iinc 2 1, 3) := by decide +kernel
theorem dX4_sendLargestSet_63 : decode cX4_sendLargestSet 63 = .ok (.goto (-31), 3) := by decide +kernel
theorem dX4_sendLargestSet_66 : decode cX4_sendLargestSet 66 = .ok (.iconst 0, 1) := by decide +kernel
theorem dX4_sendLargestSet_67 : decode cX4_sendLargestSet 67 = .ok (.istore_n 2, 1) := by decide +kernel
theorem dX4_sendLargestSet_68 : decode cX4_sendLargestSet 68 = .ok (.iload_n 2, 1) := by decide +kernel
theorem dX4_sendLargestSet_69 : decode cX4_sendLargestSet 69 = .ok (.iconst 5, 1) := by decide +kernel
theorem dX4_sendLargestSet_70 : decode cX4_sendLargestSet 70 = .ok (.if_icmp .ge 27, 3) := by decide +kernel
theorem dX4_sendLargestSet_73 : decode cX4_sendLargestSet 73 = .ok (.iload_n 1, 1) := by decide +kernel
theorem dX4_sendLargestSet_74 : decode cX4_sendLargestSet 74 = .ok (.iload_n 2, 1) := by decide +kernel
theorem dX4_sendLargestSet_75 : decode cX4_sendLargestSet 75 = .ok (.invokestatic 250, 3) := by decide +kernel
theorem dX4_sendLargestSet_78 : decode cX4_sendLargestSet 78 = .ok (.ifCond .eq 13, 3) := by decide +kernel
theorem dX4_sendLargestSet_81 : decode cX4_sendLargestSet 81 = .ok (.aload_n 0, 1) := by decide +kernel
theorem dX4_sendLargestSet_82 : decode cX4_sendLargestSet 82 = .ok (.aload_n 0, 1) := by decide +kernel
theorem dX4_sendLargestSet_83 : decode cX4_sendLargestSet 83 = .ok (.getfield 48, 3) := by decide +kernel
theorem dX4_sendLargestSet_86 : decode cX4_sendLargestSet 86 = .ok (.iload_n 2, 1) := by decide +kernel
theorem dX4_sendLargestSet_87 : decode cX4_sendLargestSet 87 = .ok (.iaload, 1) := by decide +kernel
theorem dX4_sendLargestSet_88 : decode cX4_sendLargestSet 88 = .ok (.invokevirtual 233, 3) := by decide +kernel
theorem dX4_sendLargestSet_91 : decode cX4_sendLargestSet 91 = .ok (.iinc 2 1, 3) := by decide +kernel
theorem dX4_sendLargestSet_94 : decode cX4_sendLargestSet 94 = .ok (.goto (-26), 3) := by decide +kernel
theorem dX4_sendLargestSet_97 : decode cX4_sendLargestSet 97 = .ok (.iload_n 1, 1) := by decide +kernel
theorem dX4_sendLargestSet_98 : decode cX4_sendLargestSet 98 = .ok (.invokestatic 245, 3) := by decide +kernel
theorem dX4_sendLargestSet_101 : decode cX4_sendLargestSet 101 = .ok (.ireturn, 1) := by decide +kernel
theorem dX4_listWaiting_0 : decode cX4_listWaiting 0 = .ok (.iconst 0, 1) := by decide +kernel
theorem dX4_listWaiting_1 : decode cX4_listWaiting 1 = .ok (.istore_n 1, 1) := by decide +kernel
theorem dX4_listWaiting_2 : decode cX4_listWaiting 2 = .ok (.iconst 0, 1) := by decide +kernel
theorem dX4_listWaiting_3 : decode cX4_listWaiting 3 = .ok (.istore_n 2, 1) := by decide +kernel
theorem dX4_listWaiting_4 : decode cX4_listWaiting 4 = .ok (.iload_n 2, 1) := by decide +kernel
theorem dX4_listWaiting_5 : decode cX4_listWaiting 5 = .ok (.aload_n 0, 1) := by decide +kernel
theorem dX4_listWaiting_6 : decode cX4_listWaiting 6 = .ok (.getfield 29, 3) := by decide +kernel
theorem dX4_listWaiting_9 : decode cX4_listWaiting 9 = .ok (.getfield 113, 3) := by decide +kernel
theorem dX4_listWaiting_12 : decode cX4_listWaiting 12 = .ok (.if_icmp .ge 37, 3) := by decide +kernel
theorem dX4_listWaiting_15 : decode cX4_listWaiting 15 = .ok (.iload_n 1, 1) := by decide +kernel
theorem dX4_listWaiting_16 : decode cX4_listWaiting 16 = .ok (.bipush 10, 2) := by decide +kernel
theorem dX4_listWaiting_18 : decode cX4_listWaiting 18 = .ok (.if_icmp .ge 31, 3) := by decide +kernel
theorem dX4_listWaiting_21 : decode cX4_listWaiting 21 = .ok (.aload_n 0, 1) := by decide +kernel
theorem dX4_listWaiting_22 : decode cX4_listWaiting 22 = .ok (.getfield 29, 3) := by decide +kernel
theorem dX4_listWaiting_25 : decode cX4_listWaiting 25 = .ok (.getfield 125, 3) := by decide +kernel
theorem dX4_listWaiting_28 : decode cX4_listWaiting 28 = .ok (.iload_n 2, 1) := by decide +kernel
theorem dX4_listWaiting_29 : decode cX4_listWaiting 29 = .ok (.baload, 1) := by decide +kernel
theorem dX4_listWaiting_30 : decode cX4_listWaiting 30 = .ok (.ifCond .eq 13, 3) := by decide +kernel
theorem dX4_listWaiting_33 : decode cX4_listWaiting 33 = .ok (.aload_n 0, 1) := by decide +kernel
theorem dX4_listWaiting_34 : decode cX4_listWaiting 34 = .ok (.getfield 48, 3) := by decide +kernel
theorem dX4_listWaiting_37 : decode cX4_listWaiting 37 = .ok (.iload_n 1, 1) := by decide +kernel
theorem dX4_listWaiting_38 : decode cX4_listWaiting 38 = .ok (.iload_n 2, 1) := by decide +kernel
theorem dX4_listWaiting_39 : decode cX4_listWaiting 39 = .ok (.iastore, 1) := by decide +kernel
theorem dX4_listWaiting_40 : decode cX4_listWaiting 40 = .ok (.iinc 1 1, 3) := by decide +kernel
theorem dX4_listWaiting_43 : decode cX4_listWaiting 43 = .ok (.iinc 2 1, 3) := by decide +kernel
theorem dX4_listWaiting_46 : decode cX4_listWaiting 46 = .ok (.goto (-42), 3) := by decide +kernel
theorem dX4_listWaiting_49 : decode cX4_listWaiting 49 = .ok (.iload_n 1, 1) := by decide +kernel
theorem dX4_listWaiting_50 : decode cX4_listWaiting 50 = .ok (.ireturn, 1) := by decide +kernel
theorem dX4_canGoTogether_0 : decode cX4_canGoTogether 0 = .ok (.aload_n 0, 1) := by decide +kernel
theorem dX4_canGoTogether_1 : decode cX4_canGoTogether 1 = .ok (.getfield 16, 3) := by decide +kernel
theorem dX4_canGoTogether_4 : decode cX4_canGoTogether 4 = .ok (.aload_n 0, 1) := by decide +kernel
theorem dX4_canGoTogether_5 : decode cX4_canGoTogether 5 = .ok (.getfield 10, 3) := by decide +kernel
theorem dX4_canGoTogether_8 : decode cX4_canGoTogether 8 = .ok (.invokevirtual 253, 3) := by decide +kernel
theorem dX4_canGoTogether_11 : decode cX4_canGoTogether 11 = .ok (.iconst 0, 1) := by decide +kernel
theorem dX4_canGoTogether_12 : decode cX4_canGoTogether 12 = .ok (.istore_n 3, 1) := by decide +kernel
theorem dX4_canGoTogether_13 : decode cX4_canGoTogether 13 = .ok (.iload_n 3, 1) := by decide +kernel
theorem dX4_canGoTogether_14 : decode cX4_canGoTogether 14 = .ok (.iload_n 2, 1) := by decide +kernel
theorem dX4_canGoTogether_15 : decode cX4_canGoTogether 15 = .ok (.if_icmp .ge 46, 3) := by decide +kernel
theorem dX4_canGoTogether_18 : decode cX4_canGoTogether 18 = .ok (.iload_n 1, 1) := by decide +kernel
theorem dX4_canGoTogether_19 : decode cX4_canGoTogether 19 = .ok (.iload_n 3, 1) := by decide +kernel
theorem dX4_canGoTogether_20 : decode cX4_canGoTogether 20 = .ok (.invokestatic 250, 3) := by decide +kernel
theorem dX4_canGoTogether_23 : decode cX4_canGoTogether 23 = .ok (.ifCond .eq 32, 3) := by decide +kernel
theorem dX4_canGoTogether_26 : decode cX4_canGoTogether 26 = .ok (.aload_n 0, 1) := by decide +kernel
theorem dX4_canGoTogether_27 : decode cX4_canGoTogether 27 = .ok (.getfield 48, 3) := by decide +kernel
theorem dX4_canGoTogether_30 : decode cX4_canGoTogether 30 = .ok (.iload_n 3, 1) := by decide +kernel
theorem dX4_canGoTogether_31 : decode cX4_canGoTogether 31 = .ok (.iaload, 1) := by decide +kernel
theorem dX4_canGoTogether_32 : decode cX4_canGoTogether 32 = .ok (.iconst (-1), 1) := by decide +kernel
theorem dX4_canGoTogether_33 : decode cX4_canGoTogether 33 = .ok (.if_icmp .ne 5, 3) := by decide +kernel
theorem dX4_canGoTogether_36 : decode cX4_canGoTogether 36 = .ok (.iconst 0, 1) := by decide +kernel
theorem dX4_canGoTogether_37 : decode cX4_canGoTogether 37 = .ok (.ireturn, 1) := by decide +kernel
theorem dX4_canGoTogether_38 : decode cX4_canGoTogether 38 = .ok (.aload_n 0, 1) := by decide +kernel
theorem dX4_canGoTogether_39 : decode cX4_canGoTogether 39 = .ok (.getfield 29, 3) := by decide +kernel
theorem dX4_canGoTogether_42 : decode cX4_canGoTogether 42 = .ok (.aload_n 0, 1) := by decide +kernel
theorem dX4_canGoTogether_43 : decode cX4_canGoTogether 43 = .ok (.getfield 48, 3) := by decide +kernel
theorem dX4_canGoTogether_46 : decode cX4_canGoTogether 46 = .ok (.iload_n 3, 1) := by decide +kernel
theorem dX4_canGoTogether_47 : decode cX4_canGoTogether 47 = .ok (.iaload, 1) := by decide +kernel
theorem dX4_canGoTogether_48 : decode cX4_canGoTogether 48 = .ok (.aload_n 0, 1) := by decide +kernel
theorem dX4_canGoTogether_49 : decode cX4_canGoTogether 49 = .ok (.getfield 16, 3) := by decide +kernel
theorem dX4_canGoTogether_52 : decode cX4_canGoTogether 52 = .ok (.invokevirtual 226, 3) := by decide +kernel
theorem dX4_canGoTogether_55 : decode cX4_canGoTogether 55 = .ok (.iinc 3 1, 3) := by decide +kernel
theorem dX4_canGoTogether_58 : decode cX4_canGoTogether 58 = .ok (.goto (-45), 3) := by decide +kernel
theorem dX4_canGoTogether_61 : decode cX4_canGoTogether 61 = .ok (.aload_n 0, 1) := by decide +kernel
theorem dX4_canGoTogether_62 : decode cX4_canGoTogether 62 = .ok (.getfield 22, 3) := by decide +kernel
theorem dX4_canGoTogether_65 : decode cX4_canGoTogether 65 = .ok (.aload_n 0, 1) := by decide +kernel
theorem dX4_canGoTogether_66 : decode cX4_canGoTogether 66 = .ok (.getfield 16, 3) := by decide +kernel
theorem dX4_canGoTogether_69 : decode cX4_canGoTogether 69 = .ok (.invokevirtual 257, 3) := by decide +kernel
theorem dX4_canGoTogether_72 : decode cX4_canGoTogether 72 = .ok (.ireturn, 1) := by decide +kernel
theorem dX4_isIn_0 : decode cX4_isIn 0 = .ok (.iload_n 0, 1) := by decide +kernel
theorem dX4_isIn_1 : decode cX4_isIn 1 = .ok (.iconst 1, 1) := by decide +kernel
theorem dX4_isIn_2 : decode cX4_isIn 2 = .ok (.iload_n 1, 1) := by decide +kernel
theorem dX4_isIn_3 : decode cX4_isIn 3 = .ok (.ishl, 1) := by decide +kernel
theorem dX4_isIn_4 : decode cX4_isIn 4 = .ok (.iand, 1) := by decide +kernel
theorem dX4_isIn_5 : decode cX4_isIn 5 = .ok (.ifCond .eq 7, 3) := by decide +kernel
theorem dX4_isIn_8 : decode cX4_isIn 8 = .ok (.iconst 1, 1) := by decide +kernel
theorem dX4_isIn_9 : decode cX4_isIn 9 = .ok (.goto 4, 3) := by decide +kernel
theorem dX4_isIn_12 : decode cX4_isIn 12 = .ok (.iconst 0, 1) := by decide +kernel
theorem dX4_isIn_13 : decode cX4_isIn 13 = .ok (.ireturn, 1) := by decide +kernel
theorem dX4_pledgeWorth_0 : decode cX4_pledgeWorth 0 = .ok (.iload_n 1, 1) := by decide +kernel
theorem dX4_pledgeWorth_1 : decode cX4_pledgeWorth 1 = .ok (.aload_n 0, 1) := by decide +kernel
theorem dX4_pledgeWorth_2 : decode cX4_pledgeWorth 2 = .ok (.getfield 55, 3) := by decide +kernel
theorem dX4_pledgeWorth_5 : decode cX4_pledgeWorth 5 = .ok (.imul, 1) := by decide +kernel
theorem dX4_pledgeWorth_6 : decode cX4_pledgeWorth 6 = .ok (.sipush 1000, 3) := by decide +kernel
theorem dX4_pledgeWorth_9 : decode cX4_pledgeWorth 9 = .ok (.aload_n 0, 1) := by decide +kernel
theorem dX4_pledgeWorth_10 : decode cX4_pledgeWorth 10 = .ok (.getfield 58, 3) := by decide +kernel
theorem dX4_pledgeWorth_13 : decode cX4_pledgeWorth 13 = .ok (.isub, 1) := by decide +kernel
theorem dX4_pledgeWorth_14 : decode cX4_pledgeWorth 14 = .ok (.imul, 1) := by decide +kernel
theorem dX4_pledgeWorth_15 : decode cX4_pledgeWorth 15 = .ok (.sipush 1000, 3) := by decide +kernel
theorem dX4_pledgeWorth_18 : decode cX4_pledgeWorth 18 = .ok (.idiv, 1) := by decide +kernel
theorem dX4_pledgeWorth_19 : decode cX4_pledgeWorth 19 = .ok (.ireturn, 1) := by decide +kernel
theorem dX4_canRepay_0 : decode cX4_canRepay 0 = .ok (.aload_n 0, 1) := by decide +kernel
theorem dX4_canRepay_1 : decode cX4_canRepay 1 = .ok (.getfield 36, 3) := by decide +kernel
theorem dX4_canRepay_4 : decode cX4_canRepay 4 = .ok (.getfield 183, 3) := by decide +kernel
theorem dX4_canRepay_7 : decode cX4_canRepay 7 = .ok (.iload_n 1, 1) := by decide +kernel
theorem dX4_canRepay_8 : decode cX4_canRepay 8 = .ok (.iaload, 1) := by decide +kernel
theorem dX4_canRepay_9 : decode cX4_canRepay 9 = .ok (.istore_n 2, 1) := by decide +kernel
theorem dX4_canRepay_10 : decode cX4_canRepay 10 = .ok (.aload_n 0, 1) := by decide +kernel
theorem dX4_canRepay_11 : decode cX4_canRepay 11 = .ok (.getfield 40, 3) := by decide +kernel
theorem dX4_canRepay_14 : decode cX4_canRepay 14 = .ok (.iload_n 2, 1) := by decide +kernel
theorem dX4_canRepay_15 : decode cX4_canRepay 15 = .ok (.baload, 1) := by decide +kernel
theorem dX4_canRepay_16 : decode cX4_canRepay 16 = .ok (.ifCond .ne 38, 3) := by decide +kernel
theorem dX4_canRepay_19 : decode cX4_canRepay 19 = .ok (.aload_n 0, 1) := by decide +kernel
theorem dX4_canRepay_20 : decode cX4_canRepay 20 = .ok (.getfield 10, 3) := by decide +kernel
theorem dX4_canRepay_23 : decode cX4_canRepay 23 = .ok (.getfield 73, 3) := by decide +kernel
theorem dX4_canRepay_26 : decode cX4_canRepay 26 = .ok (.iload_n 2, 1) := by decide +kernel
theorem dX4_canRepay_27 : decode cX4_canRepay 27 = .ok (.iaload, 1) := by decide +kernel
theorem dX4_canRepay_28 : decode cX4_canRepay 28 = .ok (.aload_n 0, 1) := by decide +kernel
theorem dX4_canRepay_29 : decode cX4_canRepay 29 = .ok (.getfield 36, 3) := by decide +kernel
theorem dX4_canRepay_32 : decode cX4_canRepay 32 = .ok (.getfield 261, 3) := by decide +kernel
theorem dX4_canRepay_35 : decode cX4_canRepay 35 = .ok (.iload_n 1, 1) := by decide +kernel
theorem dX4_canRepay_36 : decode cX4_canRepay 36 = .ok (.iaload, 1) := by decide +kernel
theorem dX4_canRepay_37 : decode cX4_canRepay 37 = .ok (.isub, 1) := by decide +kernel
theorem dX4_canRepay_38 : decode cX4_canRepay 38 = .ok (.aload_n 0, 1) := by decide +kernel
theorem dX4_canRepay_39 : decode cX4_canRepay 39 = .ok (.getfield 22, 3) := by decide +kernel
theorem dX4_canRepay_42 : decode cX4_canRepay 42 = .ok (.getfield 91, 3) := by decide +kernel
theorem dX4_canRepay_45 : decode cX4_canRepay 45 = .ok (.iload_n 2, 1) := by decide +kernel
theorem dX4_canRepay_46 : decode cX4_canRepay 46 = .ok (.iaload, 1) := by decide +kernel
theorem dX4_canRepay_47 : decode cX4_canRepay 47 = .ok (.if_icmp .lt 7, 3) := by decide +kernel
theorem dX4_canRepay_50 : decode cX4_canRepay 50 = .ok (.iconst 1, 1) := by decide +kernel
theorem dX4_canRepay_51 : decode cX4_canRepay 51 = .ok (.goto 4, 3) := by decide +kernel
theorem dX4_canRepay_54 : decode cX4_canRepay 54 = .ok (.iconst 0, 1) := by decide +kernel
theorem dX4_canRepay_55 : decode cX4_canRepay 55 = .ok (.ireturn, 1) := by decide +kernel
theorem dX4_repay_0 : decode cX4_repay 0 = .ok (.aload_n 0, 1) := by decide +kernel
theorem dX4_repay_1 : decode cX4_repay 1 = .ok (.getfield 36, 3) := by decide +kernel
theorem dX4_repay_4 : decode cX4_repay 4 = .ok (.getfield 183, 3) := by decide +kernel
theorem dX4_repay_7 : decode cX4_repay 7 = .ok (.iload_n 1, 1) := by decide +kernel
theorem dX4_repay_8 : decode cX4_repay 8 = .ok (.iaload, 1) := by decide +kernel
theorem dX4_repay_9 : decode cX4_repay 9 = .ok (.istore_n 2, 1) := by decide +kernel
theorem dX4_repay_10 : decode cX4_repay 10 = .ok (.aload_n 0, 1) := by decide +kernel
theorem dX4_repay_11 : decode cX4_repay 11 = .ok (.getfield 10, 3) := by decide +kernel
theorem dX4_repay_14 : decode cX4_repay 14 = .ok (.iload_n 2, 1) := by decide +kernel
theorem dX4_repay_15 : decode cX4_repay 15 = .ok (.aload_n 0, 1) := by decide +kernel
theorem dX4_repay_16 : decode cX4_repay 16 = .ok (.getfield 36, 3) := by decide +kernel
theorem dX4_repay_19 : decode cX4_repay 19 = .ok (.getfield 264, 3) := by decide +kernel
theorem dX4_repay_22 : decode cX4_repay 22 = .ok (.iload_n 1, 1) := by decide +kernel
theorem dX4_repay_23 : decode cX4_repay 23 = .ok (.iaload, 1) := by decide +kernel
theorem dX4_repay_24 : decode cX4_repay 24 = .ok (.aload_n 0, 1) := by decide +kernel
theorem dX4_repay_25 : decode cX4_repay 25 = .ok (.getfield 36, 3) := by decide +kernel
theorem dX4_repay_28 : decode cX4_repay 28 = .ok (.getfield 261, 3) := by decide +kernel
theorem dX4_repay_31 : decode cX4_repay 31 = .ok (.iload_n 1, 1) := by decide +kernel
theorem dX4_repay_32 : decode cX4_repay 32 = .ok (.iaload, 1) := by decide +kernel
theorem dX4_repay_33 : decode cX4_repay 33 = .ok (.invokevirtual 165, 3) := by decide +kernel
theorem dX4_repay_36 : decode cX4_repay 36 = .ok (.aload_n 0, 1) := by decide +kernel
theorem dX4_repay_37 : decode cX4_repay 37 = .ok (.getfield 44, 3) := by decide +kernel
theorem dX4_repay_40 : decode cX4_repay 40 = .ok (.iload_n 2, 1) := by decide +kernel
theorem dX4_repay_41 : decode cX4_repay 41 = .ok (.dup2, 1) := by decide +kernel
theorem dX4_repay_42 : decode cX4_repay 42 = .ok (.iaload, 1) := by decide +kernel
theorem dX4_repay_43 : decode cX4_repay 43 = .ok (.aload_n 0, 1) := by decide +kernel
theorem dX4_repay_44 : decode cX4_repay 44 = .ok (.getfield 36, 3) := by decide +kernel
theorem dX4_repay_47 : decode cX4_repay 47 = .ok (.getfield 267, 3) := by decide +kernel
theorem dX4_repay_50 : decode cX4_repay 50 = .ok (.iload_n 1, 1) := by decide +kernel
theorem dX4_repay_51 : decode cX4_repay 51 = .ok (.iaload, 1) := by decide +kernel
theorem dX4_repay_52 : decode cX4_repay 52 = .ok (.iadd, 1) := by decide +kernel
theorem dX4_repay_53 : decode cX4_repay 53 = .ok (.iastore, 1) := by decide +kernel
theorem dX4_repay_54 : decode cX4_repay 54 = .ok (.return_, 1) := by decide +kernel
theorem dX4_close_0 : decode cX4_close 0 = .ok (.aload_n 0, 1) := by decide +kernel
theorem dX4_close_1 : decode cX4_close 1 = .ok (.getfield 40, 3) := by decide +kernel
theorem dX4_close_4 : decode cX4_close 4 = .ok (.iload_n 1, 1) := by decide +kernel
theorem dX4_close_5 : decode cX4_close 5 = .ok (.baload, 1) := by decide +kernel
theorem dX4_close_6 : decode cX4_close 6 = .ok (.ifCond .eq 5, 3) := by decide +kernel
theorem dX4_close_9 : decode cX4_close 9 = .ok (.iconst 0, 1) := by decide +kernel
theorem dX4_close_10 : decode cX4_close 10 = .ok (.ireturn, 1) := by decide +kernel
theorem dX4_close_11 : decode cX4_close 11 = .ok (.aload_n 0, 1) := by decide +kernel
theorem dX4_close_12 : decode cX4_close 12 = .ok (.getfield 40, 3) := by decide +kernel
theorem dX4_close_15 : decode cX4_close 15 = .ok (.iload_n 1, 1) := by decide +kernel
theorem dX4_close_16 : decode cX4_close 16 = .ok (.iconst 1, 1) := by decide +kernel
theorem dX4_close_17 : decode cX4_close 17 = .ok (.bastore, 1) := by decide +kernel
theorem dX4_close_18 : decode cX4_close 18 = .ok (.aload_n 0, 1) := by decide +kernel
theorem dX4_close_19 : decode cX4_close 19 = .ok (.getfield 29, 3) := by decide +kernel
theorem dX4_close_22 : decode cX4_close 22 = .ok (.iload_n 1, 1) := by decide +kernel
theorem dX4_close_23 : decode cX4_close 23 = .ok (.invokevirtual 270, 3) := by decide +kernel
theorem dX4_close_26 : decode cX4_close 26 = .ok (.iconst 1, 1) := by decide +kernel
theorem dX4_close_27 : decode cX4_close 27 = .ok (.ireturn, 1) := by decide +kernel
theorem dX4_sellPledge_0 : decode cX4_sellPledge 0 = .ok (.aload_n 0, 1) := by decide +kernel
theorem dX4_sellPledge_1 : decode cX4_sellPledge 1 = .ok (.getfield 36, 3) := by decide +kernel
theorem dX4_sellPledge_4 : decode cX4_sellPledge 4 = .ok (.getfield 267, 3) := by decide +kernel
theorem dX4_sellPledge_7 : decode cX4_sellPledge 7 = .ok (.iload_n 1, 1) := by decide +kernel
theorem dX4_sellPledge_8 : decode cX4_sellPledge 8 = .ok (.iaload, 1) := by decide +kernel
theorem dX4_sellPledge_9 : decode cX4_sellPledge 9 = .ok (.aload_n 0, 1) := by decide +kernel
theorem dX4_sellPledge_10 : decode cX4_sellPledge 10 = .ok (.getfield 55, 3) := by decide +kernel
theorem dX4_sellPledge_13 : decode cX4_sellPledge 13 = .ok (.imul, 1) := by decide +kernel
theorem dX4_sellPledge_14 : decode cX4_sellPledge 14 = .ok (.istore_n 2, 1) := by decide +kernel
theorem dX4_sellPledge_15 : decode cX4_sellPledge 15 = .ok (.iload_n 2, 1) := by decide +kernel
theorem dX4_sellPledge_16 : decode cX4_sellPledge 16 = .ok (.aload_n 0, 1) := by decide +kernel
theorem dX4_sellPledge_17 : decode cX4_sellPledge 17 = .ok (.getfield 36, 3) := by decide +kernel
theorem dX4_sellPledge_20 : decode cX4_sellPledge 20 = .ok (.getfield 261, 3) := by decide +kernel
theorem dX4_sellPledge_23 : decode cX4_sellPledge 23 = .ok (.iload_n 1, 1) := by decide +kernel
theorem dX4_sellPledge_24 : decode cX4_sellPledge 24 = .ok (.iaload, 1) := by decide +kernel
theorem dX4_sellPledge_25 : decode cX4_sellPledge 25 = .ok (.invokestatic 85, 3) := by decide +kernel
theorem dX4_sellPledge_28 : decode cX4_sellPledge 28 = .ok (.istore_n 3, 1) := by decide +kernel
theorem dX4_sellPledge_29 : decode cX4_sellPledge 29 = .ok (.aload_n 0, 1) := by decide +kernel
theorem dX4_sellPledge_30 : decode cX4_sellPledge 30 = .ok (.getfield 10, 3) := by decide +kernel
theorem dX4_sellPledge_33 : decode cX4_sellPledge 33 = .ok (.getfield 73, 3) := by decide +kernel
theorem dX4_sellPledge_36 : decode cX4_sellPledge 36 = .ok (.aload_n 0, 1) := by decide +kernel
theorem dX4_sellPledge_37 : decode cX4_sellPledge 37 = .ok (.getfield 36, 3) := by decide +kernel
theorem dX4_sellPledge_40 : decode cX4_sellPledge 40 = .ok (.getfield 264, 3) := by decide +kernel
theorem dX4_sellPledge_43 : decode cX4_sellPledge 43 = .ok (.iload_n 1, 1) := by decide +kernel
theorem dX4_sellPledge_44 : decode cX4_sellPledge 44 = .ok (.iaload, 1) := by decide +kernel
theorem dX4_sellPledge_45 : decode cX4_sellPledge 45 = .ok (.dup2, 1) := by decide +kernel
theorem dX4_sellPledge_46 : decode cX4_sellPledge 46 = .ok (.iaload, 1) := by decide +kernel
theorem dX4_sellPledge_47 : decode cX4_sellPledge 47 = .ok (.iload_n 3, 1) := by decide +kernel
theorem dX4_sellPledge_48 : decode cX4_sellPledge 48 = .ok (.iadd, 1) := by decide +kernel
theorem dX4_sellPledge_49 : decode cX4_sellPledge 49 = .ok (.iastore, 1) := by decide +kernel
theorem dX4_sellPledge_50 : decode cX4_sellPledge 50 = .ok (.aload_n 0, 1) := by decide +kernel
theorem dX4_sellPledge_51 : decode cX4_sellPledge 51 = .ok (.getfield 10, 3) := by decide +kernel
theorem dX4_sellPledge_54 : decode cX4_sellPledge 54 = .ok (.getfield 73, 3) := by decide +kernel
theorem dX4_sellPledge_57 : decode cX4_sellPledge 57 = .ok (.aload_n 0, 1) := by decide +kernel
theorem dX4_sellPledge_58 : decode cX4_sellPledge 58 = .ok (.getfield 36, 3) := by decide +kernel
theorem dX4_sellPledge_61 : decode cX4_sellPledge 61 = .ok (.getfield 183, 3) := by decide +kernel
theorem dX4_sellPledge_64 : decode cX4_sellPledge 64 = .ok (.iload_n 1, 1) := by decide +kernel
theorem dX4_sellPledge_65 : decode cX4_sellPledge 65 = .ok (.iaload, 1) := by decide +kernel
theorem dX4_sellPledge_66 : decode cX4_sellPledge 66 = .ok (.dup2, 1) := by decide +kernel
theorem dX4_sellPledge_67 : decode cX4_sellPledge 67 = .ok (.iaload, 1) := by decide +kernel
theorem dX4_sellPledge_68 : decode cX4_sellPledge 68 = .ok (.iload_n 2, 1) := by decide +kernel
theorem dX4_sellPledge_69 : decode cX4_sellPledge 69 = .ok (.iload_n 3, 1) := by decide +kernel
theorem dX4_sellPledge_70 : decode cX4_sellPledge 70 = .ok (.isub, 1) := by decide +kernel
theorem dX4_sellPledge_71 : decode cX4_sellPledge 71 = .ok (.iadd, 1) := by decide +kernel
theorem dX4_sellPledge_72 : decode cX4_sellPledge 72 = .ok (.iastore, 1) := by decide +kernel
theorem dX4_sellPledge_73 : decode cX4_sellPledge 73 = .ok (.aload_n 0, 1) := by decide +kernel
theorem dX4_sellPledge_74 : decode cX4_sellPledge 74 = .ok (.dup, 1) := by decide +kernel
theorem dX4_sellPledge_75 : decode cX4_sellPledge 75 = .ok (.getfield 192, 3) := by decide +kernel
theorem dX4_sellPledge_78 : decode cX4_sellPledge 78 = .ok (.iload_n 2, 1) := by decide +kernel
theorem dX4_sellPledge_79 : decode cX4_sellPledge 79 = .ok (.iadd, 1) := by decide +kernel
theorem dX4_sellPledge_80 : decode cX4_sellPledge 80 = .ok (.putfield 192, 3) := by decide +kernel
theorem dX4_sellPledge_83 : decode cX4_sellPledge 83 = .ok (.return_, 1) := by decide +kernel
end
section
theorem dJ6_bitCount_0f7a4_0 : decode cJ6_bitCount_0f7a4 0 = .ok (.iload_n 0, 1) := by decide +kernel
theorem dJ6_bitCount_0f7a4_1 : decode cJ6_bitCount_0f7a4 1 = .ok (.iload_n 0, 1) := by decide +kernel
theorem dJ6_bitCount_0f7a4_2 : decode cJ6_bitCount_0f7a4 2 = .ok (.iconst 1, 1) := by decide +kernel
theorem dJ6_bitCount_0f7a4_3 : decode cJ6_bitCount_0f7a4 3 = .ok (.iushr, 1) := by decide +kernel
theorem dJ6_bitCount_0f7a4_4 : decode cJ6_bitCount_0f7a4 4 = .ok (.ldc_w 265, 3) := by decide +kernel
theorem dJ6_bitCount_0f7a4_7 : decode cJ6_bitCount_0f7a4 7 = .ok (.iand, 1) := by decide +kernel
theorem dJ6_bitCount_0f7a4_8 : decode cJ6_bitCount_0f7a4 8 = .ok (.isub, 1) := by decide +kernel
theorem dJ6_bitCount_0f7a4_9 : decode cJ6_bitCount_0f7a4 9 = .ok (.istore_n 0, 1) := by decide +kernel
theorem dJ6_bitCount_0f7a4_10 : decode cJ6_bitCount_0f7a4 10 = .ok (.iload_n 0, 1) := by decide +kernel
theorem dJ6_bitCount_0f7a4_11 : decode cJ6_bitCount_0f7a4 11 = .ok (.ldc_w 266, 3) := by decide +kernel
theorem dJ6_bitCount_0f7a4_14 : decode cJ6_bitCount_0f7a4 14 = .ok (.iand, 1) := by decide +kernel
theorem dJ6_bitCount_0f7a4_15 : decode cJ6_bitCount_0f7a4 15 = .ok (.iload_n 0, 1) := by decide +kernel
theorem dJ6_bitCount_0f7a4_16 : decode cJ6_bitCount_0f7a4 16 = .ok (.iconst 2, 1) := by decide +kernel
theorem dJ6_bitCount_0f7a4_17 : decode cJ6_bitCount_0f7a4 17 = .ok (.iushr, 1) := by decide +kernel
theorem dJ6_bitCount_0f7a4_18 : decode cJ6_bitCount_0f7a4 18 = .ok (.ldc_w 266, 3) := by decide +kernel
theorem dJ6_bitCount_0f7a4_21 : decode cJ6_bitCount_0f7a4 21 = .ok (.iand, 1) := by decide +kernel
theorem dJ6_bitCount_0f7a4_22 : decode cJ6_bitCount_0f7a4 22 = .ok (.iadd, 1) := by decide +kernel
theorem dJ6_bitCount_0f7a4_23 : decode cJ6_bitCount_0f7a4 23 = .ok (.istore_n 0, 1) := by decide +kernel
theorem dJ6_bitCount_0f7a4_24 : decode cJ6_bitCount_0f7a4 24 = .ok (.iload_n 0, 1) := by decide +kernel
theorem dJ6_bitCount_0f7a4_25 : decode cJ6_bitCount_0f7a4 25 = .ok (.iload_n 0, 1) := by decide +kernel
theorem dJ6_bitCount_0f7a4_26 : decode cJ6_bitCount_0f7a4 26 = .ok (.iconst 4, 1) := by decide +kernel
theorem dJ6_bitCount_0f7a4_27 : decode cJ6_bitCount_0f7a4 27 = .ok (.iushr, 1) := by decide +kernel
theorem dJ6_bitCount_0f7a4_28 : decode cJ6_bitCount_0f7a4 28 = .ok (.iadd, 1) := by decide +kernel
theorem dJ6_bitCount_0f7a4_29 : decode cJ6_bitCount_0f7a4 29 = .ok (.ldc_w 267, 3) := by decide +kernel
theorem dJ6_bitCount_0f7a4_32 : decode cJ6_bitCount_0f7a4 32 = .ok (.iand, 1) := by decide +kernel
theorem dJ6_bitCount_0f7a4_33 : decode cJ6_bitCount_0f7a4 33 = .ok (.istore_n 0, 1) := by decide +kernel
theorem dJ6_bitCount_0f7a4_34 : decode cJ6_bitCount_0f7a4 34 = .ok (.iload_n 0, 1) := by decide +kernel
theorem dJ6_bitCount_0f7a4_35 : decode cJ6_bitCount_0f7a4 35 = .ok (.iload_n 0, 1) := by decide +kernel
theorem dJ6_bitCount_0f7a4_36 : decode cJ6_bitCount_0f7a4 36 = .ok (.bipush 8, 2) := by decide +kernel
theorem dJ6_bitCount_0f7a4_38 : decode cJ6_bitCount_0f7a4 38 = .ok (.iushr, 1) := by decide +kernel
theorem dJ6_bitCount_0f7a4_39 : decode cJ6_bitCount_0f7a4 39 = .ok (.iadd, 1) := by decide +kernel
theorem dJ6_bitCount_0f7a4_40 : decode cJ6_bitCount_0f7a4 40 = .ok (.istore_n 0, 1) := by decide +kernel
theorem dJ6_bitCount_0f7a4_41 : decode cJ6_bitCount_0f7a4 41 = .ok (.iload_n 0, 1) := by decide +kernel
theorem dJ6_bitCount_0f7a4_42 : decode cJ6_bitCount_0f7a4 42 = .ok (.iload_n 0, 1) := by decide +kernel
theorem dJ6_bitCount_0f7a4_43 : decode cJ6_bitCount_0f7a4 43 = .ok (.bipush 16, 2) := by decide +kernel
theorem dJ6_bitCount_0f7a4_45 : decode cJ6_bitCount_0f7a4 45 = .ok (.iushr, 1) := by decide +kernel
theorem dJ6_bitCount_0f7a4_46 : decode cJ6_bitCount_0f7a4 46 = .ok (.iadd, 1) := by decide +kernel
theorem dJ6_bitCount_0f7a4_47 : decode cJ6_bitCount_0f7a4 47 = .ok (.istore_n 0, 1) := by decide +kernel
theorem dJ6_bitCount_0f7a4_48 : decode cJ6_bitCount_0f7a4 48 = .ok (.iload_n 0, 1) := by decide +kernel
theorem dJ6_bitCount_0f7a4_49 : decode cJ6_bitCount_0f7a4 49 = .ok (.bipush 63, 2) := by decide +kernel
theorem dJ6_bitCount_0f7a4_51 : decode cJ6_bitCount_0f7a4 51 = .ok (.iand, 1) := by decide +kernel
theorem dJ6_bitCount_0f7a4_52 : decode cJ6_bitCount_0f7a4 52 = .ok (.ireturn, 1) := by decide +kernel
theorem dJ9_max_7cf53_0 : decode cJ9_max_7cf53 0 = .ok (.iload_n 0, 1) := by decide +kernel
theorem dJ9_max_7cf53_1 : decode cJ9_max_7cf53 1 = .ok (.iload_n 1, 1) := by decide +kernel
theorem dJ9_max_7cf53_2 : decode cJ9_max_7cf53 2 = .ok (.if_icmp .lt 7, 3) := by decide +kernel
theorem dJ9_max_7cf53_5 : decode cJ9_max_7cf53 5 = .ok (.iload_n 0, 1) := by decide +kernel
theorem dJ9_max_7cf53_6 : decode cJ9_max_7cf53 6 = .ok (.goto 4, 3) := by decide +kernel
theorem dJ9_max_7cf53_9 : decode cJ9_max_7cf53 9 = .ok (.iload_n 1, 1) := by decide +kernel
theorem dJ9_max_7cf53_10 : decode cJ9_max_7cf53 10 = .ok (.ireturn, 1) := by decide +kernel
theorem dJ9_min_7cf53_0 : decode cJ9_min_7cf53 0 = .ok (.iload_n 0, 1) := by decide +kernel
theorem dJ9_min_7cf53_1 : decode cJ9_min_7cf53 1 = .ok (.iload_n 1, 1) := by decide +kernel
theorem dJ9_min_7cf53_2 : decode cJ9_min_7cf53 2 = .ok (.if_icmp .gt 7, 3) := by decide +kernel
theorem dJ9_min_7cf53_5 : decode cJ9_min_7cf53 5 = .ok (.iload_n 0, 1) := by decide +kernel
theorem dJ9_min_7cf53_6 : decode cJ9_min_7cf53 6 = .ok (.goto 4, 3) := by decide +kernel
theorem dJ9_min_7cf53_9 : decode cJ9_min_7cf53 9 = .ok (.iload_n 1, 1) := by decide +kernel
theorem dJ9_min_7cf53_10 : decode cJ9_min_7cf53 10 = .ok (.ireturn, 1) := by decide +kernel
end
section
/-! The Z layer: a frame seen as a world and a list of locals; a row an instruction, a row a call. -/
section ZZ
def zStr : List (Nat × String) := [(195, "there is no such bank"), (202, "a value is out of range"), (204, "the bank is closed"), (79, "the account would be too large"), (199, "both banks are the same"), (111, "the bank would have too many papers"), (116, "there are no more payments to be had"), (206, "there is no such payment"), (128, "the payment does not wait"), (142, "there is no such place"), (152, "too many payments wait"), (208, "there are no more loans to be had"), (213, "the pledge does not cover the loan"), (215, "the lender would be below its floor")]
def zEI : String := "java/lang/IndexOutOfBoundsException"
def zEA : String := "java/lang/IllegalArgumentException"
def zES : String := "java/lang/IllegalStateException"
def zEs : List String := ["java/lang/IndexOutOfBoundsException", "java/lang/IllegalArgumentException", "java/lang/IllegalStateException"]
def zNcs : List (String × String) := [("java/lang/IllegalArgumentException", "java/lang/IndexOutOfBoundsException"), ("java/lang/IllegalStateException", "java/lang/IndexOutOfBoundsException"), ("java/lang/IllegalStateException", "java/lang/IllegalArgumentException")]
def zDs : List MethodName := [Bundle.initS "java/lang/RuntimeException", Bundle.initS "java/lang/Exception", Bundle.initS Bundle.tN]
/-- what the methods need beside their words: the texts, the nest mate's link, the exceptions' classes, the two statics of Throwable -/
def zG (sa : Nat → Nat) (A : Nat → Prop) (U : State) (H : Heap) : Prop :=
  (∀ q ∈ zStr, vk_R RX4 q.1 q.2 (sa q.1) U) ∧ va_Nw (.methodLinkNest RX3 18 yX4_pairOf RX4) U ∧ (∀ E ∈ zEs, va_Nw (.castable E E) U) ∧ (∀ q ∈ zNcs, va_Nc q.1 q.2 U) ∧ (∀ y ∈ zDs, va_Nw (.declares y) U) ∧
  vx_Zq Bundle.tN "UNASSIGNED_STACK" Bundle.steD A U H ∧ vx_Zq Bundle.tN "SUPPRESSED_SENTINEL" Bundle.listD A U H
theorem zG.go {sa : Nat → Nat} {A B : Nat → Prop} {s U : State} {H H1 : Heap} (hW : s.WarmedH U.vm) (h : zG sa A s H) (hq : ∀ a : Nat, a < H.size → ¬ A a → H1[a]? = H[a]?) (hAB : ∀ q, B q → A q) : zG sa B U H1 := by
  obtain ⟨h1, h2, h3, h4, h4d, h5, h6⟩ := h
  refine ⟨fun q hq => vk_R.warm hW (h1 q hq), va_Nw.warmM hW h2, fun E hE => ?_, fun q hq => va_Nc.moved hW.alike (h4 q hq), fun y hy => va_Nw.warmD hW (h4d y hy), vx_Zq.moved hW.alike ((h5.kept hq).narrow hAB), vx_Zq.moved hW.alike ((h6.kept hq).narrow hAB)⟩
  have h7 := h3 E hE
  have h8 : (Cond.castable E E).before #[] (s.setVm U.vm) = true := by
    rw [Cond.castable_setVm hW.alike]; exact h7
  exact va_tabs rfl (rfl : (s.setVm U.vm).vm = U.vm) h8
/-- a callee's world wc among ws; behind it w1 in its place: ws' -/
def zSub (ws wc w1 ws' : va_W) : Prop :=
  (∀ (D : va_G) (cl : List vw_C) (H : Heap), va_P D cl ws H → va_P D cl wc H) ∧ (∀ A : Nat → Prop, va_D A ws → va_D A wc) ∧
  ∀ (D : va_G) (cl : List vw_C) (A : Nat → Prop) (H H1 : Heap), va_P D cl ws H → va_D A ws → (∀ q : Nat, va_A wc H.size q → A q) → (∀ q : Nat, q < H.size → ¬ va_A wc H.size q → H1[q]? = H[q]?) → va_P D cl w1 H1 → va_D (va_A wc H.size) w1 → va_P D cl ws' H1 ∧ va_D A ws'
def zIn (ws wc : va_W) : Prop := (∀ (D : va_G) (cl : List vw_C) (H : Heap), va_P D cl ws H → va_P D cl wc H) ∧ ∀ A : Nat → Prop, va_D A ws → va_D A wc
theorem zIn.full {ws : va_W} : zIn ws ws := ⟨fun _ _ _ h => h, fun _ h => h⟩
theorem zIn.none {ws : va_W} : zIn ws [] := ⟨fun _ _ _ _ k q h => by simp at h, fun _ _ => ⟨fun i j p q h => by simp at h, fun k q h => by simp at h⟩⟩
theorem zSub.full {ws w1 : va_W} : zSub ws ws w1 w1 := ⟨fun _ _ _ h => h, fun _ h => h, fun D cl A H H1 hP hD hF hk hP1 hD1 => ⟨hP1, hD1.weaken (fun _ q _ h => hF q.1 h)⟩⟩
theorem zSub.none {ws : va_W} : zSub ws [] [] ws := by
  refine ⟨fun _ _ _ _ k q h => by simp at h, fun _ _ => ⟨fun i j p q h => by simp at h, fun k q h => by simp at h⟩, fun D cl A H H1 hP hD hF hk hP1 hD1 => ⟨hP.kept (fun k q hq => ?_), hD⟩⟩
  have hl := (hP k q hq).lt
  refine hk q.1 hl (fun z => ?_)
  rcases z with ⟨k2, e, h⟩ | h
  · simp at h
  · omega
theorem zfm {ws wc : va_W} : ∀ {is : List Nat}, is.map (fun i => ws[i]?) = wc.map some → is.filterMap (fun i => ws[i]?) = wc := by
  intro is h
  have h2 : is.filterMap (fun i => ws[i]?) = (is.map (fun i => ws[i]?)).filterMap id := by
    rw [List.filterMap_map]; rfl
  rw [h2, h, List.filterMap_map]
  simp
theorem zIn.of {ws wc : va_W} (isC : List Nat) (hC : isC.map (fun i => ws[i]?) = wc.map some) (hnC : va_nd isC = true) : zIn ws wc := ⟨fun D cl H hP => hP.sub isC (zfm hC), fun A hD => hD.sub isC hnC hC⟩
theorem zSub.of {ws wc wr w1 ws' : va_W} (isC isR ks : List Nat) (hC : isC.map (fun i => ws[i]?) = wc.map some) (hR : isR.map (fun i => ws[i]?) = wr.map some) (hnC : va_nd isC = true) (hnR : va_nd isR = true) (hdis : ∀ i ∈ isR, i ∉ isC)
    (hks : ks.map (fun i => (wr ++ w1)[i]?) = ws'.map some) (hnk : va_nd ks = true) : zSub ws wc w1 ws' := by
  refine ⟨fun D cl H hP => hP.sub isC (zfm hC), fun A hD => hD.sub isC hnC hC, fun D cl A H H1 hP hD hF hk hP1 hD1 => ?_⟩
  obtain ⟨g1, g2⟩ := va_join (wr := wr) (w1 := w1) hP hD isC isR hC hR hnR hdis hk hF hP1 hD1
  exact ⟨g1.sub ks (zfm hks), g2.sub ks hnk hks⟩
variable {p : Program} {l : Launch} {e : Env} {R : Room} {s : State} {m : MethodId} {args : Array Value} {below : List Frame} {meth : Method} {c : Code} {Q : State → Prop} {D : va_G} {cl : List vw_C} {A : Nat → Prop} {tys : List (ClassId × FieldType)} {cc : ByteArray} {nL : Nat} {own : String} {Ts : List Cond} {sa : Nat → Nat} {ret : Option FieldType}
variable {cn cells slots : Nat} {ws ws' : va_W} {lv lv' : List (Nat × Value)} {pc : Nat} {st rest : List Value}
/-- the method, the machine and the tables -/
def zK (sa : Nat → Nat) (D : va_G) (cl : List vw_C) (tys : List (ClassId × FieldType)) (A : Nat → Prop) (p : Program) (s : State) (m : MethodId) (args : Array Value) (meth : Method) (c : Code) (cc : ByteArray) (nL : Nat) (own : String) (Ts : List Cond) (ret : Option FieldType) : Prop :=
  p.tables.exec = Jvm.exec ∧ c.code = cc ∧ c.maxLocals = nL ∧ s.vm.findClass own = some m.cls ∧ (∀ w ∈ Ts, w.before args s = true) ∧ va_K D cl tys s ∧ (∀ q : Nat, s.heap.size ≤ q → A q) ∧ zG sa A s s.heap ∧ meth.locks = false ∧ meth.sig.returnType = ret
/-- at pc, over any heap that holds ws, with the locals lv and the stack st, the machine comes to Q -/
def zW (cn : Nat) (p : Program) (l : Launch) (e : Env) (R : Room) (s : State) (m : MethodId) (args : Array Value) (below : List Frame) (meth : Method) (c : Code) (Q : State → Prop) (D : va_G) (cl : List vw_C) (A : Nat → Prop) (nL cells slots : Nat) (ws : va_W) (lv : List (Nat × Value)) (pc : Nat) (st : List Value) : Prop :=
  ∀ (H : Heap) (locs : List Loc) (ls : Array Slot), va_P D cl ws H → va_D A ws → (va_S A s.heap H locs ∧ s.heap.size + cn ≤ H.size) → lv_has ls nL lv → W p l e R s m args below meth c H locs cells slots Q (F0 m pc ls st)
theorem z_iconst (C : zK sa D cl tys A p s m args meth c cc nL own Ts ret) {n : Int} {v : Int32} (hdg : decode cc pc = .ok (.iconst n, 1)) (hv : Int32.ofInt n = v) (kk : zW cn p l e R s m args below meth c Q D cl A nL cells slots ws lv (pc + 1) (.int v :: st)) : zW cn p l e R s m args below meth c Q D cl A nL cells slots ws lv pc st :=
  fun H locs ls hP hD hS hl => lv_iconst C.1 C.2.1 hdg hv (kk H locs ls hP hD hS hl)
theorem z_bipush (C : zK sa D cl tys A p s m args meth c cc nL own Ts ret) {n : Int} {v : Int32} (hdg : decode cc pc = .ok (.bipush n, 2)) (hv : (Int8.ofInt n).toInt32 = v) (kk : zW cn p l e R s m args below meth c Q D cl A nL cells slots ws lv (pc + 2) (.int v :: st)) : zW cn p l e R s m args below meth c Q D cl A nL cells slots ws lv pc st :=
  fun H locs ls hP hD hS hl => lv_bipush C.1 C.2.1 hdg hv (kk H locs ls hP hD hS hl)
theorem z_sipush (C : zK sa D cl tys A p s m args meth c cc nL own Ts ret) {n : Int} {v : Int32} (hdg : decode cc pc = .ok (.sipush n, 3)) (hv : (Int16.ofInt n).toInt32 = v) (kk : zW cn p l e R s m args below meth c Q D cl A nL cells slots ws lv (pc + 3) (.int v :: st)) : zW cn p l e R s m args below meth c Q D cl A nL cells slots ws lv pc st :=
  fun H locs ls hP hD hS hl => lv_sipush C.1 C.2.1 hdg hv (kk H locs ls hP hD hS hl)
theorem z_lconst (C : zK sa D cl tys A p s m args meth c cc nL own Ts ret) {n : Fin 2} {v : Int64} (hdg : decode cc pc = .ok (.lconst n, 1)) (hv : Int64.ofNat (n : Nat) = v) (kk : zW cn p l e R s m args below meth c Q D cl A nL cells slots ws lv (pc + 1) (.long v :: st)) : zW cn p l e R s m args below meth c Q D cl A nL cells slots ws lv pc st :=
  fun H locs ls hP hD hS hl => lv_lconst C.1 C.2.1 hdg hv (kk H locs ls hP hD hS hl)
theorem z_ldc (C : zK sa D cl tys A p s m args meth c cc nL own Ts ret) {index : Nat} {v : Int32} (hm : Cond.constant own index v ∈ Ts) (hdg : decode cc pc = .ok (.ldc index, 2)) (kk : zW cn p l e R s m args below meth c Q D cl A nL cells slots ws lv (pc + 2) (.int v :: st)) : zW cn p l e R s m args below meth c Q D cl A nL cells slots ws lv pc st :=
  fun H locs ls hP hD hS hl => lv_ldc C.1 C.2.1 C.2.2.2.1 (C.2.2.2.2.1 _ hm) hdg (kk H locs ls hP hD hS hl)
theorem z_ldc2 (C : zK sa D cl tys A p s m args meth c cc nL own Ts ret) {index : Nat} {v : Int64} (hm : Cond.constantLong own index v ∈ Ts) (hdg : decode cc pc = .ok (.ldc2_w index, 3)) (kk : zW cn p l e R s m args below meth c Q D cl A nL cells slots ws lv (pc + 3) (.long v :: st)) : zW cn p l e R s m args below meth c Q D cl A nL cells slots ws lv pc st :=
  fun H locs ls hP hD hS hl => lv_ldc2 C.1 C.2.1 C.2.2.2.1 (C.2.2.2.2.1 _ hm) hdg (kk H locs ls hP hD hS hl)
theorem z_iload_n (C : zK sa D cl tys A p s m args meth c cc nL own Ts ret) {k : Fin 4} {i : Nat} {x : Int32} (hdg : decode cc pc = .ok (.iload_n k, 1)) (hi : (k : Nat) = i) (j : Nat) (hj : lv[j]? = some (i, .int x)) (kk : zW cn p l e R s m args below meth c Q D cl A nL cells slots ws lv (pc + 1) (.int x :: st)) : zW cn p l e R s m args below meth c Q D cl A nL cells slots ws lv pc st :=
  fun H locs ls hP hD hS hl => lv_iload_n C.1 C.2.1 hdg hi (lv_at hl j hj) (kk H locs ls hP hD hS hl)
theorem z_iload (C : zK sa D cl tys A p s m args meth c cc nL own Ts ret) {i : Nat} {x : Int32} (hdg : decode cc pc = .ok (.iload i, 2)) (j : Nat) (hj : lv[j]? = some (i, .int x)) (kk : zW cn p l e R s m args below meth c Q D cl A nL cells slots ws lv (pc + 2) (.int x :: st)) : zW cn p l e R s m args below meth c Q D cl A nL cells slots ws lv pc st :=
  fun H locs ls hP hD hS hl => lv_iload C.1 C.2.1 hdg (lv_at hl j hj) (kk H locs ls hP hD hS hl)
theorem z_lload_n (C : zK sa D cl tys A p s m args meth c cc nL own Ts ret) {k : Fin 4} {i : Nat} {x : Int64} (hdg : decode cc pc = .ok (.lload_n k, 1)) (hi : (k : Nat) = i) (j : Nat) (hj : lv[j]? = some (i, .long x)) (kk : zW cn p l e R s m args below meth c Q D cl A nL cells slots ws lv (pc + 1) (.long x :: st)) : zW cn p l e R s m args below meth c Q D cl A nL cells slots ws lv pc st :=
  fun H locs ls hP hD hS hl => lv_lload_n C.1 C.2.1 hdg hi (lv_at hl j hj) (kk H locs ls hP hD hS hl)
theorem z_lload (C : zK sa D cl tys A p s m args meth c cc nL own Ts ret) {i : Nat} {x : Int64} (hdg : decode cc pc = .ok (.lload i, 2)) (j : Nat) (hj : lv[j]? = some (i, .long x)) (kk : zW cn p l e R s m args below meth c Q D cl A nL cells slots ws lv (pc + 2) (.long x :: st)) : zW cn p l e R s m args below meth c Q D cl A nL cells slots ws lv pc st :=
  fun H locs ls hP hD hS hl => lv_lload C.1 C.2.1 hdg (lv_at hl j hj) (kk H locs ls hP hD hS hl)
theorem z_aload_n (C : zK sa D cl tys A p s m args meth c cc nL own Ts ret) {k : Fin 4} {i : Nat} {x : Nat} (hdg : decode cc pc = .ok (.aload_n k, 1)) (hi : (k : Nat) = i) (j : Nat) (hj : lv[j]? = some (i, .ref x)) (kk : zW cn p l e R s m args below meth c Q D cl A nL cells slots ws lv (pc + 1) (.ref x :: st)) : zW cn p l e R s m args below meth c Q D cl A nL cells slots ws lv pc st :=
  fun H locs ls hP hD hS hl => lv_aload_n C.1 C.2.1 hdg hi (lv_at hl j hj) (kk H locs ls hP hD hS hl)
theorem z_aload (C : zK sa D cl tys A p s m args meth c cc nL own Ts ret) {i : Nat} {x : Nat} (hdg : decode cc pc = .ok (.aload i, 2)) (j : Nat) (hj : lv[j]? = some (i, .ref x)) (kk : zW cn p l e R s m args below meth c Q D cl A nL cells slots ws lv (pc + 2) (.ref x :: st)) : zW cn p l e R s m args below meth c Q D cl A nL cells slots ws lv pc st :=
  fun H locs ls hP hD hS hl => lv_aload C.1 C.2.1 hdg (lv_at hl j hj) (kk H locs ls hP hD hS hl)
theorem z_istore_n (C : zK sa D cl tys A p s m args meth c cc nL own Ts ret) {k : Fin 4} {i : Nat} {x : Int32} (hdg : decode cc pc = .ok (.istore_n k, 1)) (hi : (k : Nat) = i) (hn : i < nL) (lv' : List (Nat × Value)) (ks : List Nat) (hl9 : lv_pick ((i, Value.int x) :: lv.filter (fun q => !(q.1 == i) && !(q.1 + 1 == i && q.2.category == 2))) ks = lv') (kk : zW cn p l e R s m args below meth c Q D cl A nL cells slots ws lv' (pc + 1) st) : zW cn p l e R s m args below meth c Q D cl A nL cells slots ws lv pc (.int x :: st) :=
  fun H locs ls hP hD hS hl => lv_istore_n C.1 C.2.1 hdg hi hl hn rfl (fun ls1 hl1 => kk H locs ls1 hP hD hS (lv_sub hl1 ks hl9))
theorem z_istore (C : zK sa D cl tys A p s m args meth c cc nL own Ts ret) {i : Nat} {x : Int32} (hdg : decode cc pc = .ok (.istore i, 2)) (hn : i < nL) (lv' : List (Nat × Value)) (ks : List Nat) (hl9 : lv_pick ((i, Value.int x) :: lv.filter (fun q => !(q.1 == i) && !(q.1 + 1 == i && q.2.category == 2))) ks = lv') (kk : zW cn p l e R s m args below meth c Q D cl A nL cells slots ws lv' (pc + 2) st) : zW cn p l e R s m args below meth c Q D cl A nL cells slots ws lv pc (.int x :: st) :=
  fun H locs ls hP hD hS hl => lv_istore C.1 C.2.1 hdg hl hn rfl (fun ls1 hl1 => kk H locs ls1 hP hD hS (lv_sub hl1 ks hl9))
theorem z_astore_n (C : zK sa D cl tys A p s m args meth c cc nL own Ts ret) {k : Fin 4} {i : Nat} {x : Nat} (hdg : decode cc pc = .ok (.astore_n k, 1)) (hi : (k : Nat) = i) (hn : i < nL) (lv' : List (Nat × Value)) (ks : List Nat) (hl9 : lv_pick ((i, Value.ref x) :: lv.filter (fun q => !(q.1 == i) && !(q.1 + 1 == i && q.2.category == 2))) ks = lv') (kk : zW cn p l e R s m args below meth c Q D cl A nL cells slots ws lv' (pc + 1) st) : zW cn p l e R s m args below meth c Q D cl A nL cells slots ws lv pc (.ref x :: st) :=
  fun H locs ls hP hD hS hl => lv_astore_n C.1 C.2.1 hdg hi hl hn rfl (fun ls1 hl1 => kk H locs ls1 hP hD hS (lv_sub hl1 ks hl9))
theorem z_astore (C : zK sa D cl tys A p s m args meth c cc nL own Ts ret) {i : Nat} {x : Nat} (hdg : decode cc pc = .ok (.astore i, 2)) (hn : i < nL) (lv' : List (Nat × Value)) (ks : List Nat) (hl9 : lv_pick ((i, Value.ref x) :: lv.filter (fun q => !(q.1 == i) && !(q.1 + 1 == i && q.2.category == 2))) ks = lv') (kk : zW cn p l e R s m args below meth c Q D cl A nL cells slots ws lv' (pc + 2) st) : zW cn p l e R s m args below meth c Q D cl A nL cells slots ws lv pc (.ref x :: st) :=
  fun H locs ls hP hD hS hl => lv_astore C.1 C.2.1 hdg hl hn rfl (fun ls1 hl1 => kk H locs ls1 hP hD hS (lv_sub hl1 ks hl9))
theorem z_lstore_n (C : zK sa D cl tys A p s m args meth c cc nL own Ts ret) {k : Fin 4} {i : Nat} {x : Int64} (hdg : decode cc pc = .ok (.lstore_n k, 1)) (hi : (k : Nat) = i) (hn : i + 1 < nL) (lv' : List (Nat × Value)) (ks : List Nat) (hl9 : lv_pick ((i, Value.long x) :: lv.filter (fun q => !(q.1 == i) && (!(q.1 == i + 1) && !(q.1 + 1 == i && q.2.category == 2)))) ks = lv') (kk : zW cn p l e R s m args below meth c Q D cl A nL cells slots ws lv' (pc + 1) st) : zW cn p l e R s m args below meth c Q D cl A nL cells slots ws lv pc (.long x :: st) :=
  fun H locs ls hP hD hS hl => lv_lstore_n C.1 C.2.1 hdg hi hl hn rfl (fun ls1 hl1 => kk H locs ls1 hP hD hS (lv_sub hl1 ks hl9))
theorem z_lstore (C : zK sa D cl tys A p s m args meth c cc nL own Ts ret) {i : Nat} {x : Int64} (hdg : decode cc pc = .ok (.lstore i, 2)) (hn : i + 1 < nL) (lv' : List (Nat × Value)) (ks : List Nat) (hl9 : lv_pick ((i, Value.long x) :: lv.filter (fun q => !(q.1 == i) && (!(q.1 == i + 1) && !(q.1 + 1 == i && q.2.category == 2)))) ks = lv') (kk : zW cn p l e R s m args below meth c Q D cl A nL cells slots ws lv' (pc + 2) st) : zW cn p l e R s m args below meth c Q D cl A nL cells slots ws lv pc (.long x :: st) :=
  fun H locs ls hP hD hS hl => lv_lstore C.1 C.2.1 hdg hl hn rfl (fun ls1 hl1 => kk H locs ls1 hP hD hS (lv_sub hl1 ks hl9))
theorem z_iinc (C : zK sa D cl tys A p s m args meth c cc nL own Ts ret) {i : Nat} {n : Int} {x v : Int32} (hdg : decode cc pc = .ok (.iinc i n, 3)) (j : Nat) (hj : lv[j]? = some (i, .int x)) (hv : x + Int32.ofInt n = v) (hn : i < nL) (lv' : List (Nat × Value)) (ks : List Nat) (hl9 : lv_pick ((i, Value.int v) :: lv.filter (fun q => !(q.1 == i) && !(q.1 + 1 == i && q.2.category == 2))) ks = lv') (kk : zW cn p l e R s m args below meth c Q D cl A nL cells slots ws lv' (pc + 3) st) : zW cn p l e R s m args below meth c Q D cl A nL cells slots ws lv pc st :=
  fun H locs ls hP hD hS hl => lv_iinc C.1 C.2.1 hdg hl hj hv hn rfl (fun ls1 hl1 => kk H locs ls1 hP hD hS (lv_sub hl1 ks hl9))
theorem z_iadd (C : zK sa D cl tys A p s m args meth c cc nL own Ts ret) {x y v : Int32} (hdg : decode cc pc = .ok (.iadd, 1)) (hv : x + y = v) (kk : zW cn p l e R s m args below meth c Q D cl A nL cells slots ws lv (pc + 1) (.int v :: st)) : zW cn p l e R s m args below meth c Q D cl A nL cells slots ws lv pc (.int y :: .int x :: st) :=
  fun H locs ls hP hD hS hl => lv_iadd C.1 C.2.1 hdg (by rw [hv]; exact kk H locs ls hP hD hS hl)
theorem z_isub (C : zK sa D cl tys A p s m args meth c cc nL own Ts ret) {x y v : Int32} (hdg : decode cc pc = .ok (.isub, 1)) (hv : x - y = v) (kk : zW cn p l e R s m args below meth c Q D cl A nL cells slots ws lv (pc + 1) (.int v :: st)) : zW cn p l e R s m args below meth c Q D cl A nL cells slots ws lv pc (.int y :: .int x :: st) :=
  fun H locs ls hP hD hS hl => lv_isub C.1 C.2.1 hdg (by rw [hv]; exact kk H locs ls hP hD hS hl)
theorem z_imul (C : zK sa D cl tys A p s m args meth c cc nL own Ts ret) {x y v : Int32} (hdg : decode cc pc = .ok (.imul, 1)) (hv : x * y = v) (kk : zW cn p l e R s m args below meth c Q D cl A nL cells slots ws lv (pc + 1) (.int v :: st)) : zW cn p l e R s m args below meth c Q D cl A nL cells slots ws lv pc (.int y :: .int x :: st) :=
  fun H locs ls hP hD hS hl => lv_imul C.1 C.2.1 hdg (by rw [hv]; exact kk H locs ls hP hD hS hl)
theorem z_iand (C : zK sa D cl tys A p s m args meth c cc nL own Ts ret) {x y v : Int32} (hdg : decode cc pc = .ok (.iand, 1)) (hv : x &&& y = v) (kk : zW cn p l e R s m args below meth c Q D cl A nL cells slots ws lv (pc + 1) (.int v :: st)) : zW cn p l e R s m args below meth c Q D cl A nL cells slots ws lv pc (.int y :: .int x :: st) :=
  fun H locs ls hP hD hS hl => lv_iand C.1 C.2.1 hdg (by rw [hv]; exact kk H locs ls hP hD hS hl)
theorem z_ior (C : zK sa D cl tys A p s m args meth c cc nL own Ts ret) {x y v : Int32} (hdg : decode cc pc = .ok (.ior, 1)) (hv : x ||| y = v) (kk : zW cn p l e R s m args below meth c Q D cl A nL cells slots ws lv (pc + 1) (.int v :: st)) : zW cn p l e R s m args below meth c Q D cl A nL cells slots ws lv pc (.int y :: .int x :: st) :=
  fun H locs ls hP hD hS hl => lv_ior C.1 C.2.1 hdg (by rw [hv]; exact kk H locs ls hP hD hS hl)
theorem z_idiv (C : zK sa D cl tys A p s m args meth c cc nL own Ts ret) {x y v : Int32} (hdg : decode cc pc = .ok (.idiv, 1)) (hne : ¬ y = 0) (hv : x / y = v) (kk : zW cn p l e R s m args below meth c Q D cl A nL cells slots ws lv (pc + 1) (.int v :: st)) : zW cn p l e R s m args below meth c Q D cl A nL cells slots ws lv pc (.int y :: .int x :: st) :=
  fun H locs ls hP hD hS hl => lv_idiv C.1 C.2.1 hdg hne (by rw [hv]; exact kk H locs ls hP hD hS hl)
theorem z_ishl (C : zK sa D cl tys A p s m args meth c cc nL own Ts ret) {x y v : Int32} (hdg : decode cc pc = .ok (.ishl, 1)) (hv : x <<< (y &&& 31) = v) (kk : zW cn p l e R s m args below meth c Q D cl A nL cells slots ws lv (pc + 1) (.int v :: st)) : zW cn p l e R s m args below meth c Q D cl A nL cells slots ws lv pc (.int y :: .int x :: st) :=
  fun H locs ls hP hD hS hl => lv_ishl C.1 C.2.1 hdg (by rw [hv]; exact kk H locs ls hP hD hS hl)
theorem z_ishr (C : zK sa D cl tys A p s m args meth c cc nL own Ts ret) {x y v : Int32} (hdg : decode cc pc = .ok (.ishr, 1)) (hv : x >>> (y &&& 31) = v) (kk : zW cn p l e R s m args below meth c Q D cl A nL cells slots ws lv (pc + 1) (.int v :: st)) : zW cn p l e R s m args below meth c Q D cl A nL cells slots ws lv pc (.int y :: .int x :: st) :=
  fun H locs ls hP hD hS hl => lv_ishr C.1 C.2.1 hdg (by rw [hv]; exact kk H locs ls hP hD hS hl)
theorem z_irem (C : zK sa D cl tys A p s m args meth c cc nL own Ts ret) {x y v : Int32} (hdg : decode cc pc = .ok (.irem, 1)) (hne : ¬ y = 0) (hv : x - x / y * y = v) (kk : zW cn p l e R s m args below meth c Q D cl A nL cells slots ws lv (pc + 1) (.int v :: st)) : zW cn p l e R s m args below meth c Q D cl A nL cells slots ws lv pc (.int y :: .int x :: st) :=
  fun H locs ls hP hD hS hl => lv_irem C.1 C.2.1 hdg hne (by rw [hv]; exact kk H locs ls hP hD hS hl)
theorem z_ixor (C : zK sa D cl tys A p s m args meth c cc nL own Ts ret) {x y v : Int32} (hdg : decode cc pc = .ok (.ixor, 1)) (hv : x ^^^ y = v) (kk : zW cn p l e R s m args below meth c Q D cl A nL cells slots ws lv (pc + 1) (.int v :: st)) : zW cn p l e R s m args below meth c Q D cl A nL cells slots ws lv pc (.int y :: .int x :: st) :=
  fun H locs ls hP hD hS hl => lv_ixor C.1 C.2.1 hdg (by rw [hv]; exact kk H locs ls hP hD hS hl)
theorem z_ineg (C : zK sa D cl tys A p s m args meth c cc nL own Ts ret) {x v : Int32} (hdg : decode cc pc = .ok (.ineg, 1)) (hv : -x = v) (kk : zW cn p l e R s m args below meth c Q D cl A nL cells slots ws lv (pc + 1) (.int v :: st)) : zW cn p l e R s m args below meth c Q D cl A nL cells slots ws lv pc (.int x :: st) :=
  fun H locs ls hP hD hS hl => lv_ineg C.1 C.2.1 hdg (by rw [hv]; exact kk H locs ls hP hD hS hl)
theorem z_ladd (C : zK sa D cl tys A p s m args meth c cc nL own Ts ret) {x y v : Int64} (hdg : decode cc pc = .ok (.ladd, 1)) (hv : x + y = v) (kk : zW cn p l e R s m args below meth c Q D cl A nL cells slots ws lv (pc + 1) (.long v :: st)) : zW cn p l e R s m args below meth c Q D cl A nL cells slots ws lv pc (.long y :: .long x :: st) :=
  fun H locs ls hP hD hS hl => lv_ladd C.1 C.2.1 hdg (by rw [hv]; exact kk H locs ls hP hD hS hl)
theorem z_ialen (C : zK sa D cl tys A p s m args meth c cc nL own Ts ret) {a : Nat} (q0 : Nat) {cA : ClassId} {x : vp_A} (ha : ws[q0]? = some (a, .inl (cA, x))) (t0 : Nat) {ty : FieldType} (ht : tys[t0]? = some (cA, ty)) {v : Int32} (hv : Int32.ofNat x.1 = v) (hdg : decode cc pc = .ok (.arraylength, 1)) (kk : zW cn p l e R s m args below meth c Q D cl A nL cells slots ws lv (pc + 1) (.int v :: st)) : zW cn p l e R s m args below meth c Q D cl A nL cells slots ws lv pc (.ref a :: st) :=
  fun H locs ls hP hD hS hl => va_alen C.1 C.2.1 C.2.2.2.2.2.1 hP q0 t0 ha ht hv hdg (kk H locs ls hP hD hS hl)
theorem z_tabIn (C : zK sa D cl tys A p s m args meth c cc nL own Ts ret) {dflt lo hi : Int} {offs : Array Int} {len : Nat} {x : Int32} {off : Int} {tgt : Nat} (hdg : decode cc pc = .ok (.tableswitch dflt lo hi offs, len)) (h1 : ¬ x.toInt < lo) (h2 : ¬ hi < x.toInt) (ho : offs[(x.toInt - lo).toNat]? = some off) (ht : (pc : Int) + off = (tgt : Int)) (kk : zW cn p l e R s m args below meth c Q D cl A nL cells slots ws lv tgt st) : zW cn p l e R s m args below meth c Q D cl A nL cells slots ws lv pc (.int x :: st) :=
  fun H locs ls hP hD hS hl => lv_tableIn C.1 C.2.1 hdg h1 h2 ho ht (kk H locs ls hP hD hS hl)
theorem z_lmul (C : zK sa D cl tys A p s m args meth c cc nL own Ts ret) {x y v : Int64} (hdg : decode cc pc = .ok (.lmul, 1)) (hv : x * y = v) (kk : zW cn p l e R s m args below meth c Q D cl A nL cells slots ws lv (pc + 1) (.long v :: st)) : zW cn p l e R s m args below meth c Q D cl A nL cells slots ws lv pc (.long y :: .long x :: st) :=
  fun H locs ls hP hD hS hl => lv_lmul C.1 C.2.1 hdg (by rw [hv]; exact kk H locs ls hP hD hS hl)
theorem z_ldiv (C : zK sa D cl tys A p s m args meth c cc nL own Ts ret) {x y v : Int64} (hdg : decode cc pc = .ok (.ldiv, 1)) (hne : ¬ y = 0) (hv : x / y = v) (kk : zW cn p l e R s m args below meth c Q D cl A nL cells slots ws lv (pc + 1) (.long v :: st)) : zW cn p l e R s m args below meth c Q D cl A nL cells slots ws lv pc (.long y :: .long x :: st) :=
  fun H locs ls hP hD hS hl => lv_ldiv C.1 C.2.1 hdg hne (by rw [hv]; exact kk H locs ls hP hD hS hl)
theorem z_i2l (C : zK sa D cl tys A p s m args meth c cc nL own Ts ret) {x : Int32} {v : Int64} (hdg : decode cc pc = .ok (.i2l, 1)) (hv : x.toInt64 = v) (kk : zW cn p l e R s m args below meth c Q D cl A nL cells slots ws lv (pc + 1) (.long v :: st)) : zW cn p l e R s m args below meth c Q D cl A nL cells slots ws lv pc (.int x :: st) :=
  fun H locs ls hP hD hS hl => lv_i2l C.1 C.2.1 hdg hv (kk H locs ls hP hD hS hl)
theorem z_dup (C : zK sa D cl tys A p s m args meth c cc nL own Ts ret) {va : Value} (hdg : decode cc pc = .ok (.dup, 1)) (hva : va.category = 1) (kk : zW cn p l e R s m args below meth c Q D cl A nL cells slots ws lv (pc + 1) (va :: va :: st)) : zW cn p l e R s m args below meth c Q D cl A nL cells slots ws lv pc (va :: st) :=
  fun H locs ls hP hD hS hl => lv_dup C.1 C.2.1 hdg hva (kk H locs ls hP hD hS hl)
theorem z_dup2 (C : zK sa D cl tys A p s m args meth c cc nL own Ts ret) {va vb : Value} (hdg : decode cc pc = .ok (.dup2, 1)) (hva : va.category = 1) (hvb : vb.category = 1) (kk : zW cn p l e R s m args below meth c Q D cl A nL cells slots ws lv (pc + 1) (va :: vb :: va :: vb :: st)) : zW cn p l e R s m args below meth c Q D cl A nL cells slots ws lv pc (va :: vb :: st) :=
  fun H locs ls hP hD hS hl => lv_dup2_11 C.1 C.2.1 hdg hva hvb (kk H locs ls hP hD hS hl)
theorem z_if_eq (C : zK sa D cl tys A p s m args meth c cc nL own Ts ret) {x : Int32} {off : Int} {tgt : Nat} (hdg : decode cc pc = .ok (.ifCond .eq off, 3)) (ht : (pc : Int) + off = (tgt : Int)) (kt : x = 0 → zW cn p l e R s m args below meth c Q D cl A nL cells slots ws lv tgt st) (kf : ¬ x = 0 → zW cn p l e R s m args below meth c Q D cl A nL cells slots ws lv (pc + 3) st) : zW cn p l e R s m args below meth c Q D cl A nL cells slots ws lv pc (.int x :: st) :=
  fun H locs ls hP hD hS hl => lv_if_eq C.1 C.2.1 hdg ht (fun q => kt q H locs ls hP hD hS hl) (fun q => kf q H locs ls hP hD hS hl)
theorem z_icmp_eq (C : zK sa D cl tys A p s m args meth c cc nL own Ts ret) {x y : Int32} {off : Int} {tgt : Nat} (hdg : decode cc pc = .ok (.if_icmp .eq off, 3)) (ht : (pc : Int) + off = (tgt : Int)) (kt : x = y → zW cn p l e R s m args below meth c Q D cl A nL cells slots ws lv tgt st) (kf : ¬ x = y → zW cn p l e R s m args below meth c Q D cl A nL cells slots ws lv (pc + 3) st) : zW cn p l e R s m args below meth c Q D cl A nL cells slots ws lv pc (.int y :: .int x :: st) :=
  fun H locs ls hP hD hS hl => lv_icmp_eq C.1 C.2.1 hdg ht (fun q => kt q H locs ls hP hD hS hl) (fun q => kf q H locs ls hP hD hS hl)
theorem z_if_ne (C : zK sa D cl tys A p s m args meth c cc nL own Ts ret) {x : Int32} {off : Int} {tgt : Nat} (hdg : decode cc pc = .ok (.ifCond .ne off, 3)) (ht : (pc : Int) + off = (tgt : Int)) (kt : ¬ x = 0 → zW cn p l e R s m args below meth c Q D cl A nL cells slots ws lv tgt st) (kf : x = 0 → zW cn p l e R s m args below meth c Q D cl A nL cells slots ws lv (pc + 3) st) : zW cn p l e R s m args below meth c Q D cl A nL cells slots ws lv pc (.int x :: st) :=
  fun H locs ls hP hD hS hl => lv_if_ne C.1 C.2.1 hdg ht (fun q => kt q H locs ls hP hD hS hl) (fun q => kf q H locs ls hP hD hS hl)
theorem z_icmp_ne (C : zK sa D cl tys A p s m args meth c cc nL own Ts ret) {x y : Int32} {off : Int} {tgt : Nat} (hdg : decode cc pc = .ok (.if_icmp .ne off, 3)) (ht : (pc : Int) + off = (tgt : Int)) (kt : ¬ x = y → zW cn p l e R s m args below meth c Q D cl A nL cells slots ws lv tgt st) (kf : x = y → zW cn p l e R s m args below meth c Q D cl A nL cells slots ws lv (pc + 3) st) : zW cn p l e R s m args below meth c Q D cl A nL cells slots ws lv pc (.int y :: .int x :: st) :=
  fun H locs ls hP hD hS hl => lv_icmp_ne C.1 C.2.1 hdg ht (fun q => kt q H locs ls hP hD hS hl) (fun q => kf q H locs ls hP hD hS hl)
theorem z_if_lt (C : zK sa D cl tys A p s m args meth c cc nL own Ts ret) {x : Int32} {off : Int} {tgt : Nat} (hdg : decode cc pc = .ok (.ifCond .lt off, 3)) (ht : (pc : Int) + off = (tgt : Int)) (kt : x < 0 → zW cn p l e R s m args below meth c Q D cl A nL cells slots ws lv tgt st) (kf : ¬ x < 0 → zW cn p l e R s m args below meth c Q D cl A nL cells slots ws lv (pc + 3) st) : zW cn p l e R s m args below meth c Q D cl A nL cells slots ws lv pc (.int x :: st) :=
  fun H locs ls hP hD hS hl => lv_if_lt C.1 C.2.1 hdg ht (fun q => kt q H locs ls hP hD hS hl) (fun q => kf q H locs ls hP hD hS hl)
theorem z_icmp_lt (C : zK sa D cl tys A p s m args meth c cc nL own Ts ret) {x y : Int32} {off : Int} {tgt : Nat} (hdg : decode cc pc = .ok (.if_icmp .lt off, 3)) (ht : (pc : Int) + off = (tgt : Int)) (kt : x < y → zW cn p l e R s m args below meth c Q D cl A nL cells slots ws lv tgt st) (kf : ¬ x < y → zW cn p l e R s m args below meth c Q D cl A nL cells slots ws lv (pc + 3) st) : zW cn p l e R s m args below meth c Q D cl A nL cells slots ws lv pc (.int y :: .int x :: st) :=
  fun H locs ls hP hD hS hl => lv_icmp_lt C.1 C.2.1 hdg ht (fun q => kt q H locs ls hP hD hS hl) (fun q => kf q H locs ls hP hD hS hl)
theorem z_if_ge (C : zK sa D cl tys A p s m args meth c cc nL own Ts ret) {x : Int32} {off : Int} {tgt : Nat} (hdg : decode cc pc = .ok (.ifCond .ge off, 3)) (ht : (pc : Int) + off = (tgt : Int)) (kt : 0 ≤ x → zW cn p l e R s m args below meth c Q D cl A nL cells slots ws lv tgt st) (kf : ¬ 0 ≤ x → zW cn p l e R s m args below meth c Q D cl A nL cells slots ws lv (pc + 3) st) : zW cn p l e R s m args below meth c Q D cl A nL cells slots ws lv pc (.int x :: st) :=
  fun H locs ls hP hD hS hl => lv_if_ge C.1 C.2.1 hdg ht (fun q => kt q H locs ls hP hD hS hl) (fun q => kf q H locs ls hP hD hS hl)
theorem z_icmp_ge (C : zK sa D cl tys A p s m args meth c cc nL own Ts ret) {x y : Int32} {off : Int} {tgt : Nat} (hdg : decode cc pc = .ok (.if_icmp .ge off, 3)) (ht : (pc : Int) + off = (tgt : Int)) (kt : y ≤ x → zW cn p l e R s m args below meth c Q D cl A nL cells slots ws lv tgt st) (kf : ¬ y ≤ x → zW cn p l e R s m args below meth c Q D cl A nL cells slots ws lv (pc + 3) st) : zW cn p l e R s m args below meth c Q D cl A nL cells slots ws lv pc (.int y :: .int x :: st) :=
  fun H locs ls hP hD hS hl => lv_icmp_ge C.1 C.2.1 hdg ht (fun q => kt q H locs ls hP hD hS hl) (fun q => kf q H locs ls hP hD hS hl)
theorem z_if_gt (C : zK sa D cl tys A p s m args meth c cc nL own Ts ret) {x : Int32} {off : Int} {tgt : Nat} (hdg : decode cc pc = .ok (.ifCond .gt off, 3)) (ht : (pc : Int) + off = (tgt : Int)) (kt : 0 < x → zW cn p l e R s m args below meth c Q D cl A nL cells slots ws lv tgt st) (kf : ¬ 0 < x → zW cn p l e R s m args below meth c Q D cl A nL cells slots ws lv (pc + 3) st) : zW cn p l e R s m args below meth c Q D cl A nL cells slots ws lv pc (.int x :: st) :=
  fun H locs ls hP hD hS hl => lv_if_gt C.1 C.2.1 hdg ht (fun q => kt q H locs ls hP hD hS hl) (fun q => kf q H locs ls hP hD hS hl)
theorem z_icmp_gt (C : zK sa D cl tys A p s m args meth c cc nL own Ts ret) {x y : Int32} {off : Int} {tgt : Nat} (hdg : decode cc pc = .ok (.if_icmp .gt off, 3)) (ht : (pc : Int) + off = (tgt : Int)) (kt : y < x → zW cn p l e R s m args below meth c Q D cl A nL cells slots ws lv tgt st) (kf : ¬ y < x → zW cn p l e R s m args below meth c Q D cl A nL cells slots ws lv (pc + 3) st) : zW cn p l e R s m args below meth c Q D cl A nL cells slots ws lv pc (.int y :: .int x :: st) :=
  fun H locs ls hP hD hS hl => lv_icmp_gt C.1 C.2.1 hdg ht (fun q => kt q H locs ls hP hD hS hl) (fun q => kf q H locs ls hP hD hS hl)
theorem z_if_le (C : zK sa D cl tys A p s m args meth c cc nL own Ts ret) {x : Int32} {off : Int} {tgt : Nat} (hdg : decode cc pc = .ok (.ifCond .le off, 3)) (ht : (pc : Int) + off = (tgt : Int)) (kt : x ≤ 0 → zW cn p l e R s m args below meth c Q D cl A nL cells slots ws lv tgt st) (kf : ¬ x ≤ 0 → zW cn p l e R s m args below meth c Q D cl A nL cells slots ws lv (pc + 3) st) : zW cn p l e R s m args below meth c Q D cl A nL cells slots ws lv pc (.int x :: st) :=
  fun H locs ls hP hD hS hl => lv_if_le C.1 C.2.1 hdg ht (fun q => kt q H locs ls hP hD hS hl) (fun q => kf q H locs ls hP hD hS hl)
theorem z_icmp_le (C : zK sa D cl tys A p s m args meth c cc nL own Ts ret) {x y : Int32} {off : Int} {tgt : Nat} (hdg : decode cc pc = .ok (.if_icmp .le off, 3)) (ht : (pc : Int) + off = (tgt : Int)) (kt : x ≤ y → zW cn p l e R s m args below meth c Q D cl A nL cells slots ws lv tgt st) (kf : ¬ x ≤ y → zW cn p l e R s m args below meth c Q D cl A nL cells slots ws lv (pc + 3) st) : zW cn p l e R s m args below meth c Q D cl A nL cells slots ws lv pc (.int y :: .int x :: st) :=
  fun H locs ls hP hD hS hl => lv_icmp_le C.1 C.2.1 hdg ht (fun q => kt q H locs ls hP hD hS hl) (fun q => kf q H locs ls hP hD hS hl)
theorem z_goto (C : zK sa D cl tys A p s m args meth c cc nL own Ts ret) {off : Int} {tgt : Nat} (hdg : decode cc pc = .ok (.goto off, 3)) (ht : (pc : Int) + off = (tgt : Int)) (kk : zW cn p l e R s m args below meth c Q D cl A nL cells slots ws lv tgt st) : zW cn p l e R s m args below meth c Q D cl A nL cells slots ws lv pc st :=
  fun H locs ls hP hD hS hl => lv_goto C.1 C.2.1 hdg ht (kk H locs ls hP hD hS hl)
theorem z_case (b : Prop) (kt : b → zW cn p l e R s m args below meth c Q D cl A nL cells slots ws lv pc st) (kf : ¬ b → zW cn p l e R s m args below meth c Q D cl A nL cells slots ws lv pc st) : zW cn p l e R s m args below meth c Q D cl A nL cells slots ws lv pc st := by
  by_cases h : b
  · exact kt h
  · exact kf h
theorem z_get (C : zK sa D cl tys A p s m args meth c cc nL own Ts ret) {ref C9 : String} {T : u_T} {N ci index : Nat} {a : Nat} (q0 : Nat) {fs : List Value} (he : ws[q0]? = some (a, .inr (ci, fs))) (hin : ∀ w ∈ u_ws C9 T N, w ∈ Ts) (hc : cl[ci]? = some (C9, T, N)) (k : Nat) (hk : k < N) (hlk : Cond.fieldLink own index ref (T k).2.1 (T k).2.2.1 ∈ Ts) (hrf : (T k).1 = ref) {v : Value} (hv : fs[k]? = some v) (hdg : decode cc pc = .ok (.getfield index, 3)) (kk : zW cn p l e R s m args below meth c Q D cl A nL cells slots ws lv (pc + 3) (v :: st)) : zW cn p l e R s m args below meth c Q D cl A nL cells slots ws lv pc (.ref a :: st) :=
  fun H locs ls hP hD hS hl => va_get C.1 C.2.1 C.2.2.2.2.1 hin C.2.2.2.1 C.2.2.2.2.2.1 hP q0 he hc k hk (C.2.2.2.2.1 _ hlk) (fun _ h9 => hrf ▸ h9) hv hdg (kk H locs ls hP hD hS hl)
theorem z_put (C : zK sa D cl tys A p s m args meth c cc nL own Ts ret) {ref C9 : String} {T : u_T} {N ci index : Nat} {a : Nat} (q0 : Nat) {fs : List Value} (he : ws[q0]? = some (a, .inr (ci, fs))) (hin : ∀ w ∈ u_ws C9 T N, w ∈ Ts) (hc : cl[ci]? = some (C9, T, N)) (k : Nat) (hk : k < N) (hlk : Cond.fieldLink own index ref (T k).2.1 (T k).2.2.1 ∈ Ts) (hrf : (T k).1 = ref) (ty0 : Nat → FieldType) (hty : ∀ k, k < N → parseFieldDescriptor (T k).2.2.1 = some (ty0 k)) (hnm : ∀ a, a < N → ∀ b, b < N → a ≠ b → (T a).2.1 ≠ (T b).2.1) (hfin : (T k).2.2.2 = false) {ty : FieldType} {v : Value} (hd : parseFieldDescriptor (T k).2.2.1 = some ty) (hn : narrow ty v = v) (hfit : fits ty v = true) (hlen : k < fs.length) (hdg : decode cc pc = .ok (.putfield index, 3)) (ws' : va_W) (hw : ws.set q0 (a, .inr (ci, fs.set k v)) = ws') (kk : zW 0 p l e R s m args below meth c Q D cl A nL cells slots ws' lv (pc + 3) st) : zW cn p l e R s m args below meth c Q D cl A nL cells slots ws lv pc (v :: .ref a :: st) :=
  fun H locs ls hP hD hS hl => va_put C.1 C.2.1 C.2.2.2.2.1 hin ty0 hty hnm C.2.2.2.1 C.2.2.2.2.2.1 hP hD hS.1 q0 he hc k hk (C.2.2.2.2.1 _ hlk) (fun _ h9 => hrf ▸ h9) hfin hd hn hfit hlen hdg (fun H1 locs1 hP1 hD1 hS1 => kk H1 locs1 ls (hw ▸ hP1) (hw ▸ hD1) ⟨hS1, hS1.1⟩ hl)
theorem z_putF (C : zK sa D cl tys A p s m args meth c cc nL own Ts ret) {ref C9 : String} {T : u_T} {N ci index : Nat} {a : Nat} (q0 : Nat) {fs : List Value} (he : ws[q0]? = some (a, .inr (ci, fs))) (hin : ∀ w ∈ u_ws C9 T N, w ∈ Ts) (hc : cl[ci]? = some (C9, T, N)) (k : Nat) (hk : k < N) (hlk : Cond.fieldLink own index ref (T k).2.1 (T k).2.2.1 ∈ Ts) (hrf : (T k).1 = ref) (ty0 : Nat → FieldType) (hty : ∀ k, k < N → parseFieldDescriptor (T k).2.2.1 = some (ty0 k)) (hnm : ∀ a, a < N → ∀ b, b < N → a ≠ b → (T a).2.1 ≠ (T b).2.1) (hfin : (T k).2.2.2 = true) (hin2 : meth.name = "<init>") (hdecl : (T k).1 = own) {ty : FieldType} {v : Value} (hd : parseFieldDescriptor (T k).2.2.1 = some ty) (hn : narrow ty v = v) (hfit : fits ty v = true) (hlen : k < fs.length) (hdg : decode cc pc = .ok (.putfield index, 3)) (ws' : va_W) (hw : ws.set q0 (a, .inr (ci, fs.set k v)) = ws') (kk : zW 0 p l e R s m args below meth c Q D cl A nL cells slots ws' lv (pc + 3) st) : zW cn p l e R s m args below meth c Q D cl A nL cells slots ws lv pc (v :: .ref a :: st) :=
  fun H locs ls hP hD hS hl => va_putF C.1 C.2.1 C.2.2.2.2.1 hin ty0 hty hnm C.2.2.2.1 C.2.2.2.2.2.1 hP hD hS.1 q0 he hc k hk (C.2.2.2.2.1 _ hlk) (fun _ h9 => hrf ▸ h9) hfin hin2 hdecl hd hn hfit hlen hdg (fun H1 locs1 hP1 hD1 hS1 => kk H1 locs1 ls (hw ▸ hP1) (hw ▸ hD1) ⟨hS1, hS1.1⟩ hl)
theorem z_iald (C : zK sa D cl tys A p s m args meth c cc nL own Ts ret) {a : Nat} (q0 t0 : Nat) {cA : ClassId} {n : Nat} {f : Nat → Int32} (ha : ws[q0]? = some (a, .inl (cA, n, .inl f))) (ht : tys[t0]? = some (cA, .int)) {i : Int32} (k : Nat) (hk : i.toNatClampNeg = k) (hin : vp_in i n) (v : Int32) (hv : f k = v) (hdg : decode cc pc = .ok (.iaload, 1)) (kk : zW cn p l e R s m args below meth c Q D cl A nL cells slots ws lv (pc + 1) (.int v :: st)) : zW cn p l e R s m args below meth c Q D cl A nL cells slots ws lv pc (.int i :: .ref a :: st) :=
  by
  subst hk
  subst hv
  exact fun H locs ls hP hD hS hl => va_iald C.1 C.2.1 C.2.2.2.2.2.1 hP q0 t0 ha ht hin hdg (kk H locs ls hP hD hS hl)
theorem z_zald (C : zK sa D cl tys A p s m args meth c cc nL own Ts ret) {a : Nat} (q0 t0 : Nat) {cA : ClassId} {n : Nat} {f : Nat → Int32} (ha : ws[q0]? = some (a, .inl (cA, n, .inl f))) (ht : tys[t0]? = some (cA, .boolean)) {i : Int32} (k : Nat) (hk : i.toNatClampNeg = k) (hin : vp_in i n) (v : Int32) (hv : f k = v) (hdg : decode cc pc = .ok (.baload, 1)) (kk : zW cn p l e R s m args below meth c Q D cl A nL cells slots ws lv (pc + 1) (.int v :: st)) : zW cn p l e R s m args below meth c Q D cl A nL cells slots ws lv pc (.int i :: .ref a :: st) :=
  by
  subst hk
  subst hv
  exact fun H locs ls hP hD hS hl => va_zald C.1 C.2.1 C.2.2.2.2.2.1 hP q0 t0 ha ht hin hdg (kk H locs ls hP hD hS hl)
theorem z_lald (C : zK sa D cl tys A p s m args meth c cc nL own Ts ret) {a : Nat} (q0 t0 : Nat) {cA : ClassId} {n : Nat} {f : Nat → Int64} (ha : ws[q0]? = some (a, .inl (cA, n, .inr (.inl f)))) (ht : tys[t0]? = some (cA, .long)) {i : Int32} (k : Nat) (hk : i.toNatClampNeg = k) (hin : vp_in i n) (hdg : decode cc pc = .ok (.laload, 1)) (kk : zW cn p l e R s m args below meth c Q D cl A nL cells slots ws lv (pc + 1) (.long (f k) :: st)) : zW cn p l e R s m args below meth c Q D cl A nL cells slots ws lv pc (.int i :: .ref a :: st) :=
  by
  subst hk
  exact fun H locs ls hP hD hS hl => va_lald C.1 C.2.1 C.2.2.2.2.2.1 hP q0 t0 ha ht hin hdg (kk H locs ls hP hD hS hl)
theorem z_iast (C : zK sa D cl tys A p s m args meth c cc nL own Ts ret) {a : Nat} (q0 t0 : Nat) {cA : ClassId} {n : Nat} {f : Nat → Int32} (ha : ws[q0]? = some (a, .inl (cA, n, .inl f))) (ht : tys[t0]? = some (cA, .int)) {i x : Int32} (k : Nat) (hk : i.toNatClampNeg = k) (hin : vp_in i n) (v : Int32) (hv : narrow .int (.int x) = .int v) (hdg : decode cc pc = .ok (.iastore, 1)) (ws' : va_W) (hw : ws.set q0 (a, .inl (cA, n, .inl (upd f k v))) = ws') (kk : zW 0 p l e R s m args below meth c Q D cl A nL cells slots ws' lv (pc + 1) st) : zW cn p l e R s m args below meth c Q D cl A nL cells slots ws lv pc (.int x :: .int i :: .ref a :: st) :=
  by
  subst hk
  have hv : v = vp_nar .int x := by unfold vp_nar; rw [hv]
  subst hv
  subst hw
  exact fun H locs ls hP hD hS hl => va_iast C.1 C.2.1 C.2.2.2.2.2.1 hP hD hS.1 q0 t0 ha ht hin hdg (fun H1 locs1 hP1 hD1 hS1 => kk H1 locs1 ls hP1 hD1 ⟨hS1, hS1.1⟩ hl)
theorem z_zast (C : zK sa D cl tys A p s m args meth c cc nL own Ts ret) {a : Nat} (q0 t0 : Nat) {cA : ClassId} {n : Nat} {f : Nat → Int32} (ha : ws[q0]? = some (a, .inl (cA, n, .inl f))) (ht : tys[t0]? = some (cA, .boolean)) {i x : Int32} (k : Nat) (hk : i.toNatClampNeg = k) (hin : vp_in i n) (v : Int32) (hv : narrow .boolean (.int x) = .int v) (hdg : decode cc pc = .ok (.bastore, 1)) (ws' : va_W) (hw : ws.set q0 (a, .inl (cA, n, .inl (upd f k v))) = ws') (kk : zW 0 p l e R s m args below meth c Q D cl A nL cells slots ws' lv (pc + 1) st) : zW cn p l e R s m args below meth c Q D cl A nL cells slots ws lv pc (.int x :: .int i :: .ref a :: st) :=
  by
  subst hk
  have hv : v = vp_nar .boolean x := by unfold vp_nar; rw [hv]
  subst hv
  subst hw
  exact fun H locs ls hP hD hS hl => va_zast C.1 C.2.1 C.2.2.2.2.2.1 hP hD hS.1 q0 t0 ha ht hin hdg (fun H1 locs1 hP1 hD1 hS1 => kk H1 locs1 ls hP1 hD1 ⟨hS1, hS1.1⟩ hl)
theorem z_last (C : zK sa D cl tys A p s m args meth c cc nL own Ts ret) {a : Nat} (q0 t0 : Nat) {cA : ClassId} {n : Nat} {f : Nat → Int64} (ha : ws[q0]? = some (a, .inl (cA, n, .inr (.inl f)))) (ht : tys[t0]? = some (cA, .long)) {i : Int32} {x : Int64} (k : Nat) (hk : i.toNatClampNeg = k) (hin : vp_in i n) (hdg : decode cc pc = .ok (.lastore, 1)) (ws' : va_W) (hw : ws.set q0 (a, .inl (cA, n, .inr (.inl (vp_updL f k x)))) = ws') (kk : zW 0 p l e R s m args below meth c Q D cl A nL cells slots ws' lv (pc + 1) st) : zW cn p l e R s m args below meth c Q D cl A nL cells slots ws lv pc (.long x :: .int i :: .ref a :: st) :=
  by
  subst hk
  subst hw
  exact fun H locs ls hP hD hS hl => va_last C.1 C.2.1 C.2.2.2.2.2.1 hP hD hS.1 q0 t0 ha ht hin hdg (fun H1 locs1 hP1 hD1 hS1 => kk H1 locs1 ls hP1 hD1 ⟨hS1, hS1.1⟩ hl)
theorem z_mmin (C : zK sa D cl tys A p s m args meth c cc nL own Ts ret) {index : Nat} {x y v : Int32} (h1 : Cond.methodLink own index Lib.Math.min.name ∈ Ts) (h2 : Cond.static Lib.Math.min.name ∈ Ts) (h3 : Cond.initialized "java/lang/Math" ∈ Ts) (h4 : Cond.code Lib.Math.min.name Lib.Math.min.code 2 (some .int) ∈ Ts) (hR : 1 ≤ R.frames ∧ (st.map fun v => v.category).sum + 13 ≤ R.locals ∧ cells ≤ R.cells ∧ slots ≤ R.slots) (hdg : decode cc pc = .ok (.invokestatic index, 3)) (hv : (if y < x then y else x) = v) (kk : zW cn p l e R s m args below meth c Q D cl A nL cells slots ws lv (pc + 3) (.int v :: st)) : zW cn p l e R s m args below meth c Q D cl A nL cells slots ws lv pc (.int y :: .int x :: st) :=
  fun H locs ls hP hD hS hl => va_mmin C.1 C.2.1 (by rw [C.2.2.1]; exact hl.1.symm) C.2.2.2.1 (C.2.2.2.2.1 _ h1) (C.2.2.2.2.1 _ h2) (C.2.2.2.2.1 _ h3) (C.2.2.2.2.1 _ h4) hR.1 hR.2.1 hR.2.2.1 hR.2.2.2 hdg (by rw [hv]; exact kk H locs ls hP hD hS hl)
theorem z_mmax (C : zK sa D cl tys A p s m args meth c cc nL own Ts ret) {index : Nat} {x y v : Int32} (h1 : Cond.methodLink own index Lib.Math.max.name ∈ Ts) (h2 : Cond.static Lib.Math.max.name ∈ Ts) (h3 : Cond.initialized "java/lang/Math" ∈ Ts) (h4 : Cond.code Lib.Math.max.name Lib.Math.max.code 2 (some .int) ∈ Ts) (hR : 1 ≤ R.frames ∧ (st.map fun v => v.category).sum + 13 ≤ R.locals ∧ cells ≤ R.cells ∧ slots ≤ R.slots) (hdg : decode cc pc = .ok (.invokestatic index, 3)) (hv : (if x < y then y else x) = v) (kk : zW cn p l e R s m args below meth c Q D cl A nL cells slots ws lv (pc + 3) (.int v :: st)) : zW cn p l e R s m args below meth c Q D cl A nL cells slots ws lv pc (.int y :: .int x :: st) :=
  fun H locs ls hP hD hS hl => va_mmax C.1 C.2.1 (by rw [C.2.2.1]; exact hl.1.symm) C.2.2.2.1 (C.2.2.2.2.1 _ h1) (C.2.2.2.2.1 _ h2) (C.2.2.2.2.1 _ h3) (C.2.2.2.2.1 _ h4) hR.1 hR.2.1 hR.2.2.1 hR.2.2.2 hdg (by rw [hv]; exact kk H locs ls hP hD hS hl)
theorem z_widen {k n : Nat} (h1 : cells ≤ k) (h2 : slots ≤ n) (kk : zW cn p l e R s m args below meth c Q D cl A nL k n ws lv pc st) : zW cn p l e R s m args below meth c Q D cl A nL cells slots ws lv pc st :=
  fun H locs ls hP hD hS hl => W.widen h1 h2 (kk H locs ls hP hD hS hl)
theorem z_perm (ws' : va_W) (ks : List Nat) (hks : ks.map (fun i => ws[i]?) = ws'.map some) (hnk : va_nd ks = true) (kk : zW cn p l e R s m args below meth c Q D cl A nL cells slots ws' lv pc st) : zW cn p l e R s m args below meth c Q D cl A nL cells slots ws lv pc st :=
  fun H locs ls hP hD hS hl => kk H locs ls (hP.sub ks (zfm hks)) (hD.sub ks hnk hks) hS hl
theorem z_lv (lv' : List (Nat × Value)) (ks : List Nat) (hks : lv_pick lv ks = lv') (kk : zW cn p l e R s m args below meth c Q D cl A nL cells slots ws lv' pc st) : zW cn p l e R s m args below meth c Q D cl A nL cells slots ws lv pc st :=
  fun H locs ls hP hD hS hl => kk H locs ls hP hD hS (lv_sub hl ks hks)
theorem z_eq {pc' : Nat} (h : pc = pc') (kk : zW cn p l e R s m args below meth c Q D cl A nL cells slots ws lv pc' st) : zW cn p l e R s m args below meth c Q D cl A nL cells slots ws lv pc st := h ▸ kk
/-- how a method starts: its arguments, its world, and what zG says -/
def zPc (sa : Nat → Nat) (D : va_G) (cl : List vw_C) (tys : List (ClassId × FieldType)) (av : List Value) (wc : va_W) (sz : Nat) : Array Value → State → Prop := va_Pc av (fun U => U.heap.size = sz ∧ va_P D cl wc U.heap ∧ va_K D cl tys U ∧ va_D (fun _ => True) wc ∧ zG sa (va_A wc sz) U U.heap)
def zB (D : va_G) (cl : List vw_C) (tys : List (ClassId × FieldType)) (wc : va_W) (sz : Nat) (w1 : va_W) (t : State) : Prop := va_P D cl w1 t.heap ∧ va_K D cl tys t ∧ va_D (va_A wc sz) w1
/-- returns an int (or a boolean) -/
def zMi {T : Type} (sa : Nat → Nat) (D : va_G) (cl : List vw_C) (tys : List (ClassId × FieldType)) (l : Launch) (y : MethodName) (wsy : List Cond) (rm : Room) (av : List Value) (wc : va_W) (post : Int32 → T → Prop) (w1 : T → va_W) (mc ms : Nat) : Prop :=
  ∀ sz : Nat, Met l y wsy rm (zPc sa D cl tys av wc sz) (va_Qi post (fun u t => zB D cl tys wc sz (w1 u) t) (va_A wc sz)) mc ms (va_A wc sz)
/-- returns a long -/
def zMl {T : Type} (sa : Nat → Nat) (D : va_G) (cl : List vw_C) (tys : List (ClassId × FieldType)) (l : Launch) (y : MethodName) (wsy : List Cond) (rm : Room) (av : List Value) (wc : va_W) (post : Int64 → T → Prop) (w1 : T → va_W) (mc ms : Nat) : Prop :=
  ∀ sz : Nat, Met l y wsy rm (zPc sa D cl tys av wc sz) (va_Ql post (fun u t => zB D cl tys wc sz (w1 u) t) (va_A wc sz)) mc ms (va_A wc sz)
/-- returns an int, and has made k cells or more -/
def zNi {T : Type} (k : Nat) (sa : Nat → Nat) (D : va_G) (cl : List vw_C) (tys : List (ClassId × FieldType)) (l : Launch) (y : MethodName) (wsy : List Cond) (rm : Room) (av : List Value) (wc : va_W) (post : Int32 → T → Prop) (w1 : T → va_W) (mc ms : Nat) : Prop :=
  ∀ sz : Nat, Met l y wsy rm (zPc sa D cl tys av wc sz) (va_Qi post (fun u t => zB D cl tys wc sz (w1 u) t ∧ sz + k ≤ t.heap.size) (va_A wc sz)) mc ms (va_A wc sz)
/-- returns nothing -/
def zMv {T : Type} (sa : Nat → Nat) (D : va_G) (cl : List vw_C) (tys : List (ClassId × FieldType)) (l : Launch) (y : MethodName) (wsy : List Cond) (rm : Room) (av : List Value) (wc : va_W) (post : T → Prop) (w1 : T → va_W) (mc ms : Nat) : Prop :=
  ∀ sz : Nat, Met l y wsy rm (zPc sa D cl tys av wc sz) (va_Qv post (fun u t => zB D cl tys wc sz (w1 u) t) (va_A wc sz)) mc ms (va_A wc sz)
/-- throws an E, the world as it was -/
def zXC (D : va_G) (cl : List vw_C) (tys : List (ClassId × FieldType)) (E : String) (wc : va_W) (sz : Nat) : String → State → State → Prop := vx_X (S := Unit) (fun _ => True) (fun E1 _ t => E1 = E ∧ zB D cl tys wc sz wc t ∧ sz + 1 ≤ t.heap.size) (va_A wc sz)
def zX (sa : Nat → Nat) (D : va_G) (cl : List vw_C) (tys : List (ClassId × FieldType)) (l : Launch) (y : MethodName) (wsy : List Cond) (rm : Room) (av : List Value) (wc : va_W) (E : String) (mc ms : Nat) : Prop :=
  ∀ sz : Nat, vx_Met l y wsy rm (zPc sa D cl tys av wc sz) (fun _ _ _ _ => False) (zXC D cl tys E wc sz) mc ms (va_A wc sz)
theorem zPc.blind {sa : Nat → Nat} {D : va_G} {cl : List vw_C} {tys : List (ClassId × FieldType)} {av : List Value} {wc : va_W} {sz : Nat} : FrameBlind (zPc sa D cl tys av wc sz) := fun a U g mk q => by
  obtain ⟨q0, q1, qP, qK, qD, qG⟩ := q
  exact ⟨q0, q1, qP, va_K.moved (u := U) (U := U.calling g mk a) (Vm.Alike.refl U.vm) qK, qD, zG.go (U := U.calling g mk a) (State.WarmedH.refl U) qG (fun _ _ _ => rfl) (fun _ h => h)⟩
theorem zPc.at_ (C : zK sa D cl tys A p s m args meth c cc nL own Ts ret) {H : Heap} {locs : List Loc} {av : List Value} {wc : va_W} (hP : va_P D cl wc H) (hD : va_D A wc) (hS : va_S A s.heap H locs) : ∀ U : State, U.heap = H → s.WarmedH U.vm → zPc sa D cl tys av wc H.size av.toArray U := by
  intro U hU hW
  subst hU
  refine ⟨rfl, rfl, hP, va_K.moved hW.alike C.2.2.2.2.2.1, hD.weaken (fun _ _ _ _ => trivial), zG.go hW C.2.2.2.2.2.2.2.1 hS.2.1 (fun q h => ?_)⟩
  rcases h with ⟨k, e, h⟩ | h
  · exact hD.2 k (q, e) h
  · exact C.2.2.2.2.2.2.1 q (Nat.le_trans hS.1 h)
theorem zPc.free (C : zK sa D cl tys A p s m args meth c cc nL own Ts ret) {H : Heap} {locs : List Loc} {wc : va_W} (hD : va_D A wc) (hS : va_S A s.heap H locs) : ∀ q : Nat, va_A wc H.size q → A q := by
  intro q h
  rcases h with ⟨k, e, h⟩ | h
  · exact hD.2 k (q, e) h
  · exact C.2.2.2.2.2.2.1 q (Nat.le_trans hS.1 h)
theorem z_callVi (C : zK sa D cl tys A p s m args meth c cc nL own Ts ret) {T : Type} {y : MethodName} {wsy : List Cond} {rm : Room} {bytes : ByteArray} {maxL mc ms n index : Nat} {ret9 : Option FieldType} {Cn : String} {a : Nat} {As : List Value} {wc : va_W} {post : Int32 → T → Prop} {w1 : T → va_W} {ws' : T → va_W} (hM : zMi sa D cl tys l y wsy rm (.ref a :: As) wc post w1 mc ms) (cw : CallW R s args own Cn index y bytes maxL ret9 wsy rm mc ms n) (q0 : Nat) {ci : Nat} {fs : List Value} {cq : vw_C} (he : ws[q0]? = some (a, .inr (ci, fs))) (hcl : cl[ci]? = some cq) (hcq : cq.1 = Cn) (hsub : ∀ u, zSub ws wc (w1 u) (ws' u)) (hex : zIn ws wc) (hn9 : As.length = n) (hst : (rest.map fun v => v.category).sum ≤ 8) (hf : cells + mc ≤ R.cells ∧ slots + ms ≤ R.slots) (hdg : decode cc pc = .ok (.invokevirtual index, 3)) (kk : ∀ (r : Int32) (u : T), post r u → zW cn p l e R s m args below meth c Q D cl A nL (cells + mc) (slots + ms) (ws' u) lv (pc + 3) (.int r :: rest)) : zW cn p l e R s m args below meth c Q D cl A nL cells slots ws lv pc (As.reverse ++ .ref a :: rest) :=
  by
  intro H locs ls hP hD hS hl
  have hsub0 := hex
  have hF : ∀ q : Nat, va_A wc H.size q → A q := zPc.free C (hsub0.2 A hD) hS.1
  refine va_calli (va_runV (As := As) (rest := rest) ⟨C.1, C.2.1, C.2.2.1, C.2.2.2.1, C.2.2.2.2.1⟩ (hM H.size) cw ⟨zPc.blind, (by rw [← hcq]; exact va_recv C.2.2.2.2.2.1 hP hcl he), zPc.at_ C (hsub0.1 D cl H hP) (hsub0.2 A hD) hS.1⟩ rfl hn9 hl.1 rfl (lv_room hst) hdg hf) hS.1 (fun q _ h => hF q h) hF (fun r u t H1 locs1 ht hvm hw hB hz1 hk1 hS1 => ?_)
  obtain ⟨hP1, hK1, hD1⟩ := hB
  rw [ht] at hP1
  obtain ⟨g1, g2⟩ := (hsub u).2.2 D cl A H H1 hP hD hF hk1 hP1 hD1
  exact kk r u hw H1 locs1 ls g1 g2 ⟨hS1, (Nat.le_trans hS.2 hz1)⟩ hl
theorem z_callVv (C : zK sa D cl tys A p s m args meth c cc nL own Ts ret) {T : Type} {y : MethodName} {wsy : List Cond} {rm : Room} {bytes : ByteArray} {maxL mc ms n index : Nat} {ret9 : Option FieldType} {Cn : String} {a : Nat} {As : List Value} {wc : va_W} {post : T → Prop} {w1 : T → va_W} {ws' : T → va_W} (hM : zMv sa D cl tys l y wsy rm (.ref a :: As) wc post w1 mc ms) (cw : CallW R s args own Cn index y bytes maxL ret9 wsy rm mc ms n) (q0 : Nat) {ci : Nat} {fs : List Value} {cq : vw_C} (he : ws[q0]? = some (a, .inr (ci, fs))) (hcl : cl[ci]? = some cq) (hcq : cq.1 = Cn) (hsub : ∀ u, zSub ws wc (w1 u) (ws' u)) (hex : zIn ws wc) (hn9 : As.length = n) (hst : (rest.map fun v => v.category).sum ≤ 8) (hf : cells + mc ≤ R.cells ∧ slots + ms ≤ R.slots) (hdg : decode cc pc = .ok (.invokevirtual index, 3)) (kk : ∀ (u : T), post u → zW cn p l e R s m args below meth c Q D cl A nL (cells + mc) (slots + ms) (ws' u) lv (pc + 3) rest) : zW cn p l e R s m args below meth c Q D cl A nL cells slots ws lv pc (As.reverse ++ .ref a :: rest) :=
  by
  intro H locs ls hP hD hS hl
  have hsub0 := hex
  have hF : ∀ q : Nat, va_A wc H.size q → A q := zPc.free C (hsub0.2 A hD) hS.1
  refine va_callv (va_runV (As := As) (rest := rest) ⟨C.1, C.2.1, C.2.2.1, C.2.2.2.1, C.2.2.2.2.1⟩ (hM H.size) cw ⟨zPc.blind, (by rw [← hcq]; exact va_recv C.2.2.2.2.2.1 hP hcl he), zPc.at_ C (hsub0.1 D cl H hP) (hsub0.2 A hD) hS.1⟩ rfl hn9 hl.1 rfl (lv_room hst) hdg hf) hS.1 (fun q _ h => hF q h) hF (fun u t H1 locs1 ht hvm hw hB hz1 hk1 hS1 => ?_)
  obtain ⟨hP1, hK1, hD1⟩ := hB
  rw [ht] at hP1
  obtain ⟨g1, g2⟩ := (hsub u).2.2 D cl A H H1 hP hD hF hk1 hP1 hD1
  exact kk u hw H1 locs1 ls g1 g2 ⟨hS1, (Nat.le_trans hS.2 hz1)⟩ hl
theorem z_callSi (C : zK sa D cl tys A p s m args meth c cc nL own Ts ret) {T : Type} {y : MethodName} {wsy : List Cond} {rm : Room} {bytes : ByteArray} {maxL mc ms n index : Nat} {ret9 : Option FieldType} {As : List Value} {wc : va_W} {post : Int32 → T → Prop} {w1 : T → va_W} {ws' : T → va_W} (hM : zMi sa D cl tys l y wsy rm As wc post w1 mc ms) (cw : CallB R s args own index y bytes maxL ret9 wsy rm mc ms n ∧ (Cond.static y).before args s = true) (hsub : ∀ u, zSub ws wc (w1 u) (ws' u)) (hex : zIn ws wc) (hn9 : As.length = n) (hst : (rest.map fun v => v.category).sum ≤ 8) (hf : cells + mc ≤ R.cells ∧ slots + ms ≤ R.slots) (hdg : decode cc pc = .ok (.invokestatic index, 3)) (kk : ∀ (r : Int32) (u : T), post r u → zW cn p l e R s m args below meth c Q D cl A nL (cells + mc) (slots + ms) (ws' u) lv (pc + 3) (.int r :: rest)) : zW cn p l e R s m args below meth c Q D cl A nL cells slots ws lv pc (As.reverse ++ rest) :=
  by
  intro H locs ls hP hD hS hl
  have hsub0 := hex
  have hF : ∀ q : Nat, va_A wc H.size q → A q := zPc.free C (hsub0.2 A hD) hS.1
  refine va_calli (va_runS (As := As) (rest := rest) ⟨C.1, C.2.1, C.2.2.1, C.2.2.2.1, C.2.2.2.2.1⟩ (hM H.size) cw ⟨zPc.blind, zPc.at_ C (hsub0.1 D cl H hP) (hsub0.2 A hD) hS.1⟩ rfl hn9 hl.1 rfl (lv_room hst) hdg hf) hS.1 (fun q _ h => hF q h) hF (fun r u t H1 locs1 ht hvm hw hB hz1 hk1 hS1 => ?_)
  obtain ⟨hP1, hK1, hD1⟩ := hB
  rw [ht] at hP1
  obtain ⟨g1, g2⟩ := (hsub u).2.2 D cl A H H1 hP hD hF hk1 hP1 hD1
  exact kk r u hw H1 locs1 ls g1 g2 ⟨hS1, (Nat.le_trans hS.2 hz1)⟩ hl
theorem z_callSv (C : zK sa D cl tys A p s m args meth c cc nL own Ts ret) {T : Type} {y : MethodName} {wsy : List Cond} {rm : Room} {bytes : ByteArray} {maxL mc ms n index : Nat} {ret9 : Option FieldType} {As : List Value} {wc : va_W} {post : T → Prop} {w1 : T → va_W} {ws' : T → va_W} (hM : zMv sa D cl tys l y wsy rm As wc post w1 mc ms) (cw : CallB R s args own index y bytes maxL ret9 wsy rm mc ms n ∧ (Cond.static y).before args s = true) (hsub : ∀ u, zSub ws wc (w1 u) (ws' u)) (hex : zIn ws wc) (hn9 : As.length = n) (hst : (rest.map fun v => v.category).sum ≤ 8) (hf : cells + mc ≤ R.cells ∧ slots + ms ≤ R.slots) (hdg : decode cc pc = .ok (.invokestatic index, 3)) (kk : ∀ (u : T), post u → zW cn p l e R s m args below meth c Q D cl A nL (cells + mc) (slots + ms) (ws' u) lv (pc + 3) rest) : zW cn p l e R s m args below meth c Q D cl A nL cells slots ws lv pc (As.reverse ++ rest) :=
  by
  intro H locs ls hP hD hS hl
  have hsub0 := hex
  have hF : ∀ q : Nat, va_A wc H.size q → A q := zPc.free C (hsub0.2 A hD) hS.1
  refine va_callv (va_runS (As := As) (rest := rest) ⟨C.1, C.2.1, C.2.2.1, C.2.2.2.1, C.2.2.2.2.1⟩ (hM H.size) cw ⟨zPc.blind, zPc.at_ C (hsub0.1 D cl H hP) (hsub0.2 A hD) hS.1⟩ rfl hn9 hl.1 rfl (lv_room hst) hdg hf) hS.1 (fun q _ h => hF q h) hF (fun u t H1 locs1 ht hvm hw hB hz1 hk1 hS1 => ?_)
  obtain ⟨hP1, hK1, hD1⟩ := hB
  rw [ht] at hP1
  obtain ⟨g1, g2⟩ := (hsub u).2.2 D cl A H H1 hP hD hF hk1 hP1 hD1
  exact kk u hw H1 locs1 ls g1 g2 ⟨hS1, (Nat.le_trans hS.2 hz1)⟩ hl
theorem z_callSNi (C : zK sa D cl tys A p s m args meth c cc nL own Ts ret) {T : Type} {y : MethodName} {wsy : List Cond} {rm : Room} {bytes : ByteArray} {maxL mc ms n index : Nat} {ret9 : Option FieldType} {As : List Value} {wc : va_W} {post : Int32 → T → Prop} {w1 : T → va_W} {ws' : T → va_W} (hM : zMi sa D cl tys l y wsy rm As wc post w1 mc ms) (cw : va_CN R s args own index y RX4 bytes maxL ret9 wsy rm mc ms n ∧ (Cond.static y).before args s = true ∧ True) (hsub : ∀ u, zSub ws wc (w1 u) (ws' u)) (hex : zIn ws wc) (hn9 : As.length = n) (hst : (rest.map fun v => v.category).sum ≤ 8) (hf : cells + mc ≤ R.cells ∧ slots + ms ≤ R.slots) (hdg : decode cc pc = .ok (.invokestatic index, 3)) (kk : ∀ (r : Int32) (u : T), post r u → zW cn p l e R s m args below meth c Q D cl A nL (cells + mc) (slots + ms) (ws' u) lv (pc + 3) (.int r :: rest)) : zW cn p l e R s m args below meth c Q D cl A nL cells slots ws lv pc (As.reverse ++ rest) :=
  by
  intro H locs ls hP hD hS hl
  have hsub0 := hex
  have hF : ∀ q : Nat, va_A wc H.size q → A q := zPc.free C (hsub0.2 A hD) hS.1
  refine va_calli (va_runSN (As := As) (rest := rest) ⟨C.1, C.2.1, C.2.2.1, C.2.2.2.1, C.2.2.2.2.1⟩ (hM H.size) cw ⟨zPc.blind, zPc.at_ C (hsub0.1 D cl H hP) (hsub0.2 A hD) hS.1⟩ rfl hn9 hl.1 rfl (lv_room hst) hdg hf) hS.1 (fun q _ h => hF q h) hF (fun r u t H1 locs1 ht hvm hw hB hz1 hk1 hS1 => ?_)
  obtain ⟨hP1, hK1, hD1⟩ := hB
  rw [ht] at hP1
  obtain ⟨g1, g2⟩ := (hsub u).2.2 D cl A H H1 hP hD hF hk1 hP1 hD1
  exact kk r u hw H1 locs1 ls g1 g2 ⟨hS1, (Nat.le_trans hS.2 hz1)⟩ hl
theorem z_callIv (C : zK sa D cl tys A p s m args meth c cc nL own Ts ret) {T : Type} {y : MethodName} {wsy : List Cond} {rm : Room} {bytes : ByteArray} {maxL mc ms n index : Nat} {ret9 : Option FieldType} {a : Nat} {As : List Value} {wc : va_W} {post : T → Prop} {w1 : T → va_W} {ws' : T → va_W} (hM : zMv sa D cl tys l y wsy rm (.ref a :: As) wc post w1 mc ms) (cw : CallB R s args own index y bytes maxL none wsy rm mc ms n ∧ y.name = "<init>" ∧ (Cond.instanceMethod y).before args s = true) (hsub : ∀ u, zSub ws wc (w1 u) (ws' u)) (hex : zIn ws wc) (hn9 : As.length = n) (hst : (rest.map fun v => v.category).sum ≤ 8) (hf : cells + mc ≤ R.cells ∧ slots + ms ≤ R.slots) (hdg : decode cc pc = .ok (.invokespecial index, 3)) (kk : ∀ (u : T), post u → zW cn p l e R s m args below meth c Q D cl A nL (cells + mc) (slots + ms) (ws' u) lv (pc + 3) rest) : zW cn p l e R s m args below meth c Q D cl A nL cells slots ws lv pc (As.reverse ++ .ref a :: rest) :=
  by
  intro H locs ls hP hD hS hl
  have hsub0 := hex
  have hF : ∀ q : Nat, va_A wc H.size q → A q := zPc.free C (hsub0.2 A hD) hS.1
  refine va_callv (va_runI (As := As) (rest := rest) ⟨C.1, C.2.1, C.2.2.1, C.2.2.2.1, C.2.2.2.2.1⟩ (hM H.size) cw ⟨zPc.blind, zPc.at_ C (hsub0.1 D cl H hP) (hsub0.2 A hD) hS.1⟩ rfl hn9 hl.1 rfl (lv_room hst) hdg hf) hS.1 (fun q _ h => hF q h) hF (fun u t H1 locs1 ht hvm hw hB hz1 hk1 hS1 => ?_)
  obtain ⟨hP1, hK1, hD1⟩ := hB
  rw [ht] at hP1
  obtain ⟨g1, g2⟩ := (hsub u).2.2 D cl A H H1 hP hD hF hk1 hP1 hD1
  exact kk u hw H1 locs1 ls g1 g2 ⟨hS1, (Nat.le_trans hS.2 hz1)⟩ hl
theorem z_callSl (C : zK sa D cl tys A p s m args meth c cc nL own Ts ret) {T : Type} {y : MethodName} {wsy : List Cond} {rm : Room} {bytes : ByteArray} {maxL mc ms n index : Nat} {ret9 : Option FieldType} {As : List Value} {wc : va_W} {post : Int64 → T → Prop} {w1 : T → va_W} {ws' : T → va_W} (hM : zMl sa D cl tys l y wsy rm As wc post w1 mc ms) (cw : CallB R s args own index y bytes maxL ret9 wsy rm mc ms n ∧ (Cond.static y).before args s = true) (hsub : ∀ u, zSub ws wc (w1 u) (ws' u)) (hex : zIn ws wc) (hn9 : As.length = n) (hst : (rest.map fun v => v.category).sum ≤ 8) (hf : cells + mc ≤ R.cells ∧ slots + ms ≤ R.slots) (hdg : decode cc pc = .ok (.invokestatic index, 3)) (kk : ∀ (r : Int64) (u : T), post r u → zW cn p l e R s m args below meth c Q D cl A nL (cells + mc) (slots + ms) (ws' u) lv (pc + 3) (.long r :: rest)) : zW cn p l e R s m args below meth c Q D cl A nL cells slots ws lv pc (As.reverse ++ rest) :=
  by
  intro H locs ls hP hD hS hl
  have hsub0 := hex
  have hF : ∀ q : Nat, va_A wc H.size q → A q := zPc.free C (hsub0.2 A hD) hS.1
  refine va_calll (va_runS (As := As) (rest := rest) ⟨C.1, C.2.1, C.2.2.1, C.2.2.2.1, C.2.2.2.2.1⟩ (hM H.size) cw ⟨zPc.blind, zPc.at_ C (hsub0.1 D cl H hP) (hsub0.2 A hD) hS.1⟩ rfl hn9 hl.1 rfl (lv_room hst) hdg hf) hS.1 (fun q _ h => hF q h) hF (fun r u t H1 locs1 ht hvm hw hB hz1 hk1 hS1 => ?_)
  obtain ⟨hP1, hK1, hD1⟩ := hB
  rw [ht] at hP1
  obtain ⟨g1, g2⟩ := (hsub u).2.2 D cl A H H1 hP hD hF hk1 hP1 hD1
  exact kk r u hw H1 locs1 ls g1 g2 ⟨hS1, (Nat.le_trans hS.2 hz1)⟩ hl
theorem z_callSn (C : zK sa D cl tys A p s m args meth c cc nL own Ts ret) {T : Type} {y : MethodName} {wsy : List Cond} {rm : Room} {bytes : ByteArray} {maxL mc ms n index : Nat} {ret9 : Option FieldType} {As : List Value} {wc : va_W} {post : Int32 → T → Prop} {w1 : T → va_W} {ws' : T → va_W} {kc : Nat} (hM : zNi kc sa D cl tys l y wsy rm As wc post w1 mc ms) (cw : CallB R s args own index y bytes maxL ret9 wsy rm mc ms n ∧ (Cond.static y).before args s = true) (hsub : ∀ u, zSub ws wc (w1 u) (ws' u)) (hex : zIn ws wc) (hn9 : As.length = n) (hst : (rest.map fun v => v.category).sum ≤ 8) (hf : cells + mc ≤ R.cells ∧ slots + ms ≤ R.slots) (hdg : decode cc pc = .ok (.invokestatic index, 3)) (kk : ∀ (r : Int32) (u : T), post r u → zW (cn + kc) p l e R s m args below meth c Q D cl A nL (cells + mc) (slots + ms) (ws' u) lv (pc + 3) (.int r :: rest)) : zW cn p l e R s m args below meth c Q D cl A nL cells slots ws lv pc (As.reverse ++ rest) :=
  by
  intro H locs ls hP hD hS hl
  have hsub0 := hex
  have hF : ∀ q : Nat, va_A wc H.size q → A q := zPc.free C (hsub0.2 A hD) hS.1
  refine va_calli (va_runS (As := As) (rest := rest) ⟨C.1, C.2.1, C.2.2.1, C.2.2.2.1, C.2.2.2.2.1⟩ (hM H.size) cw ⟨zPc.blind, zPc.at_ C (hsub0.1 D cl H hP) (hsub0.2 A hD) hS.1⟩ rfl hn9 hl.1 rfl (lv_room hst) hdg hf) hS.1 (fun q _ h => hF q h) hF (fun r u t H1 locs1 ht hvm hw hB hz1 hk1 hS1 => ?_)
  obtain ⟨⟨hP1, hK1, hD1⟩, hcn⟩ := hB
  rw [ht] at hP1
  rw [ht] at hcn
  obtain ⟨g1, g2⟩ := (hsub u).2.2 D cl A H H1 hP hD hF hk1 hP1 hD1
  exact kk r u hw H1 locs1 ls g1 g2 ⟨hS1, (by have h8 := hS.2; omega)⟩ hl
theorem z_callSWi (C : zK sa D cl tys A p s m args meth c cc nL own Ts ret) {T : Type} {y : MethodName} {wsy : List Cond} {rm : Room} {bytes : ByteArray} {maxL mc ms n index : Nat} {ret9 : Option FieldType} {As : List Value} {wc : va_W} {post : Int32 → T → Prop} {w1 : T → va_W} {ws' : T → va_W} {hh : List (Nat × Nat × Nat × Nat)} (hM : zMi sa D cl tys l y wsy rm As wc post w1 mc ms) (cw : vx_CSW R s args own index y bytes maxL ret9 hh wsy rm mc ms n) (hsub : ∀ u, zSub ws wc (w1 u) (ws' u)) (hex : zIn ws wc) (hn9 : As.length = n) (hst : (rest.map fun v => v.category).sum ≤ 8) (hf : cells + mc ≤ R.cells ∧ slots + ms ≤ R.slots) (hdg : decode cc pc = .ok (.invokestatic index, 3)) (kk : ∀ (r : Int32) (u : T), post r u → zW cn p l e R s m args below meth c Q D cl A nL (cells + mc) (slots + ms) (ws' u) lv (pc + 3) (.int r :: rest)) : zW cn p l e R s m args below meth c Q D cl A nL cells slots ws lv pc (As.reverse ++ rest) :=
  by
  intro H locs ls hP hD hS hl
  have hsub0 := hex
  have hF : ∀ q : Nat, va_A wc H.size q → A q := zPc.free C (hsub0.2 A hD) hS.1
  refine va_calli (vx_runSW (As := As) (rest := rest) ⟨C.1, C.2.1, C.2.2.1, C.2.2.2.1, C.2.2.2.2.1⟩ (hM H.size) cw ⟨zPc.blind, zPc.at_ C (hsub0.1 D cl H hP) (hsub0.2 A hD) hS.1⟩ rfl hn9 hl.1 rfl (lv_room hst) hdg hf) hS.1 (fun q _ h => hF q h) hF (fun r u t H1 locs1 ht hvm hw hB hz1 hk1 hS1 => ?_)
  obtain ⟨hP1, hK1, hD1⟩ := hB
  rw [ht] at hP1
  obtain ⟨g1, g2⟩ := (hsub u).2.2 D cl A H H1 hP hD hF hk1 hP1 hD1
  exact kk r u hw H1 locs1 ls g1 g2 ⟨hS1, (Nat.le_trans hS.2 hz1)⟩ hl
theorem z_callSWn (C : zK sa D cl tys A p s m args meth c cc nL own Ts ret) {T : Type} {y : MethodName} {wsy : List Cond} {rm : Room} {bytes : ByteArray} {maxL mc ms n index : Nat} {ret9 : Option FieldType} {As : List Value} {wc : va_W} {post : Int32 → T → Prop} {w1 : T → va_W} {ws' : T → va_W} {hh : List (Nat × Nat × Nat × Nat)} {kc : Nat} (hM : zNi kc sa D cl tys l y wsy rm As wc post w1 mc ms) (cw : vx_CSW R s args own index y bytes maxL ret9 hh wsy rm mc ms n) (hsub : ∀ u, zSub ws wc (w1 u) (ws' u)) (hex : zIn ws wc) (hn9 : As.length = n) (hst : (rest.map fun v => v.category).sum ≤ 8) (hf : cells + mc ≤ R.cells ∧ slots + ms ≤ R.slots) (hdg : decode cc pc = .ok (.invokestatic index, 3)) (kk : ∀ (r : Int32) (u : T), post r u → zW (cn + kc) p l e R s m args below meth c Q D cl A nL (cells + mc) (slots + ms) (ws' u) lv (pc + 3) (.int r :: rest)) : zW cn p l e R s m args below meth c Q D cl A nL cells slots ws lv pc (As.reverse ++ rest) :=
  by
  intro H locs ls hP hD hS hl
  have hsub0 := hex
  have hF : ∀ q : Nat, va_A wc H.size q → A q := zPc.free C (hsub0.2 A hD) hS.1
  refine va_calli (vx_runSW (As := As) (rest := rest) ⟨C.1, C.2.1, C.2.2.1, C.2.2.2.1, C.2.2.2.2.1⟩ (hM H.size) cw ⟨zPc.blind, zPc.at_ C (hsub0.1 D cl H hP) (hsub0.2 A hD) hS.1⟩ rfl hn9 hl.1 rfl (lv_room hst) hdg hf) hS.1 (fun q _ h => hF q h) hF (fun r u t H1 locs1 ht hvm hw hB hz1 hk1 hS1 => ?_)
  obtain ⟨⟨hP1, hK1, hD1⟩, hcn⟩ := hB
  rw [ht] at hP1
  rw [ht] at hcn
  obtain ⟨g1, g2⟩ := (hsub u).2.2 D cl A H H1 hP hD hF hk1 hP1 hD1
  exact kk r u hw H1 locs1 ls g1 g2 ⟨hS1, (by have h8 := hS.2; omega)⟩ hl
end ZZ
end
section
/-! entries and ends of methods; throws and catches -/
section ZC
theorem zmet_ofWH {l : Launch} {y : MethodName} {ws ws' : List Cond} {rm : Room} {Pc : Array Value → State → Prop} {Qc : Array Value → State → Outcome → State → Prop} {mc ms : Nat} {free : Addr → Prop} {cc : ByteArray} {maxL : Nat} {ret : Option FieldType} {hh : List (Nat × Nat × Nat × Nat)}
    (hy : plainName y.cls = true) (hw : ws = Cond.codeWith y cc maxL ret hh :: ws')
    (body : ∀ p e s m args below meth c s₁, BodyLoose p l y (headSpec ws rm) cc maxL ret e s m args below meth c s₁ → c.maxLocals = maxL → Pc args s →
      W p l e (headSpec ws rm).room s m args below meth c s.heap [] 0 0 (MQ below Qc args s mc ms free) (entryFrame m args maxL)) : Met l y ws rm Pc Qc mc ms free := by
  refine MetFree.of_bodyS (code := cc) (maxLocals := maxL) (ret := ret) hy ?_ ?_
  · intro args s m h hn
    obtain ⟨m9, meth, c, hn9, h1, h2, h3, h4, -, h5, h6, -⟩ := Cond.codeWith_spec (atoms_spec (ws := ws) h _ (by rw [hw]; exact List.mem_cons_self))
    cases hn.symm.trans hn9
    exact ⟨meth, c, h1, h2, h3, h4, h5, h6⟩
  · intro p e s m args below meth c s₁ B hml hP _
    have hh0 : s₁.heap = s.heap := by rw [B.state]; rfl
    obtain ⟨t, a1, o, b1, b2, b3⟩ := body p e s m args below meth c s₁ B hml hP s₁ hh0 (Stand.of_body B)
    exact ⟨t, o, a1, b1, b2, ⟨b3.1, b3.2⟩⟩
section
variable {p : Program} {l : Launch} {e : Env} {R : Room} {s : State} {m : MethodId} {args : Array Value} {below : List Frame} {meth : Method} {c : Code} {H : Heap} {locs : List Loc} {cells slots : Nat} {Q : State → Prop}
variable {mc ms : Nat} {free : Addr → Prop} {A0 A1 : Nat → Prop} {H0 : Heap} {a : Array Value} {ls : Array Slot} {st0 rest : List Value}
variable {Qc : Array Value → State → Outcome → State → Prop} {XC : String → State → State → Prop}
/-- 'throw new E("text")': new; dup; ldc; invokespecial; athrow -/
theorem vx_throwS9 {cc : ByteArray} {pc : Nat} (hexec : p.tables.exec = Jvm.exec) (hb : c.code = cc) (hl : l.stackTraces = false) {own cls text : String} {names : List String} {ik is ic mc ms sa : Nat} {A : Nat → Prop}
    (hown : s.vm.findClass own = some m.cls) (hcls : Bundle.fit cls = true) (hnames : ∀ n ∈ names, Bundle.fit n = true)
    (hk : (Cond.classLink own ik cls).before args s = true) (hini : (Cond.initialized cls).before args s = true) (hstr : vk_R own is text sa s) (hat : ∀ w ∈ vx_atS own ic cls names, w.before args s = true)
    (hgood : ∀ w ∈ Cond.classLink own ik cls :: Cond.initialized cls :: vx_atS own ic cls names, vx_ot w = true)
    (hU : vx_Zq Bundle.tN "UNASSIGNED_STACK" Bundle.steD A s s.heap) (hN : vx_Zq Bundle.tN "SUPPRESSED_SENTINEL" Bundle.listD A s s.heap) (hS : va_S A s.heap H locs) (hsize : ls.size = c.maxLocals)
    (d0 : decode cc pc = .ok (.new ik, 3)) (d3 : decode cc (pc + 3) = .ok (.dup, 1)) (d4 : decode cc (pc + 4) = .ok (.ldc is, 2)) (d6 : decode cc (pc + 6) = .ok (.invokespecial ic, 3)) (d9 : decode cc (pc + 9) = .ok (.athrow, 1))
    (hout : ∀ x ∈ c.exceptionTable.toList, covers x (pc + 9) = false)
    (hRframes : names.length + 3 < R.frames) (hRlocals : (rest.map fun v => v.category).sum + (13 * (names.length + 1) + 43) ≤ R.locals) (hRcells : cells + 1 ≤ R.cells) (hRslots : slots + 6 ≤ R.slots) (hlocks : meth.locks = false)
    (hx : ∀ t : State, s.vm.Alike t.vm → H.size + 1 ≤ t.heap.size → (∀ q : Nat, q < H.size → t.heap[q]? = H[q]?) → XC cls s t)
    (hf : ∀ z ∈ locs, free z.base) (hc : cells + 1 ≤ mc) (hs : slots + 6 ≤ ms) :
    W p l e R s m args below meth c H locs cells slots (vx_MQ below Qc XC args s mc ms free) (F0 m pc ls rest) := by
  intro T hT X
  have htr : e.platform.stackTraces = false := (show e.platform.stackTraces = l.stackTraces by rw [X.admits.platform]).trans hl
  have Y := vx_rebase X (R' := { frames := R.frames, locals := R.locals, cells := 1, slots := 6 }) (Nat.le_refl _) (Nat.le_refl _) hRcells hRslots
  obtain ⟨s', hA⟩ : ∃ z, z = (T.setVm s.vm).setFrames (.invoking m args :: below) := ⟨_, rfl⟩
  rw [← hA] at Y
  have hvm : s'.vm = s.vm := by rw [hA]; rfl
  have hhp : s'.heap = H := by rw [hA]; exact hT
  have hW0 : s.WarmedH s'.vm := by rw [hvm]; exact State.WarmedH.refl s
  have hat' : ∀ w ∈ vx_atS own ic cls names, w.before args s' = true := fun w hw => vx_ot_at hW0 hvm.symm (hgood w (List.mem_cons_of_mem _ (List.mem_cons_of_mem _ hw))) (hat w hw)
  have hk' : (Cond.classLink own ik cls).before args s' = true := vx_ot_at hW0 hvm.symm (hgood _ List.mem_cons_self) hk
  have hini' : (Cond.initialized cls).before args s' = true := vx_ot_at hW0 hvm.symm (hgood _ (List.mem_cons_of_mem _ List.mem_cons_self)) hini
  have hU' : vx_Zq Bundle.tN "UNASSIGNED_STACK" Bundle.steD A s' s'.heap := by rw [hhp]; exact vx_Zq.moved hW0.alike (hU.kept hS.2.1)
  have hN' : vx_Zq Bundle.tN "SUPPRESSED_SENTINEL" Bundle.listD A s' s'.heap := by rw [hhp]; exact vx_Zq.moved hW0.alike (hN.kept hS.2.1)
  have h : ∀ w ∈ Bundle.ownAtoms own ic cls names, w.before args s' = true := vx_own hat' (vx_isRefq hU'.1) (vx_isRefq hN'.1) hU'.2.word hN'.2.word
  have hown' : s'.vm.findClass own = some m.cls := by rw [hvm]; exact hown
  have hins : (Cond.instantiable cls 6).before args s' = true := h _ (by simp [Bundle.ownAtoms])
  obtain ⟨vm₁, cX, kX, hfX, hkX, -, -, X₁, st1⟩ := Y.newCold hexec (own := own) (C := cls) (index := ik) (n := 6) hown' hk' hins hini'
    (g := F0 m pc ls rest) rfl (by rw [hb]; exact d0) (Nat.le_refl _) (Nat.le_refl _)
  generalize hT1 : (T.setVm vm₁).pushCell { cls := cX, slots := kX.instanceTypes.map defaultValue, vm := .none } = T1 at X₁ st1
  have hcat : (Value.ref T.heap.size).category = 1 := rfl
  have hcellA : T1.heap[T.heap.size]? = some (freshCell cX kX) := by rw [← hT1]; exact State.heap_pushCell_size _ _
  have d3' : decode c.code (pc + 3) = .ok (.dup, 1) := by rw [hb]; exact d3
  have d4' : decode c.code (pc + 4) = .ok (.ldc is, 2) := by rw [hb]; exact d4
  have hstr' : vk_R own is text sa s' := vk_R.warm hW0 hstr
  obtain ⟨U, hsteps, hrun, hend, hW, hsame, ce, hce, hO⟩ := X₁.ctorThrowS hexec htr (own := own) (cls := cls) (names := names) (ic := ic) hown' hcls hnames h (fun x hx => nomatch hx) hfX hkX hcellA (by rw [hhp, hT]; exact Nat.le_refl _) (msg := .ref sa) rfl
    (g := { method := m, pc := pc + 6, locals := ls, stack := .ref sa :: .ref T.heap.size :: .ref T.heap.size :: rest, locked := none }) rfl hsize rfl rfl (rest := rest) rfl
    (by rw [hb]; exact d6) (by rw [hb]; exact d9) hout hRframes (by simp only [List.map_cons, List.sum_cons, hcat]; omega) hlocks
  obtain ⟨f1, f2⟩ := vx_frame hsame
  rw [hhp] at f1 f2
  have hWs : s.WarmedH U.vm := State.WarmedH.trans hW0 hW
  have hcl : s.vm.findClass cls = some ce.cls := by
    have h9 := hO.cls
    rw [hvm] at h9
    exact h9
  have hall : s.sameButNew ({ U with vm := s.vm } : State) locs mc ms := by
    subst hA
    obtain ⟨e1, e2⟩ := hsame
    rw [State.setFrames_setFrames] at e1
    have h2 : (T.setVm s.vm).sameButNew ({ U with vm := s.vm } : State) [] (0 + 1) (0 + 6) := ⟨e1, e2⟩
    have h3 := X.same.trans h2
    rw [List.append_nil] at h3
    exact h3.mono hc hs
  refine ⟨U, ?_, .threw T.heap.size, hrun, hend, Or.inr ⟨T.heap.size, rfl, cls, ce, locs, hx U hWs.alike (by have h9 := (Array.getElem?_eq_some_iff.mp hce).1; rw [hT] at h9; exact h9) (fun q hq => f2 q hq (fun z hz => nomatch hz)), hce, hO.vm, hcl, hWs, hall, hf⟩⟩
  refine st1 _ ?_
  show Steps p.tables e below (T1.setTop { method := m, pc := pc + 3, locals := ls, stack := .ref T.heap.size :: rest, locked := none }) _
  jvm_step X₁.here [X₁.here.top, hexec, d3', Value.category]
  exact X₁.ldcString hexec (own := own) (text := text) (index := is) (a := sa) hown' hstr'.1 hstr'.2
    (g := { method := m, pc := pc + 4, locals := ls, stack := .ref T.heap.size :: .ref T.heap.size :: rest, locked := none }) rfl d4' _ hsteps
end
variable {p : Program} {l : Launch} {e : Env} {R : Room} {s : State} {m : MethodId} {args : Array Value} {below : List Frame} {meth : Method} {c : Code} {Q : State → Prop} {D : va_G} {cl : List vw_C} {A : Nat → Prop} {tys : List (ClassId × FieldType)} {cc : ByteArray} {nL : Nat} {own : String} {Ts : List Cond} {sa : Nat → Nat} {ret : Option FieldType}
variable {cn cells slots : Nat} {ws ws' : va_W} {lv lv' : List (Nat × Value)} {pc : Nat} {st rest : List Value}
def zQi {T : Type} (D : va_G) (cl : List vw_C) (tys : List (ClassId × FieldType)) (A : Nat → Prop) (post : Int32 → T → Prop) (w1 : T → va_W) : Array Value → State → Outcome → State → Prop := va_Qi post (fun u t => va_P D cl (w1 u) t.heap ∧ va_K D cl tys t ∧ va_D A (w1 u)) A
def zQv {T : Type} (D : va_G) (cl : List vw_C) (tys : List (ClassId × FieldType)) (A : Nat → Prop) (post : T → Prop) (w1 : T → va_W) : Array Value → State → Outcome → State → Prop := va_Qv post (fun u t => va_P D cl (w1 u) t.heap ∧ va_K D cl tys t ∧ va_D A (w1 u)) A
def zQl {T : Type} (D : va_G) (cl : List vw_C) (tys : List (ClassId × FieldType)) (A : Nat → Prop) (post : Int64 → T → Prop) (w1 : T → va_W) : Array Value → State → Outcome → State → Prop := va_Ql post (fun u t => va_P D cl (w1 u) t.heap ∧ va_K D cl tys t ∧ va_D A (w1 u)) A
def zQn {T : Type} (N : Nat) (D : va_G) (cl : List vw_C) (tys : List (ClassId × FieldType)) (A : Nat → Prop) (post : Int32 → T → Prop) (w1 : T → va_W) : Array Value → State → Outcome → State → Prop := va_Qi post (fun u t => (va_P D cl (w1 u) t.heap ∧ va_K D cl tys t ∧ va_D A (w1 u)) ∧ N ≤ t.heap.size) A
def zQx (N : Nat) (D : va_G) (cl : List vw_C) (tys : List (ClassId × FieldType)) (A : Nat → Prop) (E : String) (wc : va_W) : String → State → State → Prop := vx_X (S := Unit) (fun _ => True) (fun E1 _ t => E1 = E ∧ (va_P D cl wc t.heap ∧ va_K D cl tys t ∧ va_D A wc) ∧ N ≤ t.heap.size) A

theorem zMi.of {T : Type} {post : Int32 → T → Prop} {w1 : T → va_W} {y : MethodName} {wsy wsy' : List Cond} {rm : Room} {av : List Value} {wc : va_W} {mc ms : Nat} (hy : plainName y.cls = true) (hw : wsy = Cond.code y cc nL ret :: wsy') (lv0 : List (Nat × Value)) (hlv : lv_args 0 av = lv0) (hsl : (lg_sl av).length ≤ nL) (hown : y.cls = own)
    (body : ∀ (A : Nat → Prop) (p : Program) (e : Env) (s : State) (m : MethodId) (args : Array Value) (below : List Frame) (meth : Method) (c : Code), zK sa D cl tys A p s m args meth c cc nL own wsy ret → meth.name = y.name →
      zW 0 p l e rm s m args below meth c (MQ below (zQi D cl tys A post w1) args s mc ms A) D cl A nL 0 0 wc lv0 0 []) : zMi sa D cl tys l y wsy rm av wc post w1 mc ms := by
  intro sz
  refine Met.ofW (cc := cc) (maxL := nL) (ret := ret) hy hw ?_
  intro p e s m args below meth c s₁ B hml hv
  obtain ⟨rfl, hsz, hP, hK, hD0, hG⟩ := hv
  have hts := atoms_spec (ws := wsy) B.pre
  have hown2 : s.vm.findClass own = some m.cls := by rw [← hown]; exact findClass_of_methodNamed B.named
  subst hsz
  have hD := hD0.self (sz := s.heap.size)
  have hl := lv_entry av (n := nL) hsl
  rw [lg_entry_eq]
  rw [hlv] at hl
  have hA : ∀ q : Nat, s.heap.size ≤ q → va_A wc s.heap.size q := fun q h => Or.inr h
  exact body (va_A wc s.heap.size) p e s m _ below meth c ⟨B.exec, B.bytes, hml, hown2, hts, hK, hA, hG, B.notSynchronized, B.returns⟩ (name_of_methodNamed B.named B.method).1 s.heap [] _ hP hD ⟨va_S.rf, Nat.le_refl _⟩ hl
theorem zMv.of {T : Type} {post : T → Prop} {w1 : T → va_W} {y : MethodName} {wsy wsy' : List Cond} {rm : Room} {av : List Value} {wc : va_W} {mc ms : Nat} (hy : plainName y.cls = true) (hw : wsy = Cond.code y cc nL ret :: wsy') (lv0 : List (Nat × Value)) (hlv : lv_args 0 av = lv0) (hsl : (lg_sl av).length ≤ nL) (hown : y.cls = own)
    (body : ∀ (A : Nat → Prop) (p : Program) (e : Env) (s : State) (m : MethodId) (args : Array Value) (below : List Frame) (meth : Method) (c : Code), zK sa D cl tys A p s m args meth c cc nL own wsy ret → meth.name = y.name →
      zW 0 p l e rm s m args below meth c (MQ below (zQv D cl tys A post w1) args s mc ms A) D cl A nL 0 0 wc lv0 0 []) : zMv sa D cl tys l y wsy rm av wc post w1 mc ms := by
  intro sz
  refine Met.ofW (cc := cc) (maxL := nL) (ret := ret) hy hw ?_
  intro p e s m args below meth c s₁ B hml hv
  obtain ⟨rfl, hsz, hP, hK, hD0, hG⟩ := hv
  have hts := atoms_spec (ws := wsy) B.pre
  have hown2 : s.vm.findClass own = some m.cls := by rw [← hown]; exact findClass_of_methodNamed B.named
  subst hsz
  have hD := hD0.self (sz := s.heap.size)
  have hl := lv_entry av (n := nL) hsl
  rw [lg_entry_eq]
  rw [hlv] at hl
  have hA : ∀ q : Nat, s.heap.size ≤ q → va_A wc s.heap.size q := fun q h => Or.inr h
  exact body (va_A wc s.heap.size) p e s m _ below meth c ⟨B.exec, B.bytes, hml, hown2, hts, hK, hA, hG, B.notSynchronized, B.returns⟩ (name_of_methodNamed B.named B.method).1 s.heap [] _ hP hD ⟨va_S.rf, Nat.le_refl _⟩ hl
theorem zX.of {E : String} {y : MethodName} {wsy wsy' : List Cond} {rm : Room} {av : List Value} {wc : va_W} {mc ms : Nat} (hy : plainName y.cls = true) (hw : wsy = Cond.code y cc nL ret :: wsy') (lv0 : List (Nat × Value)) (hlv : lv_args 0 av = lv0) (hsl : (lg_sl av).length ≤ nL) (hown : y.cls = own)
    (body : ∀ (A : Nat → Prop) (p : Program) (e : Env) (s : State) (m : MethodId) (args : Array Value) (below : List Frame) (meth : Method) (c : Code), zK sa D cl tys A p s m args meth c cc nL own wsy ret → meth.name = y.name → (∀ x ∈ c.exceptionTable.toList, False) →
      zW 0 p l e rm s m args below meth c (vx_MQ below (fun _ _ _ _ => False) (zQx (s.heap.size + 1) D cl tys A E wc) args s mc ms A) D cl A nL 0 0 wc lv0 0 []) : zX sa D cl tys l y wsy rm av wc E mc ms := by
  intro sz
  refine vx_ofW (cc := cc) (maxL := nL) (ret := ret) hy hw ?_
  intro p e s m args below meth c s₁ B hml ht hv
  obtain ⟨rfl, hsz, hP, hK, hD0, hG⟩ := hv
  have hts := atoms_spec (ws := wsy) B.pre
  have hown2 : s.vm.findClass own = some m.cls := by rw [← hown]; exact findClass_of_methodNamed B.named
  subst hsz
  have hD := hD0.self (sz := s.heap.size)
  have hl := lv_entry av (n := nL) hsl
  rw [lg_entry_eq]
  rw [hlv] at hl
  have hA : ∀ q : Nat, s.heap.size ≤ q → va_A wc s.heap.size q := fun q h => Or.inr h
  exact body (va_A wc s.heap.size) p e s m _ below meth c ⟨B.exec, B.bytes, hml, hown2, hts, hK, hA, hG, B.notSynchronized, B.returns⟩ (name_of_methodNamed B.named B.method).1 ht s.heap [] _ hP hD ⟨va_S.rf, Nat.le_refl _⟩ hl
theorem zMi.ofH {T : Type} {post : Int32 → T → Prop} {w1 : T → va_W} {y : MethodName} {wsy wsy' : List Cond} {rm : Room} {av : List Value} {wc : va_W} {mc ms : Nat} {hh : List (Nat × Nat × Nat × Nat)} (hy : plainName y.cls = true) (hw : wsy = Cond.codeWith y cc nL ret hh :: wsy') (lv0 : List (Nat × Value)) (hlv : lv_args 0 av = lv0) (hsl : (lg_sl av).length ≤ nL) (hown : y.cls = own)
    (body : ∀ (A : Nat → Prop) (p : Program) (e : Env) (s : State) (m : MethodId) (args : Array Value) (below : List Frame) (meth : Method) (c : Code), zK sa D cl tys A p s m args meth c cc nL own wsy ret → meth.name = y.name → c.exceptionTable.toList = tableOf hh →
      zW 0 p l e rm s m args below meth c (MQ below (zQi D cl tys A post w1) args s mc ms A) D cl A nL 0 0 wc lv0 0 []) : zMi sa D cl tys l y wsy rm av wc post w1 mc ms := by
  intro sz
  refine zmet_ofWH (cc := cc) (maxL := nL) (ret := ret) hy hw ?_
  intro p e s m args below meth c s₁ B hml hv
  obtain ⟨rfl, hsz, hP, hK, hD0, hG⟩ := hv
  have hts := atoms_spec (ws := wsy) B.pre
  have hown2 : s.vm.findClass own = some m.cls := by rw [← hown]; exact findClass_of_methodNamed B.named
  subst hsz
  have hD := hD0.self (sz := s.heap.size)
  have hl := lv_entry av (n := nL) hsl
  rw [lg_entry_eq]
  rw [hlv] at hl
  have hA : ∀ q : Nat, s.heap.size ≤ q → va_A wc s.heap.size q := fun q h => Or.inr h
  exact body (va_A wc s.heap.size) p e s m _ below meth c ⟨B.exec, B.bytes, hml, hown2, hts, hK, hA, hG, B.notSynchronized, B.returns⟩ (name_of_methodNamed B.named B.method).1 (vx_table (x := y) B (hts _ (by rw [hw]; exact List.mem_cons_self))) s.heap [] _ hP hD ⟨va_S.rf, Nat.le_refl _⟩ hl
theorem zMl.of {T : Type} {post : Int64 → T → Prop} {w1 : T → va_W} {y : MethodName} {wsy wsy' : List Cond} {rm : Room} {av : List Value} {wc : va_W} {mc ms : Nat} (hy : plainName y.cls = true) (hw : wsy = Cond.code y cc nL ret :: wsy') (lv0 : List (Nat × Value)) (hlv : lv_args 0 av = lv0) (hsl : (lg_sl av).length ≤ nL) (hown : y.cls = own)
    (body : ∀ (A : Nat → Prop) (p : Program) (e : Env) (s : State) (m : MethodId) (args : Array Value) (below : List Frame) (meth : Method) (c : Code), zK sa D cl tys A p s m args meth c cc nL own wsy ret → meth.name = y.name →
      zW 0 p l e rm s m args below meth c (MQ below (zQl D cl tys A post w1) args s mc ms A) D cl A nL 0 0 wc lv0 0 []) : zMl sa D cl tys l y wsy rm av wc post w1 mc ms := by
  intro sz
  refine Met.ofW (cc := cc) (maxL := nL) (ret := ret) hy hw ?_
  intro p e s m args below meth c s₁ B hml hv
  obtain ⟨rfl, hsz, hP, hK, hD0, hG⟩ := hv
  have hts := atoms_spec (ws := wsy) B.pre
  have hown2 : s.vm.findClass own = some m.cls := by rw [← hown]; exact findClass_of_methodNamed B.named
  subst hsz
  have hD := hD0.self (sz := s.heap.size)
  have hl := lv_entry av (n := nL) hsl
  rw [lg_entry_eq]
  rw [hlv] at hl
  have hA : ∀ q : Nat, s.heap.size ≤ q → va_A wc s.heap.size q := fun q h => Or.inr h
  exact body (va_A wc s.heap.size) p e s m _ below meth c ⟨B.exec, B.bytes, hml, hown2, hts, hK, hA, hG, B.notSynchronized, B.returns⟩ (name_of_methodNamed B.named B.method).1 s.heap [] _ hP hD ⟨va_S.rf, Nat.le_refl _⟩ hl
theorem zNi.of {T : Type} {post : Int32 → T → Prop} {w1 : T → va_W} {kc : Nat} {y : MethodName} {wsy wsy' : List Cond} {rm : Room} {av : List Value} {wc : va_W} {mc ms : Nat} (hy : plainName y.cls = true) (hw : wsy = Cond.code y cc nL ret :: wsy') (lv0 : List (Nat × Value)) (hlv : lv_args 0 av = lv0) (hsl : (lg_sl av).length ≤ nL) (hown : y.cls = own)
    (body : ∀ (A : Nat → Prop) (p : Program) (e : Env) (s : State) (m : MethodId) (args : Array Value) (below : List Frame) (meth : Method) (c : Code), zK sa D cl tys A p s m args meth c cc nL own wsy ret → meth.name = y.name →
      zW 0 p l e rm s m args below meth c (MQ below (zQn (s.heap.size + kc) D cl tys A post w1) args s mc ms A) D cl A nL 0 0 wc lv0 0 []) : zNi kc sa D cl tys l y wsy rm av wc post w1 mc ms := by
  intro sz
  refine Met.ofW (cc := cc) (maxL := nL) (ret := ret) hy hw ?_
  intro p e s m args below meth c s₁ B hml hv
  obtain ⟨rfl, hsz, hP, hK, hD0, hG⟩ := hv
  have hts := atoms_spec (ws := wsy) B.pre
  have hown2 : s.vm.findClass own = some m.cls := by rw [← hown]; exact findClass_of_methodNamed B.named
  subst hsz
  have hD := hD0.self (sz := s.heap.size)
  have hl := lv_entry av (n := nL) hsl
  rw [lg_entry_eq]
  rw [hlv] at hl
  have hA : ∀ q : Nat, s.heap.size ≤ q → va_A wc s.heap.size q := fun q h => Or.inr h
  exact body (va_A wc s.heap.size) p e s m _ below meth c ⟨B.exec, B.bytes, hml, hown2, hts, hK, hA, hG, B.notSynchronized, B.returns⟩ (name_of_methodNamed B.named B.method).1 s.heap [] _ hP hD ⟨va_S.rf, Nat.le_refl _⟩ hl
theorem zNi.ofH {T : Type} {post : Int32 → T → Prop} {w1 : T → va_W} {kc : Nat} {y : MethodName} {wsy wsy' : List Cond} {rm : Room} {av : List Value} {wc : va_W} {mc ms : Nat} {hh : List (Nat × Nat × Nat × Nat)} (hy : plainName y.cls = true) (hw : wsy = Cond.codeWith y cc nL ret hh :: wsy') (lv0 : List (Nat × Value)) (hlv : lv_args 0 av = lv0) (hsl : (lg_sl av).length ≤ nL) (hown : y.cls = own)
    (body : ∀ (A : Nat → Prop) (p : Program) (e : Env) (s : State) (m : MethodId) (args : Array Value) (below : List Frame) (meth : Method) (c : Code), zK sa D cl tys A p s m args meth c cc nL own wsy ret → meth.name = y.name → c.exceptionTable.toList = tableOf hh →
      zW 0 p l e rm s m args below meth c (MQ below (zQn (s.heap.size + kc) D cl tys A post w1) args s mc ms A) D cl A nL 0 0 wc lv0 0 []) : zNi kc sa D cl tys l y wsy rm av wc post w1 mc ms := by
  intro sz
  refine zmet_ofWH (cc := cc) (maxL := nL) (ret := ret) hy hw ?_
  intro p e s m args below meth c s₁ B hml hv
  obtain ⟨rfl, hsz, hP, hK, hD0, hG⟩ := hv
  have hts := atoms_spec (ws := wsy) B.pre
  have hown2 : s.vm.findClass own = some m.cls := by rw [← hown]; exact findClass_of_methodNamed B.named
  subst hsz
  have hD := hD0.self (sz := s.heap.size)
  have hl := lv_entry av (n := nL) hsl
  rw [lg_entry_eq]
  rw [hlv] at hl
  have hA : ∀ q : Nat, s.heap.size ≤ q → va_A wc s.heap.size q := fun q h => Or.inr h
  exact body (va_A wc s.heap.size) p e s m _ below meth c ⟨B.exec, B.bytes, hml, hown2, hts, hK, hA, hG, B.notSynchronized, B.returns⟩ (name_of_methodNamed B.named B.method).1 (vx_table (x := y) B (hts _ (by rw [hw]; exact List.mem_cons_self))) s.heap [] _ hP hD ⟨va_S.rf, Nat.le_refl _⟩ hl
theorem z_iret {T : Type} {post : Int32 → T → Prop} {w1 : T → va_W} {mc ms : Nat} {v : Int32} (C : zK sa D cl tys A p s m args meth c cc nL own Ts (some .int)) (u : T) (hp : post v u) (hw : w1 u = ws) (hc : cells ≤ mc) (hs : slots ≤ ms) (hdg : decode cc pc = .ok (.ireturn, 1)) : zW cn p l e R s m args below meth c (MQ below (zQi D cl tys A post w1) args s mc ms A) D cl A nL cells slots ws lv pc [.int v] :=
  fun H locs ls hP hD hS hl => W.widen hc hs (W.iret C.1 C.2.1 C.2.2.2.2.2.2.2.2.2 (fun t ht hW => ⟨⟨v, u, rfl, hp, by rw [hw, ht]; exact hP, va_K.moved hW.alike C.2.2.2.2.2.1, by rw [hw]; exact hD⟩, hS.1.F ht⟩) hS.1.2.2 hdg C.2.2.2.2.2.2.2.2.1)
theorem z_zret {T : Type} {post : Int32 → T → Prop} {w1 : T → va_W} {mc ms : Nat} {v : Int32} (C : zK sa D cl tys A p s m args meth c cc nL own Ts (some .boolean)) (u : T) (hp : post v u) (hw : w1 u = ws) (hc : cells ≤ mc) (hs : slots ≤ ms) (hn : narrow .boolean (.int v) = .int v) (hdg : decode cc pc = .ok (.ireturn, 1)) : zW cn p l e R s m args below meth c (MQ below (zQi D cl tys A post w1) args s mc ms A) D cl A nL cells slots ws lv pc [.int v] :=
  fun H locs ls hP hD hS hl => W.widen hc hs (W.zret C.1 C.2.1 C.2.2.2.2.2.2.2.2.2 hn (fun t ht hW => ⟨⟨v, u, rfl, hp, by rw [hw, ht]; exact hP, va_K.moved hW.alike C.2.2.2.2.2.1, by rw [hw]; exact hD⟩, hS.1.F ht⟩) hS.1.2.2 hdg C.2.2.2.2.2.2.2.2.1)
theorem z_vret {T : Type} {post : T → Prop} {w1 : T → va_W} {mc ms : Nat} (C : zK sa D cl tys A p s m args meth c cc nL own Ts none) (u : T) (hp : post u) (hw : w1 u = ws) (hc : cells ≤ mc) (hs : slots ≤ ms) (hdg : decode cc pc = .ok (.return_, 1)) : zW cn p l e R s m args below meth c (MQ below (zQv D cl tys A post w1) args s mc ms A) D cl A nL cells slots ws lv pc [] :=
  fun H locs ls hP hD hS hl => W.widen hc hs (W.vret C.1 C.2.1 C.2.2.2.2.2.2.2.2.2 (fun t ht hW => ⟨⟨u, rfl, hp, by rw [hw, ht]; exact hP, va_K.moved hW.alike C.2.2.2.2.2.1, by rw [hw]; exact hD⟩, hS.1.F ht⟩) hS.1.2.2 hdg C.2.2.2.2.2.2.2.2.1)
theorem z_lret {T : Type} {post : Int64 → T → Prop} {w1 : T → va_W} {mc ms : Nat} {v : Int64} (C : zK sa D cl tys A p s m args meth c cc nL own Ts (some .long)) (u : T) (hp : post v u) (hw : w1 u = ws) (hc : cells ≤ mc) (hs : slots ≤ ms) (hdg : decode cc pc = .ok (.lreturn, 1)) : zW cn p l e R s m args below meth c (MQ below (zQl D cl tys A post w1) args s mc ms A) D cl A nL cells slots ws lv pc [.long v] :=
  fun H locs ls hP hD hS hl => W.widen hc hs (W.lret C.1 C.2.1 C.2.2.2.2.2.2.2.2.2 (fun t ht hW => ⟨⟨v, u, rfl, hp, by rw [hw, ht]; exact hP, va_K.moved hW.alike C.2.2.2.2.2.1, by rw [hw]; exact hD⟩, hS.1.F ht⟩) hS.1.2.2 hdg C.2.2.2.2.2.2.2.2.1)
theorem z_iretn {T : Type} {post : Int32 → T → Prop} {w1 : T → va_W} {kc mc ms : Nat} {v : Int32} (C : zK sa D cl tys A p s m args meth c cc nL own Ts (some .int)) (u : T) (hk : kc ≤ cn) (hp : post v u) (hw : w1 u = ws) (hc : cells ≤ mc) (hs : slots ≤ ms) (hdg : decode cc pc = .ok (.ireturn, 1)) : zW cn p l e R s m args below meth c (MQ below (zQn (s.heap.size + kc) D cl tys A post w1) args s mc ms A) D cl A nL cells slots ws lv pc [.int v] :=
  fun H locs ls hP hD hS hl => W.widen hc hs (W.iret C.1 C.2.1 C.2.2.2.2.2.2.2.2.2 (fun t ht hW => ⟨⟨v, u, rfl, hp, ⟨by rw [hw, ht]; exact hP, va_K.moved hW.alike C.2.2.2.2.2.1, by rw [hw]; exact hD⟩, by rw [ht]; have h8 := hS.2; omega⟩, hS.1.F ht⟩) hS.1.2.2 hdg C.2.2.2.2.2.2.2.2.1)
theorem z_zretn {T : Type} {post : Int32 → T → Prop} {w1 : T → va_W} {kc mc ms : Nat} {v : Int32} (C : zK sa D cl tys A p s m args meth c cc nL own Ts (some .boolean)) (u : T) (hk : kc ≤ cn) (hp : post v u) (hw : w1 u = ws) (hc : cells ≤ mc) (hs : slots ≤ ms) (hn : narrow .boolean (.int v) = .int v) (hdg : decode cc pc = .ok (.ireturn, 1)) : zW cn p l e R s m args below meth c (MQ below (zQn (s.heap.size + kc) D cl tys A post w1) args s mc ms A) D cl A nL cells slots ws lv pc [.int v] :=
  fun H locs ls hP hD hS hl => W.widen hc hs (W.zret C.1 C.2.1 C.2.2.2.2.2.2.2.2.2 hn (fun t ht hW => ⟨⟨v, u, rfl, hp, ⟨by rw [hw, ht]; exact hP, va_K.moved hW.alike C.2.2.2.2.2.1, by rw [hw]; exact hD⟩, by rw [ht]; have h8 := hS.2; omega⟩, hS.1.F ht⟩) hS.1.2.2 hdg C.2.2.2.2.2.2.2.2.1)
/-- an E thrown over the frame -/
def zT (cn : Nat) (p : Program) (l : Launch) (e : Env) (R : Room) (s : State) (m : MethodId) (args : Array Value) (below : List Frame) (meth : Method) (c : Code) (Q : State → Prop) (D : va_G) (cl : List vw_C) (A : Nat → Prop) (nL cells slots : Nat) (ws : va_W) (lv : List (Nat × Value)) (pc : Nat) (st : List Value) (E : String) : Prop :=
  ∀ (H : Heap) (locs : List Loc) (ls : Array Slot) (q : Addr) (ce : Cell), va_P D cl ws H → va_D A ws → (va_S A s.heap H locs ∧ s.heap.size + cn ≤ H.size) → lv_has ls nL lv → H[q]? = some ce → ce.vm = .none → s.vm.findClass E = some ce.cls → vx_W p l e R s m args below meth c H locs cells slots Q (F0 m pc ls st) q

theorem z_out {E : String} {mc ms : Nat} (C : zK sa D cl tys A p s m args meth c cc nL own Ts ret) (ht : ∀ x ∈ c.exceptionTable.toList, False) (hc : cells ≤ mc) (hs : slots ≤ ms) : zT (cn + 1) p l e R s m args below meth c (vx_MQ below (fun _ _ _ _ => False) (zQx (s.heap.size + 1) D cl tys A E ws) args s mc ms A) D cl A nL cells slots ws lv pc st E :=
  fun H locs ls q ce hP hD hS hl hq hv hcl => vx_out (fun x hx => (ht x hx).elim) C.2.2.2.2.2.2.2.2.1 hq hv hcl (fun t ht9 ha => ⟨(), trivial, ⟨rfl, ⟨by rw [ht9]; exact hP, va_K.moved ha C.2.2.2.2.2.1, hD⟩, by rw [ht9]; have h8 := hS.2; omega⟩, hS.1.F ht9⟩) hS.1.2.2 hc hs
/-- throw new E("text") -/
theorem z_throwS {E text : String} {names : List String} {ik is ic mc ms : Nat} (C : zK sa D cl tys A p s m args meth c cc nL own Ts ret) (ht : ∀ x ∈ c.exceptionTable.toList, False) (hfl : l.stackTraces = false) (hown : own = RX4)
    (hcls : Bundle.fit E = true) (hnames : ∀ n ∈ names, Bundle.fit n = true) (hk : Cond.classLink own ik E ∈ Ts) (hini : Cond.initialized E ∈ Ts) (hstr : (is, text) ∈ zStr) (hE : E ∈ zEs)
    (hat1 : ∀ w ∈ (vx_atS own ic E names).filter goodWord, w ∈ Ts) (hat2 : ∀ w ∈ (vx_atS own ic E names).filter (fun w => !goodWord w), w = .castable E E ∨ w ∈ zDs.map Cond.declares)
    (hgood : ∀ w ∈ Cond.classLink own ik E :: Cond.initialized E :: vx_atS own ic E names, vx_ot w = true)
    (d0 : decode cc pc = .ok (.new ik, 3)) (d3 : decode cc (pc + 3) = .ok (.dup, 1)) (d4 : decode cc (pc + 4) = .ok (.ldc is, 2)) (d6 : decode cc (pc + 6) = .ok (.invokespecial ic, 3)) (d9 : decode cc (pc + 9) = .ok (.athrow, 1))
    (hR : names.length + 3 < R.frames ∧ (st.map fun v => v.category).sum + (13 * (names.length + 1) + 43) ≤ R.locals ∧ cells + 1 ≤ R.cells ∧ slots + 6 ≤ R.slots) (hc : cells + 1 ≤ mc) (hs : slots + 6 ≤ ms) : zW cn p l e R s m args below meth c (vx_MQ below (fun _ _ _ _ => False) (zQx (s.heap.size + 1) D cl tys A E ws) args s mc ms A) D cl A nL cells slots ws lv pc st := by
  intro H locs ls hP hD hS hl
  have hG := C.2.2.2.2.2.2.2.1
  refine vx_throwS9 (A := A) C.1 C.2.1 hfl C.2.2.2.1 hcls hnames (C.2.2.2.2.1 _ hk) (C.2.2.2.2.1 _ hini) (by rw [hown]; exact hG.1 (is, text) hstr) (vx_hat (B := .castable E E :: zDs.map Cond.declares) (fun w hw => C.2.2.2.2.1 _ (hat1 w hw)) (fun w hw => (hat2 w hw).elim (fun h => by rw [h]; exact List.mem_cons_self) (fun h => List.mem_cons_of_mem _ h)) (fun w hw => (List.mem_cons.mp hw).elim (fun h => by rw [h]; exact va_Nw.use rfl (hG.2.2.1 E hE)) (fun h => by obtain ⟨y, hy, rfl⟩ := List.mem_map.mp h; exact va_Nw.use rfl (hG.2.2.2.2.1 y hy)))) hgood hG.2.2.2.2.2.1 hG.2.2.2.2.2.2 hS.1 (by rw [C.2.2.1]; exact hl.1) d0 d3 d4 d6 d9 (fun x hx => (ht x hx).elim) hR.1 hR.2.1 hR.2.2.1 hR.2.2.2 C.2.2.2.2.2.2.2.2.1 ?_ hS.1.2.2 hc hs
  intro t ha hz hk9
  have h7 := hS.1.1
  refine ⟨(), trivial, ⟨rfl, ⟨hP.kept (fun k q hq => hk9 q.1 ((hP k q hq).lt)), va_K.moved ha C.2.2.2.2.2.1, hD⟩, by omega⟩, by omega, fun q h1 h2 => ?_⟩
  rw [hk9 q (Nat.lt_of_lt_of_le h1 h7)]
  exact hS.1.2.1 q h1 h2

theorem z_callVx (C : zK sa D cl tys A p s m args meth c cc nL own Ts ret) {y : MethodName} {wsy : List Cond} {rm : Room} {bytes : ByteArray} {maxL mc ms n index : Nat} {ret9 : Option FieldType} {Cn : String} {a : Nat} {As : List Value} {wc : va_W} {E : String} (hM : zX sa D cl tys l y wsy rm (.ref a :: As) wc E mc ms) (cw : CallW R s args own Cn index y bytes maxL ret9 wsy rm mc ms n) (q0 : Nat) {ci : Nat} {fs : List Value} {cq : vw_C} (he : ws[q0]? = some (a, .inr (ci, fs))) (hcl : cl[ci]? = some cq) (hcq : cq.1 = Cn) (hsub : zSub ws wc wc ws) (hn9 : As.length = n) (hst : (rest.map fun v => v.category).sum ≤ 8) (hf : cells + mc ≤ R.cells ∧ slots + ms ≤ R.slots) (hdg : decode cc pc = .ok (.invokevirtual index, 3))
    (kk : zT (cn + 1) p l e R s m args below meth c (Q) D cl A nL (cells + mc) (slots + ms) ws lv pc rest E) : zW cn p l e R s m args below meth c (Q) D cl A nL cells slots ws lv pc (As.reverse ++ .ref a :: rest) := by
  intro H locs ls hP hD hS hl
  have hF : ∀ q : Nat, va_A wc H.size q → A q := zPc.free C (hsub.2.1 A hD) hS.1
  have hr := vx_runV (l := l) (e := e) (below := below) (meth := meth) (H := H) (locs := locs) (cells := cells) (slots := slots) (g := F0 m pc ls (As.reverse ++ .ref a :: rest)) (As := As) (rest := rest) ⟨C.1, C.2.1, C.2.2.1, C.2.2.2.1, C.2.2.2.2.1⟩ (hM H.size) cw ⟨zPc.blind, (by rw [← hcq]; exact va_recv C.2.2.2.2.2.1 hP hcl he), zPc.at_ C (hsub.1 D cl H hP) (hsub.2.1 A hD) hS.1⟩ rfl hn9 hl.1 rfl (lv_room hst) hdg hf
  intro T hT X
  rcases hr T hT X with ⟨v, st₀, t, T', L, h0, X', hL, e1, e2, hq, hst9⟩ | ⟨q, st₀, t, T', L, E9, ce, h0, X', hL, e1, e2, ⟨u, hp, ⟨hE, ⟨hP1, hK1, hD1⟩, hN1⟩, hFr⟩, hce, hcv, hcl9, hst9⟩
  · exact hq.elim
  · subst hE
    obtain ⟨k1, k2, k3⟩ := vx_keep h0 e1 hS.1 (fun q _ h => hF q h) (fun q h => hF q h) hL hFr
    rw [← e1] at hP1 hN1
    have h8 := hS.2
    obtain ⟨g1, g2⟩ := hsub.2.2 D cl A H T'.heap hP hD hF k2 hP1 hD1
    obtain ⟨t2, a1, b1⟩ := kk T'.heap (locs ++ L) ls q ce g1 g2 ⟨k3, by omega⟩ hl (by rw [e1]; exact hce) hcv hcl9 T' rfl X'
    exact ⟨t2, hst9.trans a1, b1⟩

theorem z_callSx (C : zK sa D cl tys A p s m args meth c cc nL own Ts ret) {y : MethodName} {wsy : List Cond} {rm : Room} {bytes : ByteArray} {maxL mc ms n index : Nat} {ret9 : Option FieldType} {As : List Value} {wc : va_W} {E : String} (hM : zX sa D cl tys l y wsy rm As wc E mc ms) (cw : CallB R s args own index y bytes maxL ret9 wsy rm mc ms n ∧ (Cond.static y).before args s = true) (hsub : zSub ws wc wc ws) (hn9 : As.length = n) (hst : (rest.map fun v => v.category).sum ≤ 8) (hf : cells + mc ≤ R.cells ∧ slots + ms ≤ R.slots) (hdg : decode cc pc = .ok (.invokestatic index, 3))
    (kk : zT (cn + 1) p l e R s m args below meth c (Q) D cl A nL (cells + mc) (slots + ms) ws lv pc rest E) : zW cn p l e R s m args below meth c (Q) D cl A nL cells slots ws lv pc (As.reverse ++ rest) := by
  intro H locs ls hP hD hS hl
  have hF : ∀ q : Nat, va_A wc H.size q → A q := zPc.free C (hsub.2.1 A hD) hS.1
  have hr := vx_runS (l := l) (e := e) (below := below) (meth := meth) (H := H) (locs := locs) (cells := cells) (slots := slots) (g := F0 m pc ls (As.reverse ++ rest)) (As := As) (rest := rest) ⟨C.1, C.2.1, C.2.2.1, C.2.2.2.1, C.2.2.2.2.1⟩ (hM H.size) cw ⟨zPc.blind, zPc.at_ C (hsub.1 D cl H hP) (hsub.2.1 A hD) hS.1⟩ rfl hn9 hl.1 rfl (lv_room hst) hdg hf
  intro T hT X
  rcases hr T hT X with ⟨v, st₀, t, T', L, h0, X', hL, e1, e2, hq, hst9⟩ | ⟨q, st₀, t, T', L, E9, ce, h0, X', hL, e1, e2, ⟨u, hp, ⟨hE, ⟨hP1, hK1, hD1⟩, hN1⟩, hFr⟩, hce, hcv, hcl9, hst9⟩
  · exact hq.elim
  · subst hE
    obtain ⟨k1, k2, k3⟩ := vx_keep h0 e1 hS.1 (fun q _ h => hF q h) (fun q h => hF q h) hL hFr
    rw [← e1] at hP1 hN1
    have h8 := hS.2
    obtain ⟨g1, g2⟩ := hsub.2.2 D cl A H T'.heap hP hD hF k2 hP1 hD1
    obtain ⟨t2, a1, b1⟩ := kk T'.heap (locs ++ L) ls q ce g1 g2 ⟨k3, by omega⟩ hl (by rw [e1]; exact hce) hcv hcl9 T' rfl X'
    exact ⟨t2, hst9.trans a1, b1⟩

/-- caught by the row x of this method's table -/
theorem z_catch {E name : String} (C : zK sa D cl tys A p s m args meth c cc nL own Ts ret) (pre : List ExceptionTableEntry) (x : ExceptionTableEntry) (suf : List ExceptionTableEntry) (hsplit : c.exceptionTable.toList = pre ++ x :: suf)
    (hpass : ∀ z ∈ pre, z.catchType ≠ 0 ∧ ∃ nm : String, Cond.classLink own z.catchType nm ∈ Ts ∧ (E, nm) ∈ zNcs) (hx : covers x pc = true) (h0 : x.catchType ≠ 0) (hlink : Cond.classLink own x.catchType name ∈ Ts) (hE : E ∈ zEs) (hname : name = E)
    (kk : ∀ q : Nat, zW cn p l e R s m args below meth c (Q) D cl A nL cells slots ws lv x.handlerPc [.ref q]) : zT cn p l e R s m args below meth c (Q) D cl A nL cells slots ws lv pc st E := by
  subst hname
  intro H locs ls q ce hP hD hS hl hq hv hcl
  have hG := C.2.2.2.2.2.2.2.1
  refine vx_catch C.2.2.2.1 pre x suf hsplit (fun z hz => ?_) hx h0 (C.2.2.2.2.1 _ hlink) (va_Nw.use rfl (hG.2.2.1 name hE)) hq hv hcl (kk q H locs ls hP hD hS hl)
  obtain ⟨h1, nm, h2, h3⟩ := hpass z hz
  exact Or.inr ⟨h1, nm, C.2.2.2.2.1 _ h2, hG.2.2.2.1 _ h3⟩
end ZC
end
section
/-! the worlds of the class and of the reference; rows for new cells, copies, longs -/
section ZS
abbrev zty (cI cZ cL : ClassId) : List (ClassId × FieldType) := [(cI, .int), (cZ, .boolean), (cL, .long)]
def wX (ad : Nat → Nat) (cI cZ : ClassId) (acc net tacc tnet flo bnd frm too amt pri wai byp ldr bor due plg clo pap cnd : Nat → Int32) (small price cut proc made lmade lend : Int32) : va_W :=
  [((ad 0), .inr (4, [.ref (ad 1), .ref (ad 2), .ref (ad 3), .ref (ad 4), .ref (ad 5), .ref (ad 22), .ref (ad 23), .ref (ad 24), .int small, .int price, .int cut, .int proc])),
   ((ad 1), .inr (3, [.ref (ad 6), .ref (ad 7)])),
   ((ad 2), .inr (3, [.ref (ad 8), .ref (ad 9)])),
   ((ad 3), .inr (0, [.ref (ad 10), .ref (ad 11)])),
   ((ad 4), .inr (2, [.ref (ad 12), .ref (ad 13), .ref (ad 14), .ref (ad 15), .ref (ad 16), .ref (ad 17), .int made])),
   ((ad 5), .inr (1, [.ref (ad 18), .ref (ad 19), .ref (ad 20), .ref (ad 21), .int lmade, .int lend])),
   ((ad 6), .inl (cI, 5, .inl acc)),
   ((ad 7), .inl (cI, 25, .inl net)),
   ((ad 8), .inl (cI, 5, .inl tacc)),
   ((ad 9), .inl (cI, 25, .inl tnet)),
   ((ad 10), .inl (cI, 5, .inl flo)),
   ((ad 11), .inl (cI, 25, .inl bnd)),
   ((ad 12), .inl (cI, 60, .inl frm)),
   ((ad 13), .inl (cI, 60, .inl too)),
   ((ad 14), .inl (cI, 60, .inl amt)),
   ((ad 15), .inl (cI, 60, .inl pri)),
   ((ad 16), .inl (cZ, 60, .inl wai)),
   ((ad 17), .inl (cI, 60, .inl byp)),
   ((ad 18), .inl (cI, 40, .inl ldr)),
   ((ad 19), .inl (cI, 40, .inl bor)),
   ((ad 20), .inl (cI, 40, .inl due)),
   ((ad 21), .inl (cI, 40, .inl plg)),
   ((ad 22), .inl (cZ, 5, .inl clo)),
   ((ad 23), .inl (cI, 5, .inl pap)),
   ((ad 24), .inl (cI, 10, .inl cnd))]
theorem z_nb {x : Int32} (h : x = 0 ∨ x = 1) : narrow .boolean (.int x) = .int x := by
  rcases h with rfl | rfl <;> rfl
theorem z_dec {n : Nat} (h : 0 < n) : nI n + Int32.ofInt (-1) = nI (n - 1) := by
  obtain ⟨k, rfl⟩ : ∃ k, n = k + 1 := ⟨n - 1, by omega⟩
  exact pk_m1 k
theorem z_dvX0 : ∀ j, j < 2 → defaultValue (tyX0 j) = vp_V [.null, .null] j := by
  intro j hj
  rcases (show j = 0 ∨ j = 1 by omega) with rfl | rfl <;> rfl
theorem z_dvX1 : ∀ j, j < 6 → defaultValue (tyX1 j) = vp_V [.null, .null, .null, .null, .int 0, .int 0] j := by
  intro j hj
  rcases (show j = 0 ∨ j = 1 ∨ j = 2 ∨ j = 3 ∨ j = 4 ∨ j = 5 by omega) with rfl | rfl | rfl | rfl | rfl | rfl <;> rfl
theorem z_dvX2 : ∀ j, j < 7 → defaultValue (tyX2 j) = vp_V [.null, .null, .null, .null, .null, .null, .int 0] j := by
  intro j hj
  rcases (show j = 0 ∨ j = 1 ∨ j = 2 ∨ j = 3 ∨ j = 4 ∨ j = 5 ∨ j = 6 by omega) with rfl | rfl | rfl | rfl | rfl | rfl | rfl <;> rfl
theorem z_dvX3 : ∀ j, j < 2 → defaultValue (tyX3 j) = vp_V [.null, .null] j := by
  intro j hj
  rcases (show j = 0 ∨ j = 1 by omega) with rfl | rfl <;> rfl
theorem z_dvX4 : ∀ j, j < 12 → defaultValue (tyX4 j) = vp_V [.null, .null, .null, .null, .null, .null, .null, .null, .int 0, .int 0, .int 0, .int 0] j := by
  intro j hj
  rcases (show j = 0 ∨ j = 1 ∨ j = 2 ∨ j = 3 ∨ j = 4 ∨ j = 5 ∨ j = 6 ∨ j = 7 ∨ j = 8 ∨ j = 9 ∨ j = 10 ∨ j = 11 by omega) with rfl | rfl | rfl | rfl | rfl | rfl | rfl | rfl | rfl | rfl | rfl | rfl <;> rfl
variable {p : Program} {l : Launch} {e : Env} {R : Room} {s : State} {m : MethodId} {args : Array Value} {below : List Frame} {meth : Method} {c : Code} {Q : State → Prop} {D : va_G} {cl : List vw_C} {A : Nat → Prop} {tys : List (ClassId × FieldType)} {cc : ByteArray} {nL : Nat} {own : String} {Ts : List Cond} {sa : Nat → Nat} {ret : Option FieldType}
variable {cn cells slots : Nat} {ws ws' : va_W} {lv lv' : List (Nat × Value)} {pc : Nat} {st rest : List Value}
theorem z_objInit (C : zK sa D cl tys A p s m args meth c cc nL own Ts ret) {idx : Nat} {a : Nat} (h1 : Cond.methodLink own idx objectInit ∈ Ts) (h2 : Cond.instanceMethod objectInit ∈ Ts) (h3 : Cond.code objectInit ⟨#[0xb1]⟩ 1 none ∈ Ts) (hR : 1 ≤ R.frames ∧ (st.map fun v => v.category).sum + 12 ≤ R.locals) (hdg : decode cc pc = .ok (.invokespecial idx, 3)) (kk : zW cn p l e R s m args below meth c Q D cl A nL cells slots ws lv (pc + 3) st) : zW cn p l e R s m args below meth c Q D cl A nL cells slots ws lv pc (.ref a :: st) :=
  fun H locs ls hP hD hS hl => W.objInit C.1 C.2.1 C.2.2.2.1 (C.2.2.2.2.1 _ h1) (C.2.2.2.2.1 _ h2) (C.2.2.2.2.1 _ h3) rfl (by rw [C.2.2.1]; exact hl.1) rfl hdg hR.1 (by show 2 * 0 + _ + 12 ≤ _; have := hR.2; omega) (kk H locs ls hP hD hS hl)
theorem z_new (C : zK sa D cl tys A p s m args meth c cc nL own Ts ret) {C9 : String} {T : u_T} {N ci index : Nat} {fs : List Value} (hin : ∀ w ∈ u_ws C9 T N, w ∈ Ts) (ty : Nat → FieldType) (hty : ∀ k, k < N → parseFieldDescriptor (T k).2.2.1 = some (ty k)) (hcl : Cond.classLink own index C9 ∈ Ts) (hinst : Cond.instantiable C9 N ∈ Ts) (hini : Cond.initialized C9 ∈ Ts) (hc : cl[ci]? = some (C9, T, N)) (hfs : ∀ j, j < N → defaultValue (ty j) = vp_V fs j) (hR : cells + 1 ≤ R.cells ∧ slots + N ≤ R.slots) (hdg : decode cc pc = .ok (.new index, 3))
    (kk : ∀ q : Nat, zW 0 p l e R s m args below meth c Q D cl A nL (cells + 1) (slots + N) (ws ++ [(q, .inr (ci, fs))]) lv (pc + 3) (.ref q :: st)) : zW cn p l e R s m args below meth c Q D cl A nL cells slots ws lv pc st :=
  fun H locs ls hP hD hS hl => va_new C.1 C.2.1 C.2.2.2.2.1 hin ty hty C.2.2.2.1 (C.2.2.2.2.1 _ hcl) (C.2.2.2.2.1 _ hinst) (C.2.2.2.2.1 _ hini) C.2.2.2.2.2.1 hP hD hS.1 C.2.2.2.2.2.2.1 hc hfs hR.1 hR.2 hdg (fun q H1 hP1 hD1 hS1 => kk q H1 locs ls hP1 hD1 ⟨hS1, hS1.1⟩ hl)
theorem z_ncls {U : State} {c1 c2 : ClassId} {ty : FieldType} (h1 : va_RA U c1 ty) (h2 : va_RA U c2 ty) (hp : refKind ty = false) : c1 = c2 := by
  cases ty with
  | object C => cases hp
  | _ => exact Option.some.inj (h1.symm.trans h2)
theorem z_newaI (C : zK sa D cl tys A p s m args meth c cc nL own Ts ret) {cA : ClassId} (harr : Cond.arrayClass .int ∈ Ts) (t0 : Nat) (ht : tys[t0]? = some (cA, .int)) {n : Int32} {N : Nat} (hn : ¬ n < 0) (hN : n.toNatClampNeg = N) (hb9 : N ≤ 1000) (hR : cells + 1 ≤ R.cells ∧ slots + N ≤ R.slots) (hdg : decode cc pc = .ok (.newarray .int, 2))
    (kk : ∀ q : Nat, zW 0 p l e R s m args below meth c Q D cl A nL (cells + 1) (slots + N) (ws ++ [(q, .inl (cA, N, .inl (fun _ => 0)))]) lv (pc + 2) (.ref q :: st)) : zW cn p l e R s m args below meth c Q D cl A nL cells slots ws lv pc (.int n :: st) := by
  intro H locs ls hP hD hS hl
  have hb8 : N * componentBytes FieldType.int ≤ 536870912 := Nat.le_trans (Nat.mul_le_mul hb9 (show componentBytes FieldType.int ≤ 8 by decide)) (by decide)
  refine va_newa (atype := .int) (ty := .int) (a0 := (N, .inl (fun _ => 0))) C.1 C.2.1 (C.2.2.2.2.1 _ harr) rfl C.2.2.2.2.2.1 hP hD hS.1 C.2.2.2.2.2.2.1 (fun cA => rfl) hn hN hb8 hR.1 hR.2 hdg (fun q c9 H1 hK1 hP1 hD1 hS1 => ?_)
  have e9 : c9 = cA := by
    have g1 := (hK1.2 tys.length (c9, .int) (by simp)).2
    have g2 := (C.2.2.2.2.2.1.2 t0 (cA, .int) ht).2
    exact z_ncls g1 g2 rfl
  subst e9
  exact kk q H1 locs ls hP1 hD1 ⟨hS1, hS1.1⟩ hl
theorem z_newaZ (C : zK sa D cl tys A p s m args meth c cc nL own Ts ret) {cA : ClassId} (harr : Cond.arrayClass .boolean ∈ Ts) (t0 : Nat) (ht : tys[t0]? = some (cA, .boolean)) {n : Int32} {N : Nat} (hn : ¬ n < 0) (hN : n.toNatClampNeg = N) (hb9 : N ≤ 1000) (hR : cells + 1 ≤ R.cells ∧ slots + N ≤ R.slots) (hdg : decode cc pc = .ok (.newarray .boolean, 2))
    (kk : ∀ q : Nat, zW 0 p l e R s m args below meth c Q D cl A nL (cells + 1) (slots + N) (ws ++ [(q, .inl (cA, N, .inl (fun _ => 0)))]) lv (pc + 2) (.ref q :: st)) : zW cn p l e R s m args below meth c Q D cl A nL cells slots ws lv pc (.int n :: st) := by
  intro H locs ls hP hD hS hl
  have hb8 : N * componentBytes FieldType.boolean ≤ 536870912 := Nat.le_trans (Nat.mul_le_mul hb9 (show componentBytes FieldType.boolean ≤ 8 by decide)) (by decide)
  refine va_newa (atype := .boolean) (ty := .boolean) (a0 := (N, .inl (fun _ => 0))) C.1 C.2.1 (C.2.2.2.2.1 _ harr) rfl C.2.2.2.2.2.1 hP hD hS.1 C.2.2.2.2.2.2.1 (fun cA => rfl) hn hN hb8 hR.1 hR.2 hdg (fun q c9 H1 hK1 hP1 hD1 hS1 => ?_)
  have e9 : c9 = cA := by
    have g1 := (hK1.2 tys.length (c9, .boolean) (by simp)).2
    have g2 := (C.2.2.2.2.2.1.2 t0 (cA, .boolean) ht).2
    exact z_ncls g1 g2 rfl
  subst e9
  exact kk q H1 locs ls hP1 hD1 ⟨hS1, hS1.1⟩ hl
theorem z_newaL (C : zK sa D cl tys A p s m args meth c cc nL own Ts ret) {cA : ClassId} (harr : Cond.arrayClass .long ∈ Ts) (t0 : Nat) (ht : tys[t0]? = some (cA, .long)) {n : Int32} {N : Nat} (hn : ¬ n < 0) (hN : n.toNatClampNeg = N) (hb9 : N ≤ 1000) (hR : cells + 1 ≤ R.cells ∧ slots + N ≤ R.slots) (hdg : decode cc pc = .ok (.newarray .long, 2))
    (kk : ∀ q : Nat, zW 0 p l e R s m args below meth c Q D cl A nL (cells + 1) (slots + N) (ws ++ [(q, .inl (cA, N, .inr (.inl (fun _ => 0))))]) lv (pc + 2) (.ref q :: st)) : zW cn p l e R s m args below meth c Q D cl A nL cells slots ws lv pc (.int n :: st) := by
  intro H locs ls hP hD hS hl
  have hb8 : N * componentBytes FieldType.long ≤ 536870912 := Nat.le_trans (Nat.mul_le_mul hb9 (show componentBytes FieldType.long ≤ 8 by decide)) (by decide)
  refine va_newa (atype := .long) (ty := .long) (a0 := (N, .inr (.inl (fun _ => 0)))) C.1 C.2.1 (C.2.2.2.2.1 _ harr) rfl C.2.2.2.2.2.1 hP hD hS.1 C.2.2.2.2.2.2.1 (fun cA => rfl) hn hN hb8 hR.1 hR.2 hdg (fun q c9 H1 hK1 hP1 hD1 hS1 => ?_)
  have e9 : c9 = cA := by
    have g1 := (hK1.2 tys.length (c9, .long) (by simp)).2
    have g2 := (C.2.2.2.2.2.1.2 t0 (cA, .long) ht).2
    exact z_ncls g1 g2 rfl
  subst e9
  exact kk q H1 locs ls hP1 hD1 ⟨hS1, hS1.1⟩ hl
theorem z_copy (C : zK sa D cl tys A p s m args meth c cc nL own Ts ret) {index : Nat} (h1 : Cond.methodLink own index arraycopyName ∈ Ts) (h2 : Cond.native arraycopyName ∈ Ts) (h3 : Cond.static arraycopyName ∈ Ts) (h4 : Cond.initialized "java/lang/System" ∈ Ts) (q0 q1 : Nat) {a a0 : Nat} {c0 : ClassId} {n0 n1 : Nat} {f g : Nat → Int32} (ha0 : ws[q0]? = some (a0, .inl (c0, n0, .inl f))) (ha1 : ws[q1]? = some (a, .inl (c0, n1, .inl g))) (ht0 : tys[0]? = some (c0, .int))
    {sp dp n : Int32} (hs1 : ¬ sp < 0) (hs2 : ¬ dp < 0) (hs3 : ¬ n < 0) {sp' dp' n' : Nat} (e1 : sp.toNatClampNeg = sp') (e2 : dp.toNatClampNeg = dp') (e3 : n.toNatClampNeg = n') (h5 : sp' + n' ≤ n0) (h6 : dp' + n' ≤ n1) (hR : 1 ≤ R.frames ∧ (st.map fun v => v.category).sum + (nativeFrameWords "java/lang/System" "arraycopy" 5 + 11) ≤ R.locals) (hdg : decode cc pc = .ok (.invokestatic index, 3)) (ws' : va_W) (hw : ws.set q1 (a, .inl (c0, n1, .inl (va_cpy f g sp' dp' n'))) = ws')
    (kk : zW 0 p l e R s m args below meth c Q D cl A nL cells slots ws' lv (pc + 3) st) : zW cn p l e R s m args below meth c Q D cl A nL cells slots ws lv pc (.int n :: .int dp :: .ref a :: .int sp :: .ref a0 :: st) := by
  subst e1; subst e2; subst e3; subst hw
  exact fun H locs ls hP hD hS hl => va_copyi C.1 C.2.1 (by rw [C.2.2.1]; exact hl.1.symm) C.2.2.2.1 (C.2.2.2.2.1 _ h1) (C.2.2.2.2.1 _ h2) (C.2.2.2.2.1 _ h3) (C.2.2.2.2.1 _ h4) C.2.2.2.2.2.1 hP hD hS.1 q0 q1 0 0 ha0 ha1 ht0 ht0 rfl hs1 hs2 hs3 h5 h6 (fun _ _ => rfl) hR.1 hR.2 hdg (fun H1 locs1 hP1 hD1 hS1 => kk H1 locs1 ls hP1 hD1 ⟨hS1, hS1.1⟩ hl)
theorem z_cmp_eq {x y : Int64} : lg_cmp x y = 0 ↔ x = y := by
  unfold lg_cmp
  constructor
  · intro h
    by_cases h1 : y < x
    · rw [if_pos h1] at h; exact absurd h (by decide)
    · rw [if_neg h1] at h
      by_cases h2 : x < y
      · simp [h2] at h
        have h9 : x ≠ y := fun e => Int64.lt_irrefl (e ▸ h2)
        simp [h9] at h
      · exact Int64.le_antisymm (Int64.not_lt.mp h1) (Int64.not_lt.mp h2)
  · intro h
    subst h
    simp
theorem z_cmp_lt {x y : Int64} : lg_cmp x y < 0 ↔ x < y := by
  unfold lg_cmp
  constructor
  · intro h
    by_cases h1 : y < x
    · rw [if_pos h1] at h; exact absurd h (by decide)
    · rw [if_neg h1] at h
      by_cases h2 : x = y
      · rw [if_pos h2] at h; exact absurd h (by decide)
      · rcases Int64.lt_or_le x y with q | q
        · exact q
        · exact absurd (Int64.le_antisymm (Int64.not_lt.mp h1) q) h2
  · intro h
    have h1 : ¬ y < x := Int64.lt_asymm h
    have h2 : ¬ x = y := fun e => Int64.lt_irrefl (e ▸ h)
    rw [if_neg h1, if_neg h2]; decide
theorem z_lcmp_eq (C : zK sa D cl tys A p s m args meth c cc nL own Ts ret) {x y : Int64} {off : Int} {tgt : Nat} (hdg : decode cc pc = .ok (.lcmp, 1)) (hdg2 : decode cc (pc + 1) = .ok (.ifCond .eq off, 3)) (ht : ((pc + 1 : Nat) : Int) + off = (tgt : Int)) (kt : x = y → zW cn p l e R s m args below meth c Q D cl A nL cells slots ws lv tgt st) (kf : ¬ x = y → zW cn p l e R s m args below meth c Q D cl A nL cells slots ws lv (pc + 1 + 3) st) : zW cn p l e R s m args below meth c Q D cl A nL cells slots ws lv pc (.long y :: .long x :: st) :=
  fun H locs ls hP hD hS hl => W.lcmp C.1 C.2.1 hdg (lv_if_eq C.1 C.2.1 hdg2 ht (fun q => kt (z_cmp_eq.mp q) H locs ls hP hD hS hl) (fun q => kf (fun r => q (z_cmp_eq.mpr r)) H locs ls hP hD hS hl))
theorem z_lcmp_ne (C : zK sa D cl tys A p s m args meth c cc nL own Ts ret) {x y : Int64} {off : Int} {tgt : Nat} (hdg : decode cc pc = .ok (.lcmp, 1)) (hdg2 : decode cc (pc + 1) = .ok (.ifCond .ne off, 3)) (ht : ((pc + 1 : Nat) : Int) + off = (tgt : Int)) (kt : ¬ x = y → zW cn p l e R s m args below meth c Q D cl A nL cells slots ws lv tgt st) (kf : x = y → zW cn p l e R s m args below meth c Q D cl A nL cells slots ws lv (pc + 1 + 3) st) : zW cn p l e R s m args below meth c Q D cl A nL cells slots ws lv pc (.long y :: .long x :: st) :=
  fun H locs ls hP hD hS hl => W.lcmp C.1 C.2.1 hdg (lv_if_ne C.1 C.2.1 hdg2 ht (fun q => kt (fun r => q (z_cmp_eq.mpr r)) H locs ls hP hD hS hl) (fun q => kf (z_cmp_eq.mp q) H locs ls hP hD hS hl))
theorem z_lcmp_lt (C : zK sa D cl tys A p s m args meth c cc nL own Ts ret) {x y : Int64} {off : Int} {tgt : Nat} (hdg : decode cc pc = .ok (.lcmp, 1)) (hdg2 : decode cc (pc + 1) = .ok (.ifCond .lt off, 3)) (ht : ((pc + 1 : Nat) : Int) + off = (tgt : Int)) (kt : x < y → zW cn p l e R s m args below meth c Q D cl A nL cells slots ws lv tgt st) (kf : ¬ x < y → zW cn p l e R s m args below meth c Q D cl A nL cells slots ws lv (pc + 1 + 3) st) : zW cn p l e R s m args below meth c Q D cl A nL cells slots ws lv pc (.long y :: .long x :: st) :=
  fun H locs ls hP hD hS hl => W.lcmp C.1 C.2.1 hdg (lv_if_lt C.1 C.2.1 hdg2 ht (fun q => kt (z_cmp_lt.mp q) H locs ls hP hD hS hl) (fun q => kf (fun r => q (z_cmp_lt.mpr r)) H locs ls hP hD hS hl))
theorem z_lcmp_ge (C : zK sa D cl tys A p s m args meth c cc nL own Ts ret) {x y : Int64} {off : Int} {tgt : Nat} (hdg : decode cc pc = .ok (.lcmp, 1)) (hdg2 : decode cc (pc + 1) = .ok (.ifCond .ge off, 3)) (ht : ((pc + 1 : Nat) : Int) + off = (tgt : Int)) (kt : ¬ x < y → zW cn p l e R s m args below meth c Q D cl A nL cells slots ws lv tgt st) (kf : x < y → zW cn p l e R s m args below meth c Q D cl A nL cells slots ws lv (pc + 1 + 3) st) : zW cn p l e R s m args below meth c Q D cl A nL cells slots ws lv pc (.long y :: .long x :: st) :=
  fun H locs ls hP hD hS hl => W.lcmp C.1 C.2.1 hdg (lv_if_ge C.1 C.2.1 hdg2 ht (fun q => kt (fun r => absurd (z_cmp_lt.mpr r) (Int32.not_lt.mpr q)) H locs ls hP hD hS hl) (fun q => kf (z_cmp_lt.mp (Int32.not_le.mp q)) H locs ls hP hD hS hl))
theorem z_ws (ws' : va_W) (h : ws = ws') (kk : zW cn p l e R s m args below meth c Q D cl A nL cells slots ws' lv pc st) : zW cn p l e R s m args below meth c Q D cl A nL cells slots ws lv pc st := h ▸ kk
theorem z_lveq (lv' : List (Nat × Value)) (h : lv = lv') (kk : zW cn p l e R s m args below meth c Q D cl A nL cells slots ws lv' pc st) : zW cn p l e R s m args below meth c Q D cl A nL cells slots ws lv pc st := h ▸ kk
theorem z_iushr (C : zK sa D cl tys A p s m args meth c cc nL own Ts ret) {x y v : Int32} (hdg : decode cc pc = .ok (.iushr, 1)) (hv : (x.toUInt32 >>> (y.toUInt32 &&& Int32.toUInt32 31)).toInt32 = v) (kk : zW cn p l e R s m args below meth c Q D cl A nL cells slots ws lv (pc + 1) (.int v :: st)) : zW cn p l e R s m args below meth c Q D cl A nL cells slots ws lv pc (.int y :: .int x :: st) :=
  fun H locs ls hP hD hS hl => lv_iushr C.1 C.2.1 hdg hv (kk H locs ls hP hD hS hl)
theorem z_ldcw (C : zK sa D cl tys A p s m args meth c cc nL own Ts ret) {index : Nat} {v : Int32} (hm : Cond.constant own index v ∈ Ts) (hdg : decode cc pc = .ok (.ldc_w index, 3)) (kk : zW cn p l e R s m args below meth c Q D cl A nL cells slots ws lv (pc + 3) (.int v :: st)) : zW cn p l e R s m args below meth c Q D cl A nL cells slots ws lv pc st :=
  fun H locs ls hP hD hS hl => lv_ldcw C.1 C.2.1 C.2.2.2.1 (C.2.2.2.2.1 _ hm) hdg (kk H locs ls hP hD hS hl)
end ZS
end
section
/-! what both sides compute: rows of numbers, queues, sets -/
section SP
def ix (x : Int32) : Nat := x.toNatClampNeg
theorem ix_nI {n : Nat} (h : n < 2 ^ 31) : ix (nI n) = n := nI_clamp h
def wf5 (n : Nat) (f : Nat → Int32) : Prop := ∀ p, p < n → f p = nI (ix (f p)) ∧ ix (f p) < 5
def wfB (f : Nat → Int32) : Prop := ∀ p, f p = 0 ∨ f p = 1
theorem z_mulc (c y : Nat) : nI c * nI y = nI (y * c) := by rw [Nat.mul_comm]; exact pk_mul c y
/-- x leaves f for t -/
def mvA (f t : Nat) (x : Int32) (g : Nat → Int32) : Nat → Int32 := upd (upd g f (g f - x)) t (upd g f (g f - x) t + x)
def mvN (f t : Nat) (x : Int32) (g : Nat → Int32) : Nat → Int32 := upd (upd g (f * 5 + t) (g (f * 5 + t) + x)) (t * 5 + f) (upd g (f * 5 + t) (g (f * 5 + t) + x) (t * 5 + f) - x)
def cntW (wai : Nat → Int32) : Nat → Nat
  | 0 => 0
  | n + 1 => cntW wai n + if wai n = 0 then 0 else 1
theorem cntW_le (wai : Nat → Int32) : ∀ n, cntW wai n ≤ n
  | 0 => Nat.le_refl 0
  | n + 1 => by have := cntW_le wai n; unfold cntW; split <;> omega
/-- why a payment doesn't go -/
def obs (acc net flo bnd frm too amt wai : Nat → Int32) (p : Nat) : Int32 := if wai p = 0 then 3 else if flo (ix (frm p)) ≤ acc (ix (frm p)) - amt p then (if net (ix (frm p) * 5 + ix (too p)) + amt p ≤ bnd (ix (frm p) * 5 + ix (too p)) then 0 else 2) else 1
def ordL (pri : Nat → Int32) (n : Nat) : List Nat := (List.range n).filter (fun p => decide (pri p = 2)) ++ ((List.range n).filter (fun p => decide (pri p = 1)) ++ (List.range n).filter (fun p => decide (pri p = 0)))
def isq (wai frm : Nat → Int32) (b : Nat) (p : Nat) : Bool := decide (wai p ≠ 0 ∧ ix (frm p) = b)
def oI : Option Nat → Int32
  | none => -1
  | some p => nI p
def atQ (L : List Nat) (f : Nat → Bool) (k : Nat) : Option Nat := (L.filter f)[k]?
def bypOK (byp pri : Nat → Int32) (n : Nat) : Prop := ∀ i, i < n → ∃ p, (ordL pri n)[i]? = some p ∧ byp i = nI p
def snd5 (acc flo net bnd : Nat → Int32) : Prop := (∀ b, b < 5 → flo b ≤ acc b) ∧ ∀ q, q < 25 → net q ≤ bnd q
def clrN (net : Nat → Int32) (i : Nat) : Nat → Int32 := fun k => if k < i then 0 else net k
theorem clrN_0 (net : Nat → Int32) : clrN net 0 = net := by funext k; simp [clrN]
theorem clrN_s (net : Nat → Int32) (i : Nat) : upd (clrN net i) i 0 = clrN net (i + 1) := by
  funext k
  unfold upd clrN
  by_cases h : k = i
  · subst h; simp
  · simp only [h, if_false]
    by_cases h2 : k < i
    · rw [if_pos h2, if_pos (by omega)]
    · rw [if_neg h2, if_neg (by omega)]
def dropW (frm too : Nat → Int32) (b i : Nat) (wai : Nat → Int32) : Nat → Int32 := fun p => if p < i ∧ (ix (frm p) = b ∨ ix (too p) = b) then 0 else wai p
theorem dropW_0 (frm too wai : Nat → Int32) (b : Nat) : dropW frm too b 0 wai = wai := by funext k; simp [dropW]
theorem dropW_y {frm too wai : Nat → Int32} {b i : Nat} (h : ix (frm i) = b ∨ ix (too i) = b) : upd (dropW frm too b i wai) i 0 = dropW frm too b (i + 1) wai := by
  funext k
  unfold upd dropW
  by_cases e : k = i
  · subst e; simp [h]
  · simp only [e, if_false]
    by_cases h2 : k < i
    · simp [h2, show k < i + 1 by omega]
    · simp [h2, show ¬ k < i + 1 by omega]
theorem dropW_n {frm too wai : Nat → Int32} {b i : Nat} (h : ¬ ix (frm i) = b) (h2 : ¬ ix (too i) = b) : dropW frm too b i wai = dropW frm too b (i + 1) wai := by
  funext k
  unfold dropW
  by_cases e : k = i
  · subst e; simp [h, h2]
  · by_cases h3 : k < i
    · simp [h3, show k < i + 1 by omega]
    · simp [h3, show ¬ k < i + 1 by omega]
theorem filt_le (q : Nat → Nat → Bool) (hd : ∀ p a b, q a p = true → q b p = true → a = b) : ∀ n, ((List.range n).filter (q 2)).length + (((List.range n).filter (q 1)).length + ((List.range n).filter (q 0)).length) ≤ n
  | 0 => by simp
  | n + 1 => by
    have ih := filt_le q hd n
    simp only [List.range_succ, List.filter_append, List.length_append]
    have h1 := hd n 2 1
    have h2 := hd n 2 0
    have h3 := hd n 1 0
    cases e2 : q 2 n <;> cases e1 : q 1 n <;> cases e0 : q 0 n <;> simp_all <;> omega
theorem ordL_len (pri : Nat → Int32) (n : Nat) : (ordL pri n).length ≤ n := by
  have h := filt_le (fun a p => decide (pri p = nI a) && decide (a < 3)) (by
    intro p a b h1 h2
    simp only [Bool.and_eq_true, decide_eq_true_eq] at h1 h2
    exact (nI_eq (by omega) (by omega)).mp (h1.1.symm.trans h2.1)) n
  unfold ordL
  simp only [List.length_append]
  simp at h
  exact h
theorem ordL_mem {pri : Nat → Int32} {n p : Nat} (h : p ∈ ordL pri n) : p < n := by
  unfold ordL at h
  simp only [List.mem_append, List.mem_filter, List.mem_range] at h
  omega
theorem atQ_found {L : List Nat} {f : Nat → Bool} {i k p : Nat} (hi : L[i]? = some p) (hf : f p = true) (ha : k = ((L.take i).filter f).length) : atQ L f k = some p := by
  obtain ⟨hl, hp⟩ := List.getElem?_eq_some_iff.mp hi
  have e : L = L.take i ++ p :: L.drop (i + 1) := by
    rw [← hp, List.getElem_cons_drop, List.take_append_drop]
  unfold atQ
  have e2 : L.filter f = (L.take i).filter f ++ p :: (L.drop (i + 1)).filter f := by
    conv => lhs; rw [e]
    rw [List.filter_append, List.filter_cons, if_pos hf]
  rw [e2, ha, List.getElem?_append_right (Nat.le_refl _)]
  simp
theorem atQ_yes {L : List Nat} {f : Nat → Bool} {i p : Nat} (hi : L[i]? = some p) (hf : f p = true) : ((L.take (i + 1)).filter f).length = ((L.take i).filter f).length + 1 := by
  rw [List.take_succ, hi, List.filter_append]
  simp [hf]
theorem atQ_no {L : List Nat} {f : Nat → Bool} {i p : Nat} (hi : L[i]? = some p) (hf : ¬ f p = true) : ((L.take (i + 1)).filter f).length = ((L.take i).filter f).length := by
  rw [List.take_succ, hi, List.filter_append]
  simp [hf]
theorem atQ_end {L : List Nat} {f : Nat → Bool} {i k : Nat} (hi : L.length ≤ i) (ha : ((L.take i).filter f).length ≤ k) : atQ L f k = none := by
  rw [List.take_of_length_le hi] at ha
  unfold atQ
  exact List.getElem?_eq_none ha
theorem atQ_mem {L : List Nat} {f : Nat → Bool} {k p : Nat} (h : atQ L f k = some p) : p ∈ L ∧ f p = true := List.mem_filter.mp (List.mem_of_getElem? h)
theorem nI_m1 {n : Nat} (h : n < 2147483648) : ¬ nI n = -1 := by
  intro e
  have h1 := nI_toInt (n := n) h
  rw [e] at h1
  have h2 : (-1 : Int32).toInt = -1 := by decide
  omega
/-- small payments of a bank that can go -/
def fsm (acc net flo bnd frm too amt wai : Nat → Int32) (small : Int32) (b : Nat) (q : Nat) : Bool := isq wai frm b q && (decide (¬ small < amt q) && decide (obs acc net flo bnd frm too amt wai q = 0))
def nxtQ (L : List Nat) (acc net flo bnd frm too amt wai : Nat → Int32) (small : Int32) (b : Nat) : Option Nat :=
  match atQ L (isq wai frm b) 0 with
  | none => none
  | some p => if obs acc net flo bnd frm too amt wai p = 0 then some p else L.find? (fsm acc net flo bnd frm too amt wai small b)
theorem fd_found {L : List Nat} {f : Nat → Bool} {i p : Nat} (hi : L[i]? = some p) (hf : f p = true) (ha : (L.take i).find? f = none) : L.find? f = some p := by
  obtain ⟨hl, hp⟩ := List.getElem?_eq_some_iff.mp hi
  have e : L = L.take i ++ p :: L.drop (i + 1) := by
    rw [← hp, List.getElem_cons_drop, List.take_append_drop]
  rw [e, List.find?_append, ha]
  simp [hf]
theorem fd_no {L : List Nat} {f : Nat → Bool} {i p : Nat} (hi : L[i]? = some p) (hf : ¬ f p = true) (ha : (L.take i).find? f = none) : (L.take (i + 1)).find? f = none := by
  rw [List.take_succ, hi, List.find?_append, ha]
  simp [hf]
theorem fd_end {L : List Nat} {f : Nat → Bool} {i : Nat} (hi : L.length ≤ i) (ha : (L.take i).find? f = none) : L.find? f = none := by
  rw [List.take_of_length_le hi] at ha
  exact ha
theorem fd_mem {L : List Nat} {f : Nat → Bool} {p : Nat} (h : L.find? f = some p) : p ∈ L ∧ f p = true := ⟨List.mem_of_find?_eq_some h, List.find?_some h⟩
theorem fsm_isq {acc net flo bnd frm too amt wai : Nat → Int32} {small : Int32} {b q : Nat} (h : fsm acc net flo bnd frm too amt wai small b q = true) : isq wai frm b q = true := by
  unfold fsm at h
  simp only [Bool.and_eq_true] at h
  exact h.1
theorem nxtQ_mem {pri acc net flo bnd frm too amt wai : Nat → Int32} {small : Int32} {n b p : Nat} (h : nxtQ (ordL pri n) acc net flo bnd frm too amt wai small b = some p) : p < n ∧ isq wai frm b p = true := by
  unfold nxtQ at h
  cases e : atQ (ordL pri n) (isq wai frm b) 0 with
  | none => rw [e] at h; cases h
  | some q =>
    rw [e] at h
    dsimp only at h
    split at h
    · cases h
      exact ⟨ordL_mem (atQ_mem e).1, (atQ_mem e).2⟩
    · exact ⟨ordL_mem (fd_mem h).1, fsm_isq (fd_mem h).2⟩
/-- a going through the banks: accounts, paid, waiting, how many went -/
abbrev T4 : Type := (Nat → Int32) × (Nat → Int32) × (Nat → Int32) × Nat
def passF (L : List Nat) (flo bnd frm too amt : Nat → Int32) (small : Int32) (acc net wai : Nat → Int32) : Nat → T4
  | 0 => (acc, net, wai, 0)
  | b + 1 => match nxtQ L (passF L flo bnd frm too amt small acc net wai b).1 (passF L flo bnd frm too amt small acc net wai b).2.1 flo bnd frm too amt (passF L flo bnd frm too amt small acc net wai b).2.2.1 small b with
    | none => passF L flo bnd frm too amt small acc net wai b
    | some p => (mvA (ix (frm p)) (ix (too p)) (amt p) (passF L flo bnd frm too amt small acc net wai b).1, mvN (ix (frm p)) (ix (too p)) (amt p) (passF L flo bnd frm too amt small acc net wai b).2.1, upd (passF L flo bnd frm too amt small acc net wai b).2.2.1 p 0, (passF L flo bnd frm too amt small acc net wai b).2.2.2 + 1)
theorem sp_and (a b : Nat) : nI a &&& nI b = nI (a &&& b) := by
  apply Int32.toBitVec_inj.1
  show BitVec.ofNat 32 a &&& BitVec.ofNat 32 b = BitVec.ofNat 32 (a &&& b)
  apply BitVec.eq_of_getLsbD_eq
  intro i hi
  simp [hi]
theorem z_shl1 {k : Nat} (hk : k < 11) : (1 : Int32) <<< (nI k &&& 31) = nI (2 ^ k) := by
  have h : ∀ k, k < 11 → (1 : Int32) <<< (nI k &&& 31) = nI (2 ^ k) := by decide
  exact h k hk
theorem z_bit {S k : Nat} (hS : S < 1024) (hk : k < 10) : (nI S &&& nI (2 ^ k)) = 0 ↔ S.testBit k = false := by
  have h2 : (2 : Nat) ^ k ≤ 512 := Nat.le_trans (Nat.pow_le_pow_right (by decide) (show k ≤ 9 by omega)) (by decide)
  have hle : S &&& 2 ^ k ≤ 2 ^ k := Nat.and_le_right
  rw [sp_and]
  have e : nI (S &&& 2 ^ k) = 0 ↔ S &&& 2 ^ k = 0 := nI_eq (b := 0) (by omega) (by decide)
  rw [e]
  constructor
  · intro h
    have h1 : (S &&& 2 ^ k).testBit k = false := by rw [h]; simp
    rw [Nat.testBit_and] at h1
    simpa [Nat.testBit_two_pow_self] using h1
  · intro h
    apply Nat.eq_of_testBit_eq
    intro i
    rw [Nat.testBit_and, Nat.testBit_two_pow]
    by_cases hi : k = i
    · subst hi; simp [h]
    · simp [hi]
def pc5 (S : Nat) : Nat := 0 + (S.testBit 0).toNat + (S.testBit 1).toNat + (S.testBit 2).toNat + (S.testBit 3).toNat + (S.testBit 4).toNat
theorem pc5_le (S : Nat) : pc5 S ≤ 5 := by
  unfold pc5
  have h : ∀ b : Bool, b.toNat ≤ 1 := fun b => by cases b <;> decide
  have h0 := h (S.testBit 0); have h1 := h (S.testBit 1); have h2 := h (S.testBit 2); have h3 := h (S.testBit 3); have h4 := h (S.testBit 4)
  omega
def sndB (acc flo net bnd : Nat → Int32) : Bool := (List.range 5).all (fun b => decide (flo b ≤ acc b)) && (List.range 25).all (fun q => decide (net q ≤ bnd q))
theorem sndB_iff {acc flo net bnd : Nat → Int32} : sndB acc flo net bnd = true ↔ (∀ b, b < 5 → flo b ≤ acc b) ∧ ∀ q, q < 25 → net q ≤ bnd q := by
  unfold sndB
  rw [Bool.and_eq_true, List.all_eq_true, List.all_eq_true]
  simp only [List.mem_range, decide_eq_true_eq]
theorem sndB_cong {a a' n n' flo bnd : Nat → Int32} (ha : ∀ k, k < 5 → a k = a' k) (hn : ∀ k, k < 25 → n k = n' k) : sndB a flo n bnd = sndB a' flo n' bnd := by
  rw [Bool.eq_iff_iff, sndB_iff, sndB_iff]
  constructor
  · exact fun h => ⟨fun b hb => by rw [← ha b hb]; exact h.1 b hb, fun q hq => by rw [← hn q hq]; exact h.2 q hq⟩
  · exact fun h => ⟨fun b hb => by rw [ha b hb]; exact h.1 b hb, fun q hq => by rw [hn q hq]; exact h.2 q hq⟩
/-- the payments of a set go, one behind another -/
def goS (frm too amt : Nat → Int32) (cn : Nat → Option Nat) (S : Nat) (g h : Nat → Int32) : Nat → Option ((Nat → Int32) × (Nat → Int32))
  | 0 => some (g, h)
  | k + 1 => match goS frm too amt cn S g h k with
    | none => none
    | some r => if S.testBit k = true then (match cn k with
      | none => none
      | some p => some (mvA (ix (frm p)) (ix (too p)) (amt p) r.1, mvN (ix (frm p)) (ix (too p)) (amt p) r.2)) else some r
theorem upd_cong {a b : Nat → Int32} {n k : Nat} {x y : Int32} (h : ∀ j, j < n → a j = b j) (e : x = y) : ∀ j, j < n → upd a k x j = upd b k y j := by
  intro j hj
  unfold upd
  by_cases q : j = k
  · simp [q, e]
  · simp [q, h j hj]
theorem mvA_cong {a b : Nat → Int32} {f t : Nat} {x : Int32} (hf : f < 5) (ht : t < 5) (h : ∀ j, j < 5 → a j = b j) : ∀ j, j < 5 → mvA f t x a j = mvA f t x b j := by
  have h1 : ∀ j, j < 5 → upd a f (a f - x) j = upd b f (b f - x) j := upd_cong h (by rw [h f hf])
  exact upd_cong h1 (by rw [h1 t ht])
theorem mvN_cong {a b : Nat → Int32} {f t : Nat} {x : Int32} (hf : f < 5) (ht : t < 5) (h : ∀ j, j < 25 → a j = b j) : ∀ j, j < 25 → mvN f t x a j = mvN f t x b j := by
  have h1 : ∀ j, j < 25 → upd a (f * 5 + t) (a (f * 5 + t) + x) j = upd b (f * 5 + t) (b (f * 5 + t) + x) j := upd_cong h (by rw [h _ (by omega)])
  exact upd_cong h1 (by rw [h1 _ (by omega)])
theorem goS_cong {frm too amt : Nat → Int32} {cn : Nat → Option Nat} {S n : Nat} {g h g' h' : Nat → Int32} (hf : wf5 n frm) (ht : wf5 n too) (hcn : ∀ k p, cn k = some p → p < n) (hg : ∀ j, j < 5 → g j = g' j) (hh : ∀ j, j < 25 → h j = h' j) : ∀ k,
    (goS frm too amt cn S g h k = none ∧ goS frm too amt cn S g' h' k = none) ∨ ∃ r r', goS frm too amt cn S g h k = some r ∧ goS frm too amt cn S g' h' k = some r' ∧ (∀ j, j < 5 → r.1 j = r'.1 j) ∧ ∀ j, j < 25 → r.2 j = r'.2 j
  | 0 => Or.inr ⟨_, _, rfl, rfl, hg, hh⟩
  | k + 1 => by
    rcases goS_cong (amt := amt) (S := S) hf ht hcn hg hh k with ⟨e1, e2⟩ | ⟨r, r', e1, e2, h1, h2⟩
    · exact Or.inl ⟨by simp only [goS, e1], by simp only [goS, e2]⟩
    · by_cases hb : S.testBit k = true
      · cases hc : cn k with
        | none => exact Or.inl ⟨by simp only [goS, e1, hb, if_true, hc], by simp only [goS, e2, hb, if_true, hc]⟩
        | some p =>
          refine Or.inr ⟨_, _, by simp only [goS, e1, hb, if_true, hc]; rfl, by simp only [goS, e2, hb, if_true, hc]; rfl, ?_, ?_⟩
          · exact mvA_cong (hf p (hcn k p hc)).2 (ht p (hcn k p hc)).2 h1
          · exact mvN_cong (hf p (hcn k p hc)).2 (ht p (hcn k p hc)).2 h2
      · exact Or.inr ⟨r, r', by simp only [goS, e1, hb]; rfl, by simp only [goS, e2, hb]; rfl, h1, h2⟩
theorem goS_none {frm too amt : Nat → Int32} {cn : Nat → Option Nat} {S : Nat} {g h : Nat → Int32} {k : Nat} (e : goS frm too amt cn S g h k = none) : ∀ j, goS frm too amt cn S g h (k + j) = none
  | 0 => e
  | j + 1 => by
    have := goS_none e j
    show goS frm too amt cn S g h ((k + j) + 1) = none
    simp only [goS, this]
def okS (frm too amt flo bnd : Nat → Int32) (cn : Nat → Option Nat) (c : Nat) (acc net : Nat → Int32) (S : Nat) : Bool :=
  match goS frm too amt cn S acc net c with
  | none => false
  | some r => sndB r.1 flo r.2 bnd
theorem okS_e {frm too amt flo bnd acc net : Nat → Int32} {cn : Nat → Option Nat} {S c : Nat} (e : goS frm too amt cn S acc net c = none) : okS frm too amt flo bnd cn c acc net S = false := by
  unfold okS; rw [e]
abbrev cpA (acc tacc : Nat → Int32) : Nat → Int32 := va_cpy acc tacc 0 0 5
abbrev cpN (net tnet : Nat → Int32) : Nat → Int32 := va_cpy net tnet 0 0 25
theorem cpA_at {acc tacc : Nat → Int32} : ∀ j, j < 5 → cpA acc tacc j = acc j := fun j h => by rw [cpA, pk_cpy_in (Nat.zero_le j) (by omega)]; simp
theorem cpN_at {acc tacc : Nat → Int32} : ∀ j, j < 25 → cpN acc tacc j = acc j := fun j h => by rw [cpN, pk_cpy_in (Nat.zero_le j) (by omega)]; simp
theorem okS_none {frm too amt flo bnd acc net tacc tnet : Nat → Int32} {cn : Nat → Option Nat} {S n k c : Nat} (hf : wf5 n frm) (ht : wf5 n too) (hcn : ∀ k p, cn k = some p → p < n) (hk : k ≤ c) (e : goS frm too amt cn S (cpA acc tacc) (cpN net tnet) k = none) : okS frm too amt flo bnd cn c acc net S = false := by
  have e1 := goS_none e (c - k)
  rw [show k + (c - k) = c by omega] at e1
  unfold okS
  rcases goS_cong (amt := amt) (S := S) hf ht hcn (cpA_at (acc := acc) (tacc := tacc)) (cpN_at (acc := net) (tacc := tnet)) c with ⟨e2, e3⟩ | ⟨r, r', e2, e3, h1, h2⟩
  · rw [e3]
  · rw [e1] at e2; cases e2
theorem okS_some {frm too amt flo bnd acc net tacc tnet : Nat → Int32} {cn : Nat → Option Nat} {S n c : Nat} {r : (Nat → Int32) × (Nat → Int32)} (hf : wf5 n frm) (ht : wf5 n too) (hcn : ∀ k p, cn k = some p → p < n) (e : goS frm too amt cn S (cpA acc tacc) (cpN net tnet) c = some r) : okS frm too amt flo bnd cn c acc net S = sndB r.1 flo r.2 bnd := by
  unfold okS
  rcases goS_cong (amt := amt) (S := S) hf ht hcn (cpA_at (acc := acc) (tacc := tacc)) (cpN_at (acc := net) (tacc := tnet)) c with ⟨e2, e3⟩ | ⟨r1, r', e2, e3, h1, h2⟩
  · rw [e] at e2; cases e2
  · rw [e] at e2; cases e2
    rw [e3]
    exact sndB_cong (fun k hk => (h1 k hk).symm) (fun k hk => (h2 k hk).symm)
def wlL (wai : Nat → Int32) (n : Nat) : List Nat := (List.range n).filter (fun p => decide (wai p ≠ 0))
theorem wlL_len (wai : Nat → Int32) : ∀ n, (wlL wai n).length = cntW wai n
  | 0 => rfl
  | n + 1 => by
    have := wlL_len wai n
    unfold wlL at this ⊢
    rw [List.range_succ, List.filter_append, List.length_append, this, cntW]
    by_cases h : wai n = 0 <;> simp [h]
theorem wlL_y {wai : Nat → Int32} {n : Nat} (h : ¬ wai n = 0) : wlL wai (n + 1) = wlL wai n ++ [n] := by
  unfold wlL
  rw [List.range_succ, List.filter_append]
  simp [h]
theorem wlL_n {wai : Nat → Int32} {n : Nat} (h : wai n = 0) : wlL wai (n + 1) = wlL wai n := by
  unfold wlL
  rw [List.range_succ, List.filter_append]
  simp [h]
theorem wlL_pre (wai : Nat → Int32) (n : Nat) : ∀ j, ∃ r, wlL wai (n + j) = wlL wai n ++ r
  | 0 => ⟨[], by simp⟩
  | j + 1 => by
    obtain ⟨r, hr⟩ := wlL_pre wai n j
    by_cases h : wai (n + j) = 0
    · exact ⟨r, by rw [← Nat.add_assoc, wlL_n h, hr]⟩
    · exact ⟨r ++ [n + j], by rw [← Nat.add_assoc, wlL_y h, hr, List.append_assoc]⟩
theorem wlL_full {wai : Nat → Int32} {n i : Nat} (hi : i ≤ n) (h : (wlL wai n).length ≤ (wlL wai i).length) : wlL wai n = wlL wai i := by
  obtain ⟨r, hr⟩ := wlL_pre wai i (n - i)
  rw [show i + (n - i) = n by omega] at hr
  rw [hr, List.length_append] at h
  have : r = [] := List.eq_nil_of_length_eq_zero (by omega)
  rw [hr, this, List.append_nil]
theorem wlL_mem {wai : Nat → Int32} {n k p : Nat} (h : (wlL wai n)[k]? = some p) : p < n := by
  have := List.mem_of_getElem? h
  unfold wlL at this
  exact List.mem_range.mp (List.mem_filter.mp this).1
theorem cn_step {f : Nat → Int32} {L : List Nat} {p : Nat} (h : ∀ k, k < L.length → f k = oI L[k]?) : ∀ k, k < (L ++ [p]).length → upd f L.length (nI p) k = oI (L ++ [p])[k]? := by
  intro k hk
  rw [List.length_append, List.length_singleton] at hk
  unfold upd
  by_cases e : k = L.length
  · subst e; simp [oI]
  · rw [if_neg e, List.getElem?_append_left (by omega)]
    exact h k (by omega)
def filC (f : Nat → Option Nat) (c : Nat → Int32) (i : Nat) : Nat → Int32 := fun k => if k < i then oI (f k) else c k
theorem filC_0 (f : Nat → Option Nat) (c : Nat → Int32) : filC f c 0 = c := by funext k; simp [filC]
theorem filC_s {f : Nat → Option Nat} {c : Nat → Int32} {i : Nat} {x : Int32} (h : oI (f i) = x) : upd (filC f c i) i x = filC f c (i + 1) := by
  subst h
  funext k
  unfold upd filC
  by_cases e : k = i
  · subst e; simp
  · simp only [e, if_false]
    by_cases h2 : k < i
    · simp [h2, show k < i + 1 by omega]
    · simp [h2, show ¬ k < i + 1 by omega]
def fcnQ (L : List Nat) (wai frm : Nat → Int32) (b : Nat) : Option Nat := atQ L (isq wai frm b) 0
theorem fcnQ_lt {pri wai frm : Nat → Int32} {n : Nat} : ∀ k p, fcnQ (ordL pri n) wai frm k = some p → p < n := fun k p h => ordL_mem (atQ_mem h).1
def bestS (ok : Nat → Bool) : Nat → Nat
  | 0 => 0
  | s + 1 => if pc5 (bestS ok s) < pc5 s ∧ ok s = true then s else bestS ok s
theorem bestS_lt (ok : Nat → Bool) : ∀ s, bestS ok s ≤ s
  | 0 => Nat.le_refl 0
  | s + 1 => by have := bestS_lt ok s; unfold bestS; split <;> omega
theorem bestS_ok (ok : Nat → Bool) : ∀ s, bestS ok s = 0 ∨ ok (bestS ok s) = true
  | 0 => Or.inl rfl
  | s + 1 => by
    unfold bestS
    split
    · rename_i h; exact Or.inr h.2
    · exact bestS_ok ok s
theorem goS_bit {frm too amt : Nat → Int32} {cn : Nat → Option Nat} {S : Nat} {g h : Nat → Int32} {k : Nat} (hb : S.testBit k = true) (hc : cn k = none) : goS frm too amt cn S g h (k + 1) = none := by
  unfold goS
  cases e : goS frm too amt cn S g h k with
  | none => rfl
  | some r => simp only [hb, if_true, hc]
theorem best_some {frm too amt flo bnd acc net : Nat → Int32} {cn : Nat → Option Nat} {k s : Nat} (hk : k < 5) (hb : (bestS (okS frm too amt flo bnd cn 5 acc net) s).testBit k = true) : ¬ cn k = none := by
  intro hc
  rcases bestS_ok (okS frm too amt flo bnd cn 5 acc net) s with h | h
  · rw [h] at hb; simp at hb
  · have e := goS_none (goS_bit (frm := frm) (too := too) (amt := amt) (g := acc) (h := net) hb hc) (4 - k)
    rw [show k + 1 + (4 - k) = 5 by omega] at e
    rw [okS_e e] at h
    cases h
/-- what goes of a set -/
def snB (frm too amt : Nat → Int32) (cn : Nat → Option Nat) (S : Nat) (acc net wai : Nat → Int32) : Nat → (Nat → Int32) × (Nat → Int32) × (Nat → Int32)
  | 0 => (acc, net, wai)
  | k + 1 => if S.testBit k = true then (match cn k with
      | none => snB frm too amt cn S acc net wai k
      | some p => (mvA (ix (frm p)) (ix (too p)) (amt p) (snB frm too amt cn S acc net wai k).1, mvN (ix (frm p)) (ix (too p)) (amt p) (snB frm too amt cn S acc net wai k).2.1, upd (snB frm too amt cn S acc net wai k).2.2 p 0)) else snB frm too amt cn S acc net wai k
def bestQ (L : List Nat) (flo bnd frm too amt acc net wai : Nat → Int32) : Nat := bestS (okS frm too amt flo bnd (fcnQ L wai frm) 5 acc net) 32
def togF (L : List Nat) (flo bnd frm too amt acc net wai : Nat → Int32) : T4 :=
  ((snB frm too amt (fcnQ L wai frm) (bestQ L flo bnd frm too amt acc net wai) acc net wai 5).1, (snB frm too amt (fcnQ L wai frm) (bestQ L flo bnd frm too amt acc net wai) acc net wai 5).2.1, (snB frm too amt (fcnQ L wai frm) (bestQ L flo bnd frm too amt acc net wai) acc net wai 5).2.2, pc5 (bestQ L flo bnd frm too amt acc net wai))
def rndF (L : List Nat) (flo bnd frm too amt : Nat → Int32) (small : Int32) (acc net wai : Nat → Int32) : T4 :=
  if (passF L flo bnd frm too amt small acc net wai 5).2.2.2 = 0 then togF L flo bnd frm too amt (passF L flo bnd frm too amt small acc net wai 5).1 (passF L flo bnd frm too amt small acc net wai 5).2.1 (passF L flo bnd frm too amt small acc net wai 5).2.2.1 else passF L flo bnd frm too amt small acc net wai 5
def runF (L : List Nat) (flo bnd frm too amt : Nat → Int32) (small : Int32) : Nat → (Nat → Int32) → (Nat → Int32) → (Nat → Int32) → Int32 → (Nat → Int32) × (Nat → Int32) × (Nat → Int32) × Int32
  | 0, acc, net, wai, g => (acc, net, wai, g)
  | f + 1, acc, net, wai, g => if (rndF L flo bnd frm too amt small acc net wai).2.2.2 = 0 then ((rndF L flo bnd frm too amt small acc net wai).1, (rndF L flo bnd frm too amt small acc net wai).2.1, (rndF L flo bnd frm too amt small acc net wai).2.2.1, g)
    else runF L flo bnd frm too amt small f (rndF L flo bnd frm too amt small acc net wai).1 (rndF L flo bnd frm too amt small acc net wai).2.1 (rndF L flo bnd frm too amt small acc net wai).2.2.1 (g + nI (rndF L flo bnd frm too amt small acc net wai).2.2.2)
def anyB (ok : Nat → Bool) (N : Nat) : Bool := (List.range N).any (fun S => decide (1 ≤ S) && ok S)
theorem anyB_y {ok : Nat → Bool} {N S : Nat} (h1 : 1 ≤ S) (h2 : S < N) (h : ok S = true) : anyB ok N = true := by
  unfold anyB
  rw [List.any_eq_true]
  exact ⟨S, List.mem_range.mpr h2, by simp [h1, h]⟩
theorem anyB_n {ok : Nat → Bool} {N : Nat} (h : ∀ S, S < N → 1 ≤ S → ok S = false) : anyB ok N = false := by
  unfold anyB
  rw [List.any_eq_false]
  intro S hS
  by_cases h1 : 1 ≤ S
  · simp [h S (List.mem_range.mp hS) h1]
  · simp [h1]
theorem bestS_1 (ok : Nat → Bool) : bestS ok 1 = 0 := by simp [bestS]
theorem bestS_y {ok : Nat → Bool} {s : Nat} (h1 : ¬ pc5 s ≤ pc5 (bestS ok s)) (h2 : ok s = true) : bestS ok (s + 1) = s := by
  rw [bestS, if_pos ⟨by omega, h2⟩]
theorem bestS_n1 {ok : Nat → Bool} {s : Nat} (h1 : pc5 s ≤ pc5 (bestS ok s)) : bestS ok (s + 1) = bestS ok s := by
  rw [bestS, if_neg (fun h => by omega)]
theorem bestS_n2 {ok : Nat → Bool} {s : Nat} (h1 : ¬ ok s = true) : bestS ok (s + 1) = bestS ok s := by
  rw [bestS, if_neg (fun h => h1 h.2)]
theorem filC_at {f : Nat → Option Nat} {c : Nat → Int32} {i k : Nat} (h : k < i) : filC f c i k = oI (f k) := by simp [filC, h]
theorem passF_le (L : List Nat) (flo bnd frm too amt : Nat → Int32) (small : Int32) (acc net wai : Nat → Int32) : ∀ b, (passF L flo bnd frm too amt small acc net wai b).2.2.2 ≤ b
  | 0 => Nat.le_refl 0
  | b + 1 => by
    have := passF_le L flo bnd frm too amt small acc net wai b
    unfold passF
    split
    · omega
    · dsimp only; omega
theorem togF_le (L : List Nat) (flo bnd frm too amt acc net wai : Nat → Int32) : (togF L flo bnd frm too amt acc net wai).2.2.2 ≤ 5 := pc5_le _
def wf3 (n : Nat) (f : Nat → Int32) : Prop := ∀ p, p < n → f p = nI (ix (f p)) ∧ ix (f p) < 3
def insP (byp : Nat → Int32) (n j : Nat) : Nat → Int32 := fun i => if j < i ∧ i ≤ n then byp (i - 1) else byp i
theorem insP_0 (byp : Nat → Int32) (n : Nat) : insP byp n n = byp := by
  funext i; unfold insP; rw [if_neg (by omega)]
theorem insP_at {byp : Nat → Int32} {n j i : Nat} (h : i ≤ j) : insP byp n j i = byp i := by
  unfold insP; rw [if_neg (by omega)]
theorem insP_s {byp : Nat → Int32} {n j : Nat} {x : Int32} (h0 : 0 < j) (hj : j ≤ n) (h : byp (j - 1) = x) : upd (insP byp n j) j x = insP byp n (j - 1) := by
  subst h
  funext i
  unfold upd insP
  by_cases e : i = j
  · subst e; rw [if_pos rfl, if_pos (by omega)]
  · rw [if_neg e]
    by_cases h2 : j < i ∧ i ≤ n
    · rw [if_pos h2, if_pos (by omega)]
    · rw [if_neg h2, if_neg (by omega)]
theorem upd_ne {f : Nat → Int32} {k j : Nat} {x y : Int32} (h : j ≠ k) (e : f j = y) : upd f k x j = y := by unfold upd; rw [if_neg h]; exact e
theorem ordL_pri {pri : Nat → Int32} {n : Nat} : (ordL pri n).Pairwise (fun a b => ix (pri b) ≤ ix (pri a)) := by
  have hP : ∀ (v : Int32), ∀ a ∈ (List.range n).filter (fun p => decide (pri p = v)), pri a = v := fun v a ha => of_decide_eq_true (List.mem_filter.mp ha).2
  have hs : ∀ (v : Int32), ((List.range n).filter (fun p => decide (pri p = v))).Pairwise (fun a b => ix (pri b) ≤ ix (pri a)) := by
    intro v
    rw [List.pairwise_iff_getElem]
    intro i j hi hj _
    rw [hP v _ (List.getElem_mem hi), hP v _ (List.getElem_mem hj)]
    exact Nat.le_refl _
  unfold ordL
  rw [List.pairwise_append, List.pairwise_append]
  refine ⟨hs 2, ⟨hs 1, hs 0, fun a ha b hb => ?_⟩, fun a ha b hb => ?_⟩
  · rw [hP 1 a ha, hP 0 b hb]; decide
  · rcases List.mem_append.mp hb with hb | hb
    · rw [hP 2 a ha, hP 1 b hb]; decide
    · rw [hP 2 a ha, hP 0 b hb]; decide
theorem ordL_le {pri : Nat → Int32} {n i k p q : Nat} (h : i ≤ k) (hp : (ordL pri n)[i]? = some p) (hq : (ordL pri n)[k]? = some q) : ix (pri q) ≤ ix (pri p) := by
  obtain ⟨h1, e1⟩ := List.getElem?_eq_some_iff.mp hp
  obtain ⟨h2, e2⟩ := List.getElem?_eq_some_iff.mp hq
  rcases Nat.lt_or_eq_of_le h with h3 | h3
  · have := (List.pairwise_iff_getElem.mp (ordL_pri (pri := pri) (n := n))) i k h1 h2 h3
    rw [e1, e2] at this
    exact this
  · subst h3
    rw [hp] at hq
    cases hq
    exact Nat.le_refl _
theorem split_at {L A B : List Nat} {P : Nat → Prop} {j : Nat} (e : L = A ++ B) (hA : ∀ a ∈ A, P a) (hB : ∀ b ∈ B, ¬ P b) (hj : j ≤ L.length) (h1 : ∀ i p, i < j → L[i]? = some p → P p) (h2 : ∀ i p, j ≤ i → L[i]? = some p → ¬ P p) : j = A.length := by
  rcases Nat.lt_trichotomy j A.length with h | h | h
  · exfalso
    have e1 : L[j]? = some A[j] := by rw [e, List.getElem?_append_left h]; exact List.getElem?_eq_getElem h
    exact h2 j _ (Nat.le_refl _) e1 (hA _ (List.getElem_mem h))
  · exact h
  · exfalso
    have hl : A.length < L.length := by omega
    have e0 : L.length = A.length + B.length := by rw [e, List.length_append]
    have hb : 0 < B.length := by omega
    have e1 : L[A.length]? = some B[0] := by rw [e, List.getElem?_append_right (Nat.le_refl _), Nat.sub_self]; exact List.getElem?_eq_getElem hb
    exact hB _ (List.getElem_mem hb) (h1 A.length _ h e1)
theorem flt_upd {pri : Nat → Int32} {n : Nat} {x v : Int32} : (List.range (n + 1)).filter (fun p => decide (upd pri n x p = v)) = (List.range n).filter (fun p => decide (pri p = v)) ++ if x = v then [n] else [] := by
  rw [List.range_succ, List.filter_append]
  congr 1
  · apply List.filter_congr
    intro p hp
    have : p ≠ n := by have := List.mem_range.mp hp; omega
    simp [upd, this]
  · by_cases h : x = v <;> simp [upd, h]
theorem ins_ord {pri : Nat → Int32} {n r j : Nat} (hr : r < 3) (hw : wf3 n pri) (hj : j ≤ (ordL pri n).length) (h1 : ∀ i p, i < j → (ordL pri n)[i]? = some p → r ≤ ix (pri p)) (h2 : ∀ i p, j ≤ i → (ordL pri n)[i]? = some p → ix (pri p) < r) :
    ordL (upd pri n (nI r)) (n + 1) = (ordL pri n).take j ++ n :: (ordL pri n).drop j := by
  have hP : ∀ (v : Int32), ∀ a ∈ (List.range n).filter (fun p => decide (pri p = v)), pri a = v := fun v a ha => of_decide_eq_true (List.mem_filter.mp ha).2
  have key : ∀ A B : List Nat, ordL pri n = A ++ B → (∀ a ∈ A, r ≤ ix (pri a)) → (∀ b ∈ B, ix (pri b) < r) → (ordL pri n).take j ++ n :: (ordL pri n).drop j = A ++ n :: B := by
    intro A B e hA hB
    have hjA : j = A.length := split_at (P := fun p => r ≤ ix (pri p)) e hA (fun b hb => by have := hB b hb; omega) hj h1 (fun i p hi hp => by have := h2 i p hi hp; omega)
    rw [hjA, e]
    simp
  have e2 : ix (2 : Int32) = 2 := by decide
  have e1 : ix (1 : Int32) = 1 := by decide
  have e0 : ix (0 : Int32) = 0 := by decide
  rcases (show r = 0 ∨ r = 1 ∨ r = 2 by omega) with rfl | rfl | rfl
  · rw [key (ordL pri n) [] (by simp) (fun a _ => Nat.zero_le _) (fun b hb => by cases hb)]
    unfold ordL
    rw [flt_upd, flt_upd, flt_upd]
    simp [show ¬ nI 0 = 2 by decide, show ¬ nI 0 = 1 by decide, show nI 0 = 0 by decide]
  · rw [key ((List.range n).filter (fun p => decide (pri p = 2)) ++ (List.range n).filter (fun p => decide (pri p = 1))) ((List.range n).filter (fun p => decide (pri p = 0))) (by unfold ordL; rw [List.append_assoc]) (fun a ha => ?_) (fun b hb => by rw [hP 0 b hb]; decide)]
    · unfold ordL
      rw [flt_upd, flt_upd, flt_upd]
      simp [show ¬ nI 1 = 2 by decide, show nI 1 = 1 by decide, show ¬ nI 1 = 0 by decide]
    · rcases List.mem_append.mp ha with h | h
      · rw [hP 2 a h]; decide
      · rw [hP 1 a h]; decide
  · rw [key ((List.range n).filter (fun p => decide (pri p = 2))) ((List.range n).filter (fun p => decide (pri p = 1)) ++ (List.range n).filter (fun p => decide (pri p = 0))) rfl (fun a ha => by rw [hP 2 a ha]; decide) (fun b hb => ?_)]
    · unfold ordL
      rw [flt_upd, flt_upd, flt_upd]
      simp [show nI 2 = 2 by decide, show ¬ nI 2 = 1 by decide, show ¬ nI 2 = 0 by decide]
    · rcases List.mem_append.mp hb with h | h
      · rw [hP 1 b h]; decide
      · rw [hP 0 b h]; decide
theorem byp_len {byp pri : Nat → Int32} {n : Nat} (h : bypOK byp pri n) : (ordL pri n).length = n := by
  refine Nat.le_antisymm (ordL_len pri n) ?_
  cases n with
  | zero => exact Nat.zero_le _
  | succ k =>
    obtain ⟨p, hp, -⟩ := h k (Nat.lt_succ_self k)
    exact (List.getElem?_eq_some_iff.mp hp).1
theorem ins_ok {byp pri : Nat → Int32} {n r j : Nat} (hr : r < 3) (hw : wf3 n pri) (hb : bypOK byp pri n) (hj : j ≤ n) (h1 : ∀ i p, i < j → (ordL pri n)[i]? = some p → r ≤ ix (pri p)) (h2 : ∀ i p, j ≤ i → (ordL pri n)[i]? = some p → ix (pri p) < r) :
    bypOK (upd (insP byp n j) j (nI n)) (upd pri n (nI r)) (n + 1) := by
  have hl := byp_len hb
  intro i hi
  rw [ins_ord hr hw (by omega) h1 h2]
  rcases Nat.lt_trichotomy i j with h | h | h
  · obtain ⟨p, hp, e⟩ := hb i (by omega)
    refine ⟨p, ?_, ?_⟩
    · rw [List.getElem?_append_left (by rw [List.length_take]; omega), List.getElem?_take_of_lt h]; exact hp
    · exact upd_ne (by omega) ((insP_at (by omega)).trans e)
  · subst h
    refine ⟨n, ?_, by unfold upd; rw [if_pos rfl]⟩
    rw [List.getElem?_append_right (by rw [List.length_take]; omega), List.length_take, show i - min i (ordL pri n).length = 0 by omega]
    rfl
  · obtain ⟨p, hp, e⟩ := hb (i - 1) (by omega)
    refine ⟨p, ?_, ?_⟩
    · rw [List.getElem?_append_right (by rw [List.length_take]; omega), List.length_take, show i - min j (ordL pri n).length = (i - j - 1) + 1 by omega, List.getElem?_cons_succ, List.getElem?_drop, show j + (i - j - 1) = i - 1 by omega]
      exact hp
    · refine upd_ne (by omega) ?_
      unfold insP
      rw [if_pos (by omega)]
      exact e
theorem wf5_upd {n k : Nat} {f : Nat → Int32} (hn : n < 2147483648) (h : wf5 n f) (hk : k < 5) : wf5 (n + 1) (upd f n (nI k)) := by
  intro p hp
  unfold upd
  by_cases e : p = n
  · rw [if_pos e, ix_nI (by omega)]; exact ⟨rfl, hk⟩
  · rw [if_neg e]; exact h p (by omega)
theorem wf3_upd {n k : Nat} {f : Nat → Int32} (h : wf3 n f) (hk : k < 3) : wf3 (n + 1) (upd f n (nI k)) := by
  intro p hp
  unfold upd
  by_cases e : p = n
  · rw [if_pos e, ix_nI (by omega)]; exact ⟨rfl, hk⟩
  · rw [if_neg e]; exact h p (by omega)
/-- a pledge is sold -/
def selA (b d : Nat) (due brought : Int32) (acc : Nat → Int32) : Nat → Int32 := upd (upd acc d (acc d + (if due < brought then due else brought))) b (upd acc d (acc d + (if due < brought then due else brought)) b + (brought - (if due < brought then due else brought)))
abbrev M6 : Type := (Nat → Int32) × (Nat → Int32) × (Nat → Int32) × (Nat → Int32) × Int32 × Nat
def mnS (flo frm too ldr bor due plg : Nat → Int32) (price : Int32) (mk : Nat) (r : M6) (l : Nat) : M6 :=
  if r.2.2.1 (ix (bor l)) = 0 ∧ flo (ix (bor l)) ≤ r.1 (ix (bor l)) - due l then (mvA (ix (bor l)) (ix (ldr l)) (due l) r.1, upd r.2.1 (ix (bor l)) (r.2.1 (ix (bor l)) + plg l), r.2.2.1, r.2.2.2.1, r.2.2.2.2.1, r.2.2.2.2.2)
  else if r.2.2.1 (ix (bor l)) = 0 then (selA (ix (bor l)) (ix (ldr l)) (due l) (plg l * price) r.1, r.2.1, upd r.2.2.1 (ix (bor l)) 1, dropW frm too (ix (bor l)) mk r.2.2.2.1, r.2.2.2.2.1 + plg l * price, r.2.2.2.2.2 + 1)
  else (selA (ix (bor l)) (ix (ldr l)) (due l) (plg l * price) r.1, r.2.1, r.2.2.1, r.2.2.2.1, r.2.2.2.2.1 + plg l * price, r.2.2.2.2.2)
def mnF (flo frm too ldr bor due plg : Nat → Int32) (price : Int32) (mk : Nat) (r0 : M6) (l0 : Nat) : Nat → M6
  | 0 => r0
  | k + 1 => mnS flo frm too ldr bor due plg price mk (mnF flo frm too ldr bor due plg price mk r0 l0 k) (l0 + k)
theorem mnS_le (flo frm too ldr bor due plg : Nat → Int32) (price : Int32) (mk : Nat) (r : M6) (l : Nat) : (mnS flo frm too ldr bor due plg price mk r l).2.2.2.2.2 ≤ r.2.2.2.2.2 + 1 := by
  unfold mnS
  split
  · exact Nat.le_succ _
  · split
    · exact Nat.le_refl _
    · exact Nat.le_succ _
theorem mnF_le (flo frm too ldr bor due plg : Nat → Int32) (price : Int32) (mk : Nat) (r0 : M6) (l0 : Nat) : ∀ k, (mnF flo frm too ldr bor due plg price mk r0 l0 k).2.2.2.2.2 ≤ r0.2.2.2.2.2 + k
  | 0 => Nat.le_refl _
  | k + 1 => by
    have h1 := mnF_le flo frm too ldr bor due plg price mk r0 l0 k
    have h2 := mnS_le flo frm too ldr bor due plg price mk (mnF flo frm too ldr bor due plg price mk r0 l0 k) (l0 + k)
    show (mnS flo frm too ldr bor due plg price mk (mnF flo frm too ldr bor due plg price mk r0 l0 k) (l0 + k)).2.2.2.2.2 ≤ _
    omega
theorem hj2_s {L : List Nat} {j q : Nat} {P : Nat → Prop} (h0 : 0 < j) (hq : L[j - 1]? = some q) (hP : P q) (h : ∀ i p, j ≤ i → L[i]? = some p → P p) : ∀ i p, j - 1 ≤ i → L[i]? = some p → P p := by
  intro i p hi hp
  rcases Nat.lt_or_ge i j with h9 | h9
  · have e9 : i = j - 1 := by omega
    subst e9
    rw [hq] at hp
    cases hp
    exact hP
  · exact h i p h9 hp
theorem bestS_lt1 (ok : Nat → Bool) (s : Nat) (h : 1 ≤ s) : bestS ok s < s := by
  obtain ⟨k, rfl⟩ : ∃ k, s = k + 1 := ⟨s - 1, by omega⟩
  have := bestS_lt ok k
  unfold bestS
  split <;> omega
theorem mnS_r {flo frm too ldr bor due plg : Nat → Int32} {price : Int32} {mk l : Nat} {r : M6} (h : r.2.2.1 (ix (bor l)) = 0 ∧ flo (ix (bor l)) ≤ r.1 (ix (bor l)) - due l) : mnS flo frm too ldr bor due plg price mk r l = (mvA (ix (bor l)) (ix (ldr l)) (due l) r.1, upd r.2.1 (ix (bor l)) (r.2.1 (ix (bor l)) + plg l), r.2.2.1, r.2.2.2.1, r.2.2.2.2.1, r.2.2.2.2.2) := if_pos h
theorem mnS_c {flo frm too ldr bor due plg : Nat → Int32} {price : Int32} {mk l : Nat} {r : M6} (h : ¬ (r.2.2.1 (ix (bor l)) = 0 ∧ flo (ix (bor l)) ≤ r.1 (ix (bor l)) - due l)) (h2 : r.2.2.1 (ix (bor l)) = 0) : mnS flo frm too ldr bor due plg price mk r l = (selA (ix (bor l)) (ix (ldr l)) (due l) (plg l * price) r.1, r.2.1, upd r.2.2.1 (ix (bor l)) 1, dropW frm too (ix (bor l)) mk r.2.2.2.1, r.2.2.2.2.1 + plg l * price, r.2.2.2.2.2 + 1) := (if_neg h).trans (if_pos h2)
theorem mnS_o {flo frm too ldr bor due plg : Nat → Int32} {price : Int32} {mk l : Nat} {r : M6} (h : ¬ (r.2.2.1 (ix (bor l)) = 0 ∧ flo (ix (bor l)) ≤ r.1 (ix (bor l)) - due l)) (h2 : ¬ r.2.2.1 (ix (bor l)) = 0) : mnS flo frm too ldr bor due plg price mk r l = (selA (ix (bor l)) (ix (ldr l)) (due l) (plg l * price) r.1, r.2.1, r.2.2.1, r.2.2.2.1, r.2.2.2.2.1 + plg l * price, r.2.2.2.2.2) := (if_neg h).trans (if_neg h2)
theorem z_rng {v lo hi : Int32} (h : ¬ (¬ v < lo ∧ ¬ hi < v)) : v < lo ∨ hi < v := by
  by_cases h1 : v < lo
  · exact Or.inl h1
  · by_cases h2 : hi < v
    · exact Or.inr h2
    · exact absurd ⟨h1, h2⟩ h
theorem z_flo {f a : Int32} (h : f < -1000000 ∨ 0 < f ∨ a < f) : f < -1000000 ∨ (if a < 0 then a else 0) < f := by
  rcases h with h | h | h
  · exact Or.inl h
  · refine Or.inr ?_
    split
    · rename_i h2; exact Int32.lt_trans h2 h
    · exact h
  · refine Or.inr ?_
    split
    · exact h
    · rename_i h2; exact Int32.lt_of_le_of_lt (Int32.not_lt.mp h2) h
theorem z_bnd {x n : Int32} (h : x < 0 ∨ 1000000 < x ∨ x < n) : x < (if 0 < n then n else 0) ∨ 1000000 < x := by
  rcases h with h | h | h
  · refine Or.inl ?_
    split
    · rename_i h2; exact Int32.lt_trans h h2
    · exact h
  · exact Or.inr h
  · refine Or.inl ?_
    split
    · exact h
    · rename_i h2; exact Int32.lt_of_lt_of_le h (Int32.not_lt.mp h2)
theorem z_lnd {a b c d e f : Prop} (ha : a) (hb : b) (h : ¬ (a ∧ b ∧ c ∧ ¬ d ∧ ¬ e ∧ ¬ f)) : ¬ c ∨ d ∨ e ∨ f := by
  by_cases hc : c
  · by_cases hd : d
    · exact Or.inr (Or.inl hd)
    · by_cases he : e
      · exact Or.inr (Or.inr (Or.inl he))
      · by_cases hf : f
        · exact Or.inr (Or.inr (Or.inr hf))
        · exact absurd ⟨ha, hb, hc, hd, he, hf⟩ h
  · exact Or.inl hc
theorem z_no {ok : Nat → Bool} {s : Nat} (h : ∀ S, S < s → 1 ≤ S → ok S = false) (hs : ¬ ok s = true) : ∀ S, S < s + 1 → 1 ≤ S → ok S = false := by
  intro S h1 h2
  by_cases e : S = s
  · subst e; simpa using hs
  · exact h S (by omega) h2
theorem z_add0 (x : Int32) : x + 0 = x := by simp
theorem z_bitm (S b : Nat) (hS : S < 1024) (hb : b < 10) : ((nI S >>> (nI b &&& 31)) &&& 1) = nI ((S.testBit b).toNat) := by
  have h0 : ∀ b, b < 10 → ((nI b &&& 31).toBitVec.smod 32).toNat = b := by decide
  rw [pk_shrN (by omega) (nI b &&& 31) b (h0 b hb)]
  have h1 : S / 2 ^ b ≤ S := Nat.div_le_self _ _
  have h2 : nI (S / 2 ^ b) &&& 1 = nI (S / 2 ^ b % 2 ^ 1) := pk_andN (by omega) 1 (by decide)
  rw [h2]
  congr 1
  rw [Nat.testBit_eq_decide_div_mod_eq]
  have h3 : S / 2 ^ b % 2 ^ 1 < 2 := Nat.mod_lt _ (by decide)
  rcases (show S / 2 ^ b % 2 ^ 1 = 0 ∨ S / 2 ^ b % 2 ^ 1 = 1 by omega) with e | e
  · rw [e]
    have : ¬ (S / 2 ^ b % 2 = 1) := by rw [show (2 : Nat) = 2 ^ 1 from rfl] at e ⊢; omega
    simp [this]
  · rw [e]
    have : S / 2 ^ b % 2 = 1 := e
    simp [this]
theorem z_nbb {c : Prop} [Decidable c] : (if c then (1 : Int32) else 0) = 0 ∨ (if c then (1 : Int32) else 0) = 1 := by split <;> simp
/-- the worth of a pledge, in longs and in ints -/
theorem z_worth {x p c am : Int32} (x1 : ¬ x < 0) (x2 : ¬ 1000 < x) (p1 : ¬ p < 1) (p2 : ¬ 1000 < p) (c1 : ¬ c < 0) (c2 : ¬ 1000 < c) (a1 : ¬ am < 1) :
    ((x.toInt64 * p.toInt64) * (1000 - c).toInt64) / 1000 < am.toInt64 ↔ x * p * (1000 - c) / 1000 < am := by
  obtain ⟨x', hx', rfl⟩ := nI_of2 (M := 1000) (n := 1000) (by decide) x1 (Int32.not_lt.mp x2)
  have p0 : ¬ p < 0 := fun h => p1 (Int32.lt_trans h (by decide))
  obtain ⟨p', hp', rfl⟩ := nI_of2 (M := 1000) (n := 1000) (by decide) p0 (Int32.not_lt.mp p2)
  obtain ⟨c', hc', rfl⟩ := nI_of2 (M := 1000) (n := 1000) (by decide) c1 (Int32.not_lt.mp c2)
  have a0 : ¬ am < 0 := fun h => a1 (Int32.lt_trans h (by decide))
  obtain ⟨a', ha', rfl⟩ := nI_of a0
  have e1 : (1000 : Int32) - nI c' = nI (1000 - c') := pk_sub (a := 1000) hc'
  rw [e1, nI_l (by omega), nI_l (by omega), nI_l (by omega), nI_l ha', lN_mul, lN_mul, pk_mul, pk_mul]
  have h1 : x' * p' ≤ 1000 * 1000 := Nat.mul_le_mul hx' hp'
  have h2 : x' * p' * (1000 - c') ≤ 1000 * 1000 * 1000 := Nat.mul_le_mul h1 (Nat.sub_le _ _)
  have e2 : nI (x' * p' * (1000 - c')) / 1000 = nI (x' * p' * (1000 - c') / 1000) := pk_div (d := 1000) (by omega) (by decide) (by decide)
  have e3 : lN (x' * p' * (1000 - c')) / 1000 = lN (x' * p' * (1000 - c') / 1000) := pk_lDiv (b := 1000) (by omega) (by decide) (by decide)
  rw [e2, e3]
  have h3 : x' * p' * (1000 - c') / 1000 ≤ x' * p' * (1000 - c') := Nat.div_le_self _ _
  rw [lN_lt (by omega) ha', nI_ltI (by omega) ha']
end SP
end
section
theorem m_X3_move_f9 : Cond.fieldLink RX3 9 "Queuefloat$Sums" "accountOf" "[I" ∈ wsX3_move := by decide +kernel
theorem i_X3_move_X3 : ∀ w ∈ wsX30, w ∈ wsX3_move := by decide +kernel
theorem m_X3_notePaid_f15 : Cond.fieldLink RX3 15 "Queuefloat$Sums" "netPaid" "[I" ∈ wsX3_notePaid := by decide +kernel
theorem i_X3_notePaid_X3 : ∀ w ∈ wsX30, w ∈ wsX3_notePaid := by decide +kernel
theorem m_X3_notePaid_nX4 : Cond.initialized RX4 ∈ wsX3_notePaid := by decide +kernel
theorem m_X3_notePaid_spairOf : Cond.static yX4_pairOf ∈ wsX3_notePaid := by decide +kernel
theorem m_X3_forgetPaid_f15 : Cond.fieldLink RX3 15 "Queuefloat$Sums" "netPaid" "[I" ∈ wsX3_forgetPaid := by decide +kernel
theorem i_X3_forgetPaid_X3 : ∀ w ∈ wsX30, w ∈ wsX3_forgetPaid := by decide +kernel
theorem m_X2_apply_f9 : Cond.fieldLink RX2 9 "Queuefloat$Payments" "from" "[I" ∈ wsX2_apply := by decide +kernel
theorem i_X2_apply_X2 : ∀ w ∈ wsX20, w ∈ wsX2_apply := by decide +kernel
theorem m_X2_apply_f15 : Cond.fieldLink RX2 15 "Queuefloat$Payments" "to" "[I" ∈ wsX2_apply := by decide +kernel
theorem m_X2_apply_f18 : Cond.fieldLink RX2 18 "Queuefloat$Payments" "amount" "[I" ∈ wsX2_apply := by decide +kernel
theorem m_X2_countWaiting_f31 : Cond.fieldLink RX2 31 "Queuefloat$Payments" "made" "I" ∈ wsX2_countWaiting := by decide +kernel
theorem i_X2_countWaiting_X2 : ∀ w ∈ wsX20, w ∈ wsX2_countWaiting := by decide +kernel
theorem m_X2_countWaiting_f24 : Cond.fieldLink RX2 24 "Queuefloat$Payments" "waits" "[Z" ∈ wsX2_countWaiting := by decide +kernel
theorem m_X2_dropAllOf_f31 : Cond.fieldLink RX2 31 "Queuefloat$Payments" "made" "I" ∈ wsX2_dropAllOf := by decide +kernel
theorem i_X2_dropAllOf_X2 : ∀ w ∈ wsX20, w ∈ wsX2_dropAllOf := by decide +kernel
theorem m_X2_dropAllOf_f9 : Cond.fieldLink RX2 9 "Queuefloat$Payments" "from" "[I" ∈ wsX2_dropAllOf := by decide +kernel
theorem m_X2_dropAllOf_f24 : Cond.fieldLink RX2 24 "Queuefloat$Payments" "waits" "[Z" ∈ wsX2_dropAllOf := by decide +kernel
theorem m_X2_dropAllOf_f15 : Cond.fieldLink RX2 15 "Queuefloat$Payments" "to" "[I" ∈ wsX2_dropAllOf := by decide +kernel
theorem m_X2_waitsAt_f24 : Cond.fieldLink RX2 24 "Queuefloat$Payments" "waits" "[Z" ∈ wsX2_waitsAt := by decide +kernel
theorem i_X2_waitsAt_X2 : ∀ w ∈ wsX20, w ∈ wsX2_waitsAt := by decide +kernel
theorem m_X2_waitsAt_f9 : Cond.fieldLink RX2 9 "Queuefloat$Payments" "from" "[I" ∈ wsX2_waitsAt := by decide +kernel
theorem m_X2_inQueue_f31 : Cond.fieldLink RX2 31 "Queuefloat$Payments" "made" "I" ∈ wsX2_inQueue := by decide +kernel
theorem i_X2_inQueue_X2 : ∀ w ∈ wsX20, w ∈ wsX2_inQueue := by decide +kernel
theorem m_X2_inQueue_f28 : Cond.fieldLink RX2 28 "Queuefloat$Payments" "byPriority" "[I" ∈ wsX2_inQueue := by decide +kernel
set_option maxHeartbeats 4000000 in
set_option maxRecDepth 100000 in
theorem c_X4_pairOf (l : Launch) (sa : Nat → Nat) (D : va_G) (cI cZ cL : ClassId)  (a : Nat) (b : Nat)  : zMi (T := Unit) sa D vwCl (zty cI cZ cL) l yX4_pairOf wsX4_pairOf ({ frames := 0, cells := 0, slots := 0, locals := 0 } : Room) [.int (nI a), .int (nI b)] [] (fun r9 _ => r9 = (nI (a * 5 + b))) (fun _ => []) 0 0 := by
  refine zMi.of (ret := (some .int)) (cc := cX4_pairOf) (nL := 2) (own := RX4) (by decide +kernel) rfl [(0, .int (nI a)), (1, .int (nI b))] rfl (Nat.le_of_ble_eq_true rfl) rfl ?_
  intro A p e s m args below meth c C hmn
  refine z_iload_n C dX4_pairOf_0 rfl 0 rfl ?_
  refine z_iconst C (v := 5) dX4_pairOf_1 (by decide) ?_
  refine z_imul C (v := (nI (a * 5))) dX4_pairOf_2 (pk_mul a 5) ?_
  refine z_iload_n C dX4_pairOf_3 rfl 1 rfl ?_
  refine z_iadd C (v := (nI ((a * 5) + b))) dX4_pairOf_4 (nI_add (a * 5) b) ?_
  exact z_iret C () rfl rfl (by decide) (by decide) dX4_pairOf_5
set_option maxHeartbeats 4000000 in
set_option maxRecDepth 100000 in
theorem c_X3_move (l : Launch) (sa : Nat → Nat) (D : va_G) (cI cZ cL : ClassId) (h0 h1 h2 : Nat) (acc net : Nat → Int32) (f : Nat) (t : Nat) (x : Int32) (hf : f < 5) (ht : t < 5) : zMv (T := Unit) sa D vwCl (zty cI cZ cL) l yX3_move wsX3_move ({ frames := 0, cells := 0, slots := 0, locals := 0 } : Room) [.ref h0, .int (nI f), .int (nI t), .int x] [(h0, .inr (3, [.ref h1, .ref h2])), (h1, .inl (cI, 5, .inl acc)), (h2, .inl (cI, 25, .inl net))] (fun _ => True) (fun _ => [(h0, .inr (3, [.ref h1, .ref h2])), (h1, .inl (cI, 5, .inl (mvA f t x acc))), (h2, .inl (cI, 25, .inl net))]) 0 0 := by
  refine zMv.of (ret := none) (cc := cX3_move) (nL := 4) (own := RX3) (by decide +kernel) rfl [(0, .ref h0), (1, .int (nI f)), (2, .int (nI t)), (3, .int x)] rfl (Nat.le_of_ble_eq_true rfl) rfl ?_
  intro A p e s m args below meth c C hmn
  refine z_aload_n C dX3_move_0 rfl 0 rfl ?_
  refine z_get C 0 rfl i_X3_move_X3 rfl 0 (by decide) m_X3_move_f9 rfl rfl dX3_move_1 ?_
  refine z_iload_n C dX3_move_4 rfl 1 rfl ?_
  refine z_dup2 C dX3_move_5 rfl rfl ?_
  refine z_iald C 1 0 rfl rfl f (nI_clamp (by omega)) (vp_in_nI (by omega) (by omega)) (acc f) rfl dX3_move_6 ?_
  refine z_iload_n C dX3_move_7 rfl 3 rfl ?_
  refine z_isub C (v := ((acc f) - x)) dX3_move_8 rfl ?_
  refine z_iast C 1 0 rfl rfl f (nI_clamp (by omega)) (vp_in_nI (by omega) (by omega)) ((acc f) - x) rfl dX3_move_9 [(h0, .inr (3, [.ref h1, .ref h2])), (h1, .inl (cI, 5, .inl (upd acc f ((acc f) - x)))), (h2, .inl (cI, 25, .inl net))] rfl ?_
  refine z_aload_n C dX3_move_10 rfl 0 rfl ?_
  refine z_get C 0 rfl i_X3_move_X3 rfl 0 (by decide) m_X3_move_f9 rfl rfl dX3_move_11 ?_
  refine z_iload_n C dX3_move_14 rfl 2 rfl ?_
  refine z_dup2 C dX3_move_15 rfl rfl ?_
  refine z_iald C 1 0 rfl rfl t (nI_clamp (by omega)) (vp_in_nI (by omega) (by omega)) ((upd acc f ((acc f) - x)) t) rfl dX3_move_16 ?_
  refine z_iload_n C dX3_move_17 rfl 3 rfl ?_
  refine z_iadd C (v := (((upd acc f ((acc f) - x)) t) + x)) dX3_move_18 rfl ?_
  refine z_iast C 1 0 rfl rfl t (nI_clamp (by omega)) (vp_in_nI (by omega) (by omega)) (((upd acc f ((acc f) - x)) t) + x) rfl dX3_move_19 [(h0, .inr (3, [.ref h1, .ref h2])), (h1, .inl (cI, 5, .inl (upd (upd acc f ((acc f) - x)) t (((upd acc f ((acc f) - x)) t) + x)))), (h2, .inl (cI, 25, .inl net))] rfl ?_
  exact z_vret C () (by exact trivial) rfl (by decide) (by decide) dX3_move_20
set_option maxHeartbeats 4000000 in
set_option maxRecDepth 100000 in
theorem c_X3_notePaid (l : Launch) (sa : Nat → Nat) (D : va_G) (cI cZ cL : ClassId) (h0 h1 h2 : Nat) (acc net : Nat → Int32) (f : Nat) (t : Nat) (x : Int32) (hf : f < 5) (ht : t < 5) : zMv (T := Unit) sa D vwCl (zty cI cZ cL) l yX3_notePaid wsX3_notePaid ({ frames := 1, cells := 0, slots := 0, locals := 21 } : Room) [.ref h0, .int (nI f), .int (nI t), .int x] [(h0, .inr (3, [.ref h1, .ref h2])), (h1, .inl (cI, 5, .inl acc)), (h2, .inl (cI, 25, .inl net))] (fun _ => True) (fun _ => [(h0, .inr (3, [.ref h1, .ref h2])), (h1, .inl (cI, 5, .inl acc)), (h2, .inl (cI, 25, .inl (mvN f t x net)))]) 0 0 := by
  refine zMv.of (ret := none) (cc := cX3_notePaid) (nL := 4) (own := RX3) (by decide +kernel) rfl [(0, .ref h0), (1, .int (nI f)), (2, .int (nI t)), (3, .int x)] rfl (Nat.le_of_ble_eq_true rfl) rfl ?_
  intro A p e s m args below meth c C hmn
  refine z_aload_n C dX3_notePaid_0 rfl 0 rfl ?_
  refine z_get C 0 rfl i_X3_notePaid_X3 rfl 1 (by decide) m_X3_notePaid_f15 rfl rfl dX3_notePaid_1 ?_
  refine z_iload_n C dX3_notePaid_4 rfl 1 rfl ?_
  refine z_iload_n C dX3_notePaid_5 rfl 2 rfl ?_
  refine z_callSNi C (T := Unit) (As := [.int (nI f), .int (nI t)]) (rest := [.ref h2]) (ws' := fun _ => [(h0, .inr (3, [.ref h1, .ref h2])), (h1, .inl (cI, 5, .inl acc)), (h2, .inl (cI, 25, .inl net))]) (c_X4_pairOf l sa D cI cZ cL  f t ) ⟨va_cnB 2 C.2.2.2.2.1 gX3_notePaid_X4_pairOf_n18 rfl rfl rfl C.2.2.2.2.2.2.2.1.2.1 (C.2.2.2.2.1 _ m_X3_notePaid_nX4) (by decide +kernel) ⟨Nat.le_of_ble_eq_true rfl, Nat.le_of_ble_eq_true rfl⟩, C.2.2.2.2.1 _ m_X3_notePaid_spairOf, trivial⟩ (fun _ => zSub.none) zIn.none rfl (Nat.le_of_ble_eq_true rfl) ⟨Nat.le_of_ble_eq_true rfl, Nat.le_of_ble_eq_true rfl⟩ dX3_notePaid_6 (fun r_1 _ h_2 => ?_)
  obtain rfl : r_1 = (nI (f * 5 + t)) := h_2
  refine z_dup2 C dX3_notePaid_9 rfl rfl ?_
  refine z_iald C 2 0 rfl rfl (f * 5 + t) (nI_clamp (by omega)) (vp_in_nI (by omega) (by omega)) (net (f * 5 + t)) rfl dX3_notePaid_10 ?_
  refine z_iload_n C dX3_notePaid_11 rfl 3 rfl ?_
  refine z_iadd C (v := ((net (f * 5 + t)) + x)) dX3_notePaid_12 rfl ?_
  refine z_iast C 2 0 rfl rfl (f * 5 + t) (nI_clamp (by omega)) (vp_in_nI (by omega) (by omega)) ((net (f * 5 + t)) + x) rfl dX3_notePaid_13 [(h0, .inr (3, [.ref h1, .ref h2])), (h1, .inl (cI, 5, .inl acc)), (h2, .inl (cI, 25, .inl (upd net (f * 5 + t) ((net (f * 5 + t)) + x))))] rfl ?_
  refine z_aload_n C dX3_notePaid_14 rfl 0 rfl ?_
  refine z_get C 0 rfl i_X3_notePaid_X3 rfl 1 (by decide) m_X3_notePaid_f15 rfl rfl dX3_notePaid_15 ?_
  refine z_iload_n C dX3_notePaid_18 rfl 2 rfl ?_
  refine z_iload_n C dX3_notePaid_19 rfl 1 rfl ?_
  refine z_callSNi C (T := Unit) (As := [.int (nI t), .int (nI f)]) (rest := [.ref h2]) (ws' := fun _ => [(h0, .inr (3, [.ref h1, .ref h2])), (h1, .inl (cI, 5, .inl acc)), (h2, .inl (cI, 25, .inl (upd net (f * 5 + t) ((net (f * 5 + t)) + x))))]) (c_X4_pairOf l sa D cI cZ cL  t f ) ⟨va_cnB 2 C.2.2.2.2.1 gX3_notePaid_X4_pairOf_n18 rfl rfl rfl C.2.2.2.2.2.2.2.1.2.1 (C.2.2.2.2.1 _ m_X3_notePaid_nX4) (by decide +kernel) ⟨Nat.le_of_ble_eq_true rfl, Nat.le_of_ble_eq_true rfl⟩, C.2.2.2.2.1 _ m_X3_notePaid_spairOf, trivial⟩ (fun _ => zSub.none) zIn.none rfl (Nat.le_of_ble_eq_true rfl) ⟨Nat.le_of_ble_eq_true rfl, Nat.le_of_ble_eq_true rfl⟩ dX3_notePaid_20 (fun r_3 _ h_4 => ?_)
  obtain rfl : r_3 = (nI (t * 5 + f)) := h_4
  refine z_dup2 C dX3_notePaid_23 rfl rfl ?_
  refine z_iald C 2 0 rfl rfl (t * 5 + f) (nI_clamp (by omega)) (vp_in_nI (by omega) (by omega)) ((upd net (f * 5 + t) ((net (f * 5 + t)) + x)) (t * 5 + f)) rfl dX3_notePaid_24 ?_
  refine z_iload_n C dX3_notePaid_25 rfl 3 rfl ?_
  refine z_isub C (v := (((upd net (f * 5 + t) ((net (f * 5 + t)) + x)) (t * 5 + f)) - x)) dX3_notePaid_26 rfl ?_
  refine z_iast C 2 0 rfl rfl (t * 5 + f) (nI_clamp (by omega)) (vp_in_nI (by omega) (by omega)) (((upd net (f * 5 + t) ((net (f * 5 + t)) + x)) (t * 5 + f)) - x) rfl dX3_notePaid_27 [(h0, .inr (3, [.ref h1, .ref h2])), (h1, .inl (cI, 5, .inl acc)), (h2, .inl (cI, 25, .inl (upd (upd net (f * 5 + t) ((net (f * 5 + t)) + x)) (t * 5 + f) (((upd net (f * 5 + t) ((net (f * 5 + t)) + x)) (t * 5 + f)) - x))))] rfl ?_
  exact z_vret C () (by exact trivial) rfl (by decide) (by decide) dX3_notePaid_28
set_option maxHeartbeats 4000000 in
set_option maxRecDepth 100000 in
theorem c_X3_forgetPaid (l : Launch) (sa : Nat → Nat) (D : va_G) (cI cZ cL : ClassId) (h0 h1 h2 : Nat) (acc net : Nat → Int32)   : zMv (T := Unit) sa D vwCl (zty cI cZ cL) l yX3_forgetPaid wsX3_forgetPaid ({ frames := 0, cells := 0, slots := 0, locals := 0 } : Room) [.ref h0] [(h0, .inr (3, [.ref h1, .ref h2])), (h1, .inl (cI, 5, .inl acc)), (h2, .inl (cI, 25, .inl net))] (fun _ => True) (fun _ => [(h0, .inr (3, [.ref h1, .ref h2])), (h1, .inl (cI, 5, .inl acc)), (h2, .inl (cI, 25, .inl (clrN net 25)))]) 0 0 := by
  refine zMv.of (ret := none) (cc := cX3_forgetPaid) (nL := 2) (own := RX3) (by decide +kernel) rfl [(0, .ref h0)] rfl (Nat.le_of_ble_eq_true rfl) rfl ?_
  intro A p e s m args below meth c C hmn
  refine z_iconst C (v := 0) dX3_forgetPaid_0 (by decide) ?_
  refine z_istore_n C dX3_forgetPaid_1 rfl (by decide) [(0, .ref h0), (1, .int 0)] [1, 0] rfl ?_
  have L2_k_1 : ∀ (n : Nat) (i : Nat), 25 - i < n → (i ≤ 25) → zW 0 p l e ({ frames := 0, cells := 0, slots := 0, locals := 0 } : Room) s m args below meth c (MQ below (zQv (T := Unit) D vwCl (zty cI cZ cL) A (fun _ => True) (fun _ => [(h0, .inr (3, [.ref h1, .ref h2])), (h1, .inl (cI, 5, .inl acc)), (h2, .inl (cI, 25, .inl (clrN net 25)))])) args s 0 0 A) D vwCl A 2 0 0 [(h0, .inr (3, [.ref h1, .ref h2])), (h1, .inl (cI, 5, .inl acc)), (h2, .inl (cI, 25, .inl (clrN net i)))] [(0, .ref h0), (1, .int (nI i))] 2 [] := by
    intro n
    induction n with
    | zero => intros; omega
    | succ n ih_2 =>
      intro i hm_3 hi
      refine z_iload_n C dX3_forgetPaid_2 rfl 1 rfl ?_
      refine z_bipush C (v := 25) dX3_forgetPaid_3 (by decide) ?_
      refine z_icmp_ge C (tgt := 21) dX3_forgetPaid_5 (by decide) (fun c5_4 => ?_) (fun c5_4 => ?_)
      · skip
        have n_5 : 25 ≤ i := (nI_leI (a := 25) (b := i) (by omega) (by omega)).mp c5_4
        exact z_vret C () (by exact trivial) (by obtain rfl : i = 25 := (by omega); rfl) (by decide) (by decide) dX3_forgetPaid_21
      · skip
        have n_6 : ¬ 25 ≤ i := fun q => c5_4 ((nI_leI (a := 25) (b := i) (by omega) (by omega)).mpr q)
        refine z_aload_n C dX3_forgetPaid_8 rfl 0 rfl ?_
        refine z_get C 0 rfl i_X3_forgetPaid_X3 rfl 1 (by decide) m_X3_forgetPaid_f15 rfl rfl dX3_forgetPaid_9 ?_
        refine z_iload_n C dX3_forgetPaid_12 rfl 1 rfl ?_
        refine z_iconst C (v := 0) dX3_forgetPaid_13 (by decide) ?_
        refine z_iast C 2 0 rfl rfl i (nI_clamp (by omega)) (vp_in_nI (by omega) (by omega)) 0 rfl dX3_forgetPaid_14 [(h0, .inr (3, [.ref h1, .ref h2])), (h1, .inl (cI, 5, .inl acc)), (h2, .inl (cI, 25, .inl (upd (clrN net i) i 0)))] rfl ?_
        refine z_iinc C (v := (nI (i + 1))) dX3_forgetPaid_15 1 rfl (nI_add i 1) (by decide) [(0, .ref h0), (1, .int (nI (i + 1)))] [1, 0] rfl ?_
        refine z_goto C (tgt := 2) dX3_forgetPaid_18 (by decide) ?_
        refine z_ws [(h0, .inr (3, [.ref h1, .ref h2])), (h1, .inl (cI, 5, .inl acc)), (h2, .inl (cI, 25, .inl (clrN net (i + 1))))] (by rw [clrN_s]) ?_
        exact ih_2 (i + 1) (by omega) (by first | assumption | omega)
  refine z_ws [(h0, .inr (3, [.ref h1, .ref h2])), (h1, .inl (cI, 5, .inl acc)), (h2, .inl (cI, 25, .inl (clrN net 0)))] (by rw [clrN_0]) ?_
  refine z_lveq [(0, .ref h0), (1, .int (nI 0))] (by rfl) ?_
  exact L2_k_1 (25 - 0 + 1) 0 (Nat.lt_succ_self _) (by first | assumption | omega)
set_option maxHeartbeats 4000000 in
set_option maxRecDepth 100000 in
theorem c_X2_apply (l : Launch) (sa : Nat → Nat) (D : va_G) (cI cZ cL : ClassId) (g0 g1 g2 g3 g4 g5 g6 : Nat) (frm too amt : Nat → Int32) (made : Int32) (h0 h1 h2 : Nat) (acc net : Nat → Int32) (p9 : Nat) (mk : Nat) (hp : p9 < mk) (hmk : mk ≤ 60) (hfrm : wf5 mk frm) (htoo : wf5 mk too) : zMv (T := Unit) sa D vwCl (zty cI cZ cL) l yX2_apply wsX2_apply ({ frames := 2, cells := 0, slots := 0, locals := 44 } : Room) [.ref g0, .int (nI p9), .ref h0] [(g0, .inr (2, [.ref g1, .ref g2, .ref g3, .ref g4, .ref g5, .ref g6, .int made])), (g1, .inl (cI, 60, .inl frm)), (g2, .inl (cI, 60, .inl too)), (g3, .inl (cI, 60, .inl amt)), (h0, .inr (3, [.ref h1, .ref h2])), (h1, .inl (cI, 5, .inl acc)), (h2, .inl (cI, 25, .inl net))] (fun _ => True) (fun _ => [(g0, .inr (2, [.ref g1, .ref g2, .ref g3, .ref g4, .ref g5, .ref g6, .int made])), (g1, .inl (cI, 60, .inl frm)), (g2, .inl (cI, 60, .inl too)), (g3, .inl (cI, 60, .inl amt)), (h0, .inr (3, [.ref h1, .ref h2])), (h1, .inl (cI, 5, .inl (mvA (ix (frm p9)) (ix (too p9)) (amt p9) acc))), (h2, .inl (cI, 25, .inl (mvN (ix (frm p9)) (ix (too p9)) (amt p9) net)))]) 0 0 := by
  refine zMv.of (ret := none) (cc := cX2_apply) (nL := 3) (own := RX2) (by decide +kernel) rfl [(0, .ref g0), (1, .int (nI p9)), (2, .ref h0)] rfl (Nat.le_of_ble_eq_true rfl) rfl ?_
  intro A p e s m args below meth c C hmn
  refine z_aload_n C dX2_apply_0 rfl 2 rfl ?_
  refine z_aload_n C dX2_apply_1 rfl 0 rfl ?_
  refine z_get C 0 rfl i_X2_apply_X2 rfl 0 (by decide) m_X2_apply_f9 rfl rfl dX2_apply_2 ?_
  refine z_iload_n C dX2_apply_5 rfl 1 rfl ?_
  have := (hfrm p9 (by omega)).2
  refine z_iald C 1 0 rfl rfl p9 (nI_clamp (by omega)) (vp_in_nI (by omega) (by omega)) (nI (ix (frm p9))) (hfrm p9 (by omega)).1 dX2_apply_6 ?_
  refine z_aload_n C dX2_apply_7 rfl 0 rfl ?_
  refine z_get C 0 rfl i_X2_apply_X2 rfl 1 (by decide) m_X2_apply_f15 rfl rfl dX2_apply_8 ?_
  refine z_iload_n C dX2_apply_11 rfl 1 rfl ?_
  have := (htoo p9 (by omega)).2
  refine z_iald C 2 0 rfl rfl p9 (nI_clamp (by omega)) (vp_in_nI (by omega) (by omega)) (nI (ix (too p9))) (htoo p9 (by omega)).1 dX2_apply_12 ?_
  refine z_aload_n C dX2_apply_13 rfl 0 rfl ?_
  refine z_get C 0 rfl i_X2_apply_X2 rfl 2 (by decide) m_X2_apply_f18 rfl rfl dX2_apply_14 ?_
  refine z_iload_n C dX2_apply_17 rfl 1 rfl ?_
  refine z_iald C 3 0 rfl rfl p9 (nI_clamp (by omega)) (vp_in_nI (by omega) (by omega)) (amt p9) rfl dX2_apply_18 ?_
  refine z_callVv C (T := Unit) (As := [.int (nI (ix (frm p9))), .int (nI (ix (too p9))), .int (amt p9)]) (rest := []) (ws' := fun _ => [(g0, .inr (2, [.ref g1, .ref g2, .ref g3, .ref g4, .ref g5, .ref g6, .int made])), (g1, .inl (cI, 60, .inl frm)), (g2, .inl (cI, 60, .inl too)), (g3, .inl (cI, 60, .inl amt)), (h0, .inr (3, [.ref h1, .ref h2])), (h1, .inl (cI, 5, .inl (mvA (ix (frm p9)) (ix (too p9)) (amt p9) acc))), (h2, .inl (cI, 25, .inl net))]) (c_X3_move l sa D cI cZ cL h0 h1 h2 acc net (ix (frm p9)) (ix (too p9)) (amt p9) (by first | assumption | omega) (by first | assumption | omega)) (cwV 3 C.2.2.2.2.1 gX2_apply_X3_move rfl rfl rfl (by decide +kernel) ⟨Nat.le_of_ble_eq_true rfl, Nat.le_of_ble_eq_true rfl⟩) 4 rfl rfl rfl (fun _ => (zSub.of (wr := [(g0, .inr (2, [.ref g1, .ref g2, .ref g3, .ref g4, .ref g5, .ref g6, .int made])), (g1, .inl (cI, 60, .inl frm)), (g2, .inl (cI, 60, .inl too)), (g3, .inl (cI, 60, .inl amt))]) [4, 5, 6] [0, 1, 2, 3] [0, 1, 2, 3, 4, 5, 6] rfl rfl rfl rfl (by decide) rfl rfl)) (zIn.of [4, 5, 6] rfl rfl) rfl (Nat.le_of_ble_eq_true rfl) ⟨Nat.le_of_ble_eq_true rfl, Nat.le_of_ble_eq_true rfl⟩ dX2_apply_19 (fun _ _ => ?_)
  refine z_aload_n C dX2_apply_22 rfl 2 rfl ?_
  refine z_aload_n C dX2_apply_23 rfl 0 rfl ?_
  refine z_get C 0 rfl i_X2_apply_X2 rfl 0 (by decide) m_X2_apply_f9 rfl rfl dX2_apply_24 ?_
  refine z_iload_n C dX2_apply_27 rfl 1 rfl ?_
  refine z_iald C 1 0 rfl rfl p9 (nI_clamp (by omega)) (vp_in_nI (by omega) (by omega)) (nI (ix (frm p9))) (hfrm p9 (by omega)).1 dX2_apply_28 ?_
  refine z_aload_n C dX2_apply_29 rfl 0 rfl ?_
  refine z_get C 0 rfl i_X2_apply_X2 rfl 1 (by decide) m_X2_apply_f15 rfl rfl dX2_apply_30 ?_
  refine z_iload_n C dX2_apply_33 rfl 1 rfl ?_
  refine z_iald C 2 0 rfl rfl p9 (nI_clamp (by omega)) (vp_in_nI (by omega) (by omega)) (nI (ix (too p9))) (htoo p9 (by omega)).1 dX2_apply_34 ?_
  refine z_aload_n C dX2_apply_35 rfl 0 rfl ?_
  refine z_get C 0 rfl i_X2_apply_X2 rfl 2 (by decide) m_X2_apply_f18 rfl rfl dX2_apply_36 ?_
  refine z_iload_n C dX2_apply_39 rfl 1 rfl ?_
  refine z_iald C 3 0 rfl rfl p9 (nI_clamp (by omega)) (vp_in_nI (by omega) (by omega)) (amt p9) rfl dX2_apply_40 ?_
  refine z_callVv C (T := Unit) (As := [.int (nI (ix (frm p9))), .int (nI (ix (too p9))), .int (amt p9)]) (rest := []) (ws' := fun _ => [(g0, .inr (2, [.ref g1, .ref g2, .ref g3, .ref g4, .ref g5, .ref g6, .int made])), (g1, .inl (cI, 60, .inl frm)), (g2, .inl (cI, 60, .inl too)), (g3, .inl (cI, 60, .inl amt)), (h0, .inr (3, [.ref h1, .ref h2])), (h1, .inl (cI, 5, .inl (mvA (ix (frm p9)) (ix (too p9)) (amt p9) acc))), (h2, .inl (cI, 25, .inl (mvN (ix (frm p9)) (ix (too p9)) (amt p9) net)))]) (c_X3_notePaid l sa D cI cZ cL h0 h1 h2 (mvA (ix (frm p9)) (ix (too p9)) (amt p9) acc) net (ix (frm p9)) (ix (too p9)) (amt p9) (by first | assumption | omega) (by first | assumption | omega)) (cwV 3 C.2.2.2.2.1 gX2_apply_X3_notePaid rfl rfl rfl (by decide +kernel) ⟨Nat.le_of_ble_eq_true rfl, Nat.le_of_ble_eq_true rfl⟩) 4 rfl rfl rfl (fun _ => (zSub.of (wr := [(g0, .inr (2, [.ref g1, .ref g2, .ref g3, .ref g4, .ref g5, .ref g6, .int made])), (g1, .inl (cI, 60, .inl frm)), (g2, .inl (cI, 60, .inl too)), (g3, .inl (cI, 60, .inl amt))]) [4, 5, 6] [0, 1, 2, 3] [0, 1, 2, 3, 4, 5, 6] rfl rfl rfl rfl (by decide) rfl rfl)) (zIn.of [4, 5, 6] rfl rfl) rfl (Nat.le_of_ble_eq_true rfl) ⟨Nat.le_of_ble_eq_true rfl, Nat.le_of_ble_eq_true rfl⟩ dX2_apply_41 (fun _ _ => ?_)
  exact z_vret C () (by exact trivial) rfl (by decide) (by decide) dX2_apply_44
set_option maxHeartbeats 4000000 in
set_option maxRecDepth 100000 in
theorem c_X2_countWaiting (l : Launch) (sa : Nat → Nat) (D : va_G) (cI cZ cL : ClassId) (ad : Nat → Nat) (acc net tacc tnet flo bnd frm too amt pri wai byp ldr bor due plg clo pap cnd : Nat → Int32) (small price cut proc : Int32) (mk lm le : Nat)  (hmk : mk ≤ 60) : zMi (T := Unit) sa D vwCl (zty cI cZ cL) l yX2_countWaiting wsX2_countWaiting ({ frames := 0, cells := 0, slots := 0, locals := 0 } : Room) [.ref (ad 4)] (wX ad cI cZ acc net tacc tnet flo bnd frm too amt pri wai byp ldr bor due plg clo pap cnd small price cut proc (nI mk) (nI lm) (nI le)) (fun r9 _ => r9 = (nI (cntW wai mk))) (fun _ => (wX ad cI cZ acc net tacc tnet flo bnd frm too amt pri wai byp ldr bor due plg clo pap cnd small price cut proc (nI mk) (nI lm) (nI le))) 0 0 := by
  refine zMi.of (ret := (some .int)) (cc := cX2_countWaiting) (nL := 3) (own := RX2) (by decide +kernel) rfl [(0, .ref (ad 4))] rfl (Nat.le_of_ble_eq_true rfl) rfl ?_
  intro A p e s m args below meth c C hmn
  refine z_iconst C (v := 0) dX2_countWaiting_0 (by decide) ?_
  refine z_istore_n C dX2_countWaiting_1 rfl (by decide) [(0, .ref (ad 4)), (1, .int 0)] [1, 0] rfl ?_
  refine z_iconst C (v := 0) dX2_countWaiting_2 (by decide) ?_
  refine z_istore_n C dX2_countWaiting_3 rfl (by decide) [(0, .ref (ad 4)), (1, .int 0), (2, .int 0)] [1, 2, 0] rfl ?_
  have L4_k_1 : ∀ (n : Nat) (i : Nat), mk - i < n → (i ≤ mk) → zW 0 p l e ({ frames := 0, cells := 0, slots := 0, locals := 0 } : Room) s m args below meth c (MQ below (zQi (T := Unit) D vwCl (zty cI cZ cL) A (fun r9 _ => r9 = (nI (cntW wai mk))) (fun _ => (wX ad cI cZ acc net tacc tnet flo bnd frm too amt pri wai byp ldr bor due plg clo pap cnd small price cut proc (nI mk) (nI lm) (nI le)))) args s 0 0 A) D vwCl A 3 0 0 (wX ad cI cZ acc net tacc tnet flo bnd frm too amt pri wai byp ldr bor due plg clo pap cnd small price cut proc (nI mk) (nI lm) (nI le)) [(0, .ref (ad 4)), (1, .int (nI (cntW wai i))), (2, .int (nI i))] 4 [] := by
    intro n
    induction n with
    | zero => intros; omega
    | succ n ih_2 =>
      intro i hm_3 hi
      refine z_iload_n C dX2_countWaiting_4 rfl 2 rfl ?_
      refine z_aload_n C dX2_countWaiting_5 rfl 0 rfl ?_
      refine z_get C 4 rfl i_X2_countWaiting_X2 rfl 6 (by decide) m_X2_countWaiting_f31 rfl rfl dX2_countWaiting_6 ?_
      refine z_icmp_ge C (tgt := 30) dX2_countWaiting_9 (by decide) (fun c9_4 => ?_) (fun c9_4 => ?_)
      · skip
        have n_5 : mk ≤ i := (nI_leI (a := mk) (b := i) (by omega) (by omega)).mp c9_4
        refine z_iload_n C dX2_countWaiting_30 rfl 1 rfl ?_
        exact z_iret C () (by rw [show i = mk by omega]) rfl (by decide) (by decide) dX2_countWaiting_31
      · skip
        have n_6 : ¬ mk ≤ i := fun q => c9_4 ((nI_leI (a := mk) (b := i) (by omega) (by omega)).mpr q)
        refine z_aload_n C dX2_countWaiting_12 rfl 0 rfl ?_
        refine z_get C 4 rfl i_X2_countWaiting_X2 rfl 4 (by decide) m_X2_countWaiting_f24 rfl rfl dX2_countWaiting_13 ?_
        refine z_iload_n C dX2_countWaiting_16 rfl 2 rfl ?_
        refine z_zald C 16 1 rfl rfl i (nI_clamp (by omega)) (vp_in_nI (by omega) (by omega)) (wai i) rfl dX2_countWaiting_17 ?_
        refine z_if_eq C (tgt := 24) dX2_countWaiting_18 (by decide) (fun c18_7 => ?_) (fun c18_7 => ?_)
        · skip
          refine z_iinc C (v := (nI (i + 1))) dX2_countWaiting_24 2 rfl (nI_add i 1) (by decide) [(0, .ref (ad 4)), (1, .int (nI (cntW wai i))), (2, .int (nI (i + 1)))] [1, 2, 0] rfl ?_
          refine z_goto C (tgt := 4) dX2_countWaiting_27 (by decide) ?_
          refine z_lveq [(0, .ref (ad 4)), (1, .int (nI (cntW wai (i + 1)))), (2, .int (nI (i + 1)))] (by simp [cntW, c9_4, n_6, c18_7]) ?_
          exact ih_2 (i + 1) (by omega) (by first | assumption | omega)
        · skip
          refine z_iinc C (v := (nI ((cntW wai i) + 1))) dX2_countWaiting_21 1 rfl (nI_add (cntW wai i) 1) (by decide) [(0, .ref (ad 4)), (1, .int (nI ((cntW wai i) + 1))), (2, .int (nI i))] [1, 0, 2] rfl ?_
          refine z_iinc C (v := (nI (i + 1))) dX2_countWaiting_24 2 rfl (nI_add i 1) (by decide) [(0, .ref (ad 4)), (1, .int (nI ((cntW wai i) + 1))), (2, .int (nI (i + 1)))] [1, 2, 0] rfl ?_
          refine z_goto C (tgt := 4) dX2_countWaiting_27 (by decide) ?_
          refine z_lveq [(0, .ref (ad 4)), (1, .int (nI (cntW wai (i + 1)))), (2, .int (nI (i + 1)))] (by simp [cntW, c9_4, n_6, c18_7]) ?_
          exact ih_2 (i + 1) (by omega) (by first | assumption | omega)
  refine z_lveq [(0, .ref (ad 4)), (1, .int (nI (cntW wai 0))), (2, .int (nI 0))] (by rfl) ?_
  exact L4_k_1 (mk - 0 + 1) 0 (Nat.lt_succ_self _) (by first | assumption | omega)
set_option maxHeartbeats 4000000 in
set_option maxRecDepth 100000 in
theorem c_X2_dropAllOf (l : Launch) (sa : Nat → Nat) (D : va_G) (cI cZ cL : ClassId) (ad : Nat → Nat) (acc net tacc tnet flo bnd frm too amt pri wai byp ldr bor due plg clo pap cnd : Nat → Int32) (small price cut proc : Int32) (mk lm le : Nat) (b : Nat) (hb : b < 5) (hmk : mk ≤ 60) (hfrm : wf5 mk frm) (htoo : wf5 mk too) : zMv (T := Unit) sa D vwCl (zty cI cZ cL) l yX2_dropAllOf wsX2_dropAllOf ({ frames := 0, cells := 0, slots := 0, locals := 0 } : Room) [.ref (ad 4), .int (nI b)] (wX ad cI cZ acc net tacc tnet flo bnd frm too amt pri wai byp ldr bor due plg clo pap cnd small price cut proc (nI mk) (nI lm) (nI le)) (fun _ => True) (fun _ => (wX ad cI cZ acc net tacc tnet flo bnd frm too amt pri (dropW frm too b mk wai) byp ldr bor due plg clo pap cnd small price cut proc (nI mk) (nI lm) (nI le))) 0 0 := by
  refine zMv.of (ret := none) (cc := cX2_dropAllOf) (nL := 3) (own := RX2) (by decide +kernel) rfl [(0, .ref (ad 4)), (1, .int (nI b))] rfl (Nat.le_of_ble_eq_true rfl) rfl ?_
  intro A p e s m args below meth c C hmn
  refine z_iconst C (v := 0) dX2_dropAllOf_0 (by decide) ?_
  refine z_istore_n C dX2_dropAllOf_1 rfl (by decide) [(0, .ref (ad 4)), (1, .int (nI b)), (2, .int 0)] [1, 2, 0] rfl ?_
  have L2_k_1 : ∀ (n : Nat) (i : Nat), mk - i < n → (i ≤ mk) → zW 0 p l e ({ frames := 0, cells := 0, slots := 0, locals := 0 } : Room) s m args below meth c (MQ below (zQv (T := Unit) D vwCl (zty cI cZ cL) A (fun _ => True) (fun _ => (wX ad cI cZ acc net tacc tnet flo bnd frm too amt pri (dropW frm too b mk wai) byp ldr bor due plg clo pap cnd small price cut proc (nI mk) (nI lm) (nI le)))) args s 0 0 A) D vwCl A 3 0 0 (wX ad cI cZ acc net tacc tnet flo bnd frm too amt pri (dropW frm too b i wai) byp ldr bor due plg clo pap cnd small price cut proc (nI mk) (nI lm) (nI le)) [(0, .ref (ad 4)), (1, .int (nI b)), (2, .int (nI i))] 2 [] := by
    intro n
    induction n with
    | zero => intros; omega
    | succ n ih_2 =>
      intro i hm_3 hi
      refine z_iload_n C dX2_dropAllOf_2 rfl 2 rfl ?_
      refine z_aload_n C dX2_dropAllOf_3 rfl 0 rfl ?_
      refine z_get C 4 rfl i_X2_dropAllOf_X2 rfl 6 (by decide) m_X2_dropAllOf_f31 rfl rfl dX2_dropAllOf_4 ?_
      refine z_icmp_ge C (tgt := 43) dX2_dropAllOf_7 (by decide) (fun c7_4 => ?_) (fun c7_4 => ?_)
      · skip
        have n_5 : mk ≤ i := (nI_leI (a := mk) (b := i) (by omega) (by omega)).mp c7_4
        exact z_vret C () (by exact trivial) (by rw [show i = mk by omega]) (by decide) (by decide) dX2_dropAllOf_43
      · skip
        have n_6 : ¬ mk ≤ i := fun q => c7_4 ((nI_leI (a := mk) (b := i) (by omega) (by omega)).mpr q)
        refine z_aload_n C dX2_dropAllOf_10 rfl 0 rfl ?_
        refine z_get C 4 rfl i_X2_dropAllOf_X2 rfl 0 (by decide) m_X2_dropAllOf_f9 rfl rfl dX2_dropAllOf_11 ?_
        refine z_iload_n C dX2_dropAllOf_14 rfl 2 rfl ?_
        have := (hfrm i (by omega)).2
        refine z_iald C 12 0 rfl rfl i (nI_clamp (by omega)) (vp_in_nI (by omega) (by omega)) (nI (ix (frm i))) (hfrm i (by omega)).1 dX2_dropAllOf_15 ?_
        refine z_iload_n C dX2_dropAllOf_16 rfl 1 rfl ?_
        refine z_icmp_eq C (tgt := 30) dX2_dropAllOf_17 (by decide) (fun c17_7 => ?_) (fun c17_7 => ?_)
        · skip
          have n_8 : (ix (frm i)) = b := (nI_eq (a := ix (frm i)) (b := b) (by omega) (by omega)).mp c17_7
          refine z_aload_n C dX2_dropAllOf_30 rfl 0 rfl ?_
          refine z_get C 4 rfl i_X2_dropAllOf_X2 rfl 4 (by decide) m_X2_dropAllOf_f24 rfl rfl dX2_dropAllOf_31 ?_
          refine z_iload_n C dX2_dropAllOf_34 rfl 2 rfl ?_
          refine z_iconst C (v := 0) dX2_dropAllOf_35 (by decide) ?_
          refine z_zast C 16 1 rfl rfl i (nI_clamp (by omega)) (vp_in_nI (by omega) (by omega)) 0 (by decide) dX2_dropAllOf_36 (wX ad cI cZ acc net tacc tnet flo bnd frm too amt pri (upd (dropW frm too b i wai) i 0) byp ldr bor due plg clo pap cnd small price cut proc (nI mk) (nI lm) (nI le)) rfl ?_
          refine z_iinc C (v := (nI (i + 1))) dX2_dropAllOf_37 2 rfl (nI_add i 1) (by decide) [(0, .ref (ad 4)), (1, .int (nI b)), (2, .int (nI (i + 1)))] [1, 2, 0] rfl ?_
          refine z_goto C (tgt := 2) dX2_dropAllOf_40 (by decide) ?_
          refine z_ws (wX ad cI cZ acc net tacc tnet flo bnd frm too amt pri (dropW frm too b (i + 1) wai) byp ldr bor due plg clo pap cnd small price cut proc (nI mk) (nI lm) (nI le)) (by first | rw [dropW_y (Or.inl (by assumption))] | rw [dropW_y (Or.inr (by assumption))] | rw [dropW_n (by assumption) (by assumption)]) ?_
          exact ih_2 (i + 1) (by omega) (by first | assumption | omega)
        · skip
          have n_9 : ¬ (ix (frm i)) = b := fun q => c17_7 ((nI_eq (a := ix (frm i)) (b := b) (by omega) (by omega)).mpr q)
          refine z_aload_n C dX2_dropAllOf_20 rfl 0 rfl ?_
          refine z_get C 4 rfl i_X2_dropAllOf_X2 rfl 1 (by decide) m_X2_dropAllOf_f15 rfl rfl dX2_dropAllOf_21 ?_
          refine z_iload_n C dX2_dropAllOf_24 rfl 2 rfl ?_
          have := (htoo i (by omega)).2
          refine z_iald C 13 0 rfl rfl i (nI_clamp (by omega)) (vp_in_nI (by omega) (by omega)) (nI (ix (too i))) (htoo i (by omega)).1 dX2_dropAllOf_25 ?_
          refine z_iload_n C dX2_dropAllOf_26 rfl 1 rfl ?_
          refine z_icmp_ne C (tgt := 37) dX2_dropAllOf_27 (by decide) (fun c27_10 => ?_) (fun c27_10 => ?_)
          · skip
            have n_11 : ¬ (ix (too i)) = b := fun q => c27_10 ((nI_eq (a := ix (too i)) (b := b) (by omega) (by omega)).mpr q)
            refine z_iinc C (v := (nI (i + 1))) dX2_dropAllOf_37 2 rfl (nI_add i 1) (by decide) [(0, .ref (ad 4)), (1, .int (nI b)), (2, .int (nI (i + 1)))] [1, 2, 0] rfl ?_
            refine z_goto C (tgt := 2) dX2_dropAllOf_40 (by decide) ?_
            refine z_ws (wX ad cI cZ acc net tacc tnet flo bnd frm too amt pri (dropW frm too b (i + 1) wai) byp ldr bor due plg clo pap cnd small price cut proc (nI mk) (nI lm) (nI le)) (by first | rw [dropW_y (Or.inl (by assumption))] | rw [dropW_y (Or.inr (by assumption))] | rw [dropW_n (by assumption) (by assumption)]) ?_
            exact ih_2 (i + 1) (by omega) (by first | assumption | omega)
          · skip
            have n_12 : (ix (too i)) = b := (nI_eq (a := ix (too i)) (b := b) (by omega) (by omega)).mp c27_10
            refine z_aload_n C dX2_dropAllOf_30 rfl 0 rfl ?_
            refine z_get C 4 rfl i_X2_dropAllOf_X2 rfl 4 (by decide) m_X2_dropAllOf_f24 rfl rfl dX2_dropAllOf_31 ?_
            refine z_iload_n C dX2_dropAllOf_34 rfl 2 rfl ?_
            refine z_iconst C (v := 0) dX2_dropAllOf_35 (by decide) ?_
            refine z_zast C 16 1 rfl rfl i (nI_clamp (by omega)) (vp_in_nI (by omega) (by omega)) 0 (by decide) dX2_dropAllOf_36 (wX ad cI cZ acc net tacc tnet flo bnd frm too amt pri (upd (dropW frm too b i wai) i 0) byp ldr bor due plg clo pap cnd small price cut proc (nI mk) (nI lm) (nI le)) rfl ?_
            refine z_iinc C (v := (nI (i + 1))) dX2_dropAllOf_37 2 rfl (nI_add i 1) (by decide) [(0, .ref (ad 4)), (1, .int (nI b)), (2, .int (nI (i + 1)))] [1, 2, 0] rfl ?_
            refine z_goto C (tgt := 2) dX2_dropAllOf_40 (by decide) ?_
            refine z_ws (wX ad cI cZ acc net tacc tnet flo bnd frm too amt pri (dropW frm too b (i + 1) wai) byp ldr bor due plg clo pap cnd small price cut proc (nI mk) (nI lm) (nI le)) (by first | rw [dropW_y (Or.inl (by assumption))] | rw [dropW_y (Or.inr (by assumption))] | rw [dropW_n (by assumption) (by assumption)]) ?_
            exact ih_2 (i + 1) (by omega) (by first | assumption | omega)
  refine z_ws (wX ad cI cZ acc net tacc tnet flo bnd frm too amt pri (dropW frm too b 0 wai) byp ldr bor due plg clo pap cnd small price cut proc (nI mk) (nI lm) (nI le)) (by rw [dropW_0]) ?_
  refine z_lveq [(0, .ref (ad 4)), (1, .int (nI b)), (2, .int (nI 0))] (by rfl) ?_
  exact L2_k_1 (mk - 0 + 1) 0 (Nat.lt_succ_self _) (by first | assumption | omega)
set_option maxHeartbeats 4000000 in
set_option maxRecDepth 100000 in
theorem c_X2_waitsAt (l : Launch) (sa : Nat → Nat) (D : va_G) (cI cZ cL : ClassId) (ad : Nat → Nat) (acc net tacc tnet flo bnd frm too amt pri wai byp ldr bor due plg clo pap cnd : Nat → Int32) (small price cut proc : Int32) (mk lm le : Nat) (p9 : Nat) (b : Nat) (hp : p9 < mk) (hb : b < 5) (hmk : mk ≤ 60) (hfrm : wf5 mk frm) (htoo : wf5 mk too) : zMi (T := Unit) sa D vwCl (zty cI cZ cL) l yX2_waitsAt wsX2_waitsAt ({ frames := 0, cells := 0, slots := 0, locals := 0 } : Room) [.ref (ad 4), .int (nI p9), .int (nI b)] (wX ad cI cZ acc net tacc tnet flo bnd frm too amt pri wai byp ldr bor due plg clo pap cnd small price cut proc (nI mk) (nI lm) (nI le)) (fun r9 _ => r9 = if isq wai frm b p9 = true then 1 else 0) (fun _ => (wX ad cI cZ acc net tacc tnet flo bnd frm too amt pri wai byp ldr bor due plg clo pap cnd small price cut proc (nI mk) (nI lm) (nI le))) 0 0 := by
  refine zMi.of (ret := (some .boolean)) (cc := cX2_waitsAt) (nL := 3) (own := RX2) (by decide +kernel) rfl [(0, .ref (ad 4)), (1, .int (nI p9)), (2, .int (nI b))] rfl (Nat.le_of_ble_eq_true rfl) rfl ?_
  intro A p e s m args below meth c C hmn
  refine z_aload_n C dX2_waitsAt_0 rfl 0 rfl ?_
  refine z_get C 4 rfl i_X2_waitsAt_X2 rfl 4 (by decide) m_X2_waitsAt_f24 rfl rfl dX2_waitsAt_1 ?_
  refine z_iload_n C dX2_waitsAt_4 rfl 1 rfl ?_
  refine z_zald C 16 1 rfl rfl p9 (nI_clamp (by omega)) (vp_in_nI (by omega) (by omega)) (wai p9) rfl dX2_waitsAt_5 ?_
  refine z_if_eq C (tgt := 23) dX2_waitsAt_6 (by decide) (fun c6_1 => ?_) (fun c6_1 => ?_)
  · skip
    refine z_iconst C (v := 0) dX2_waitsAt_23 (by decide) ?_
    exact z_zret C () (by simp [isq, c6_1]) rfl (by decide) (by decide) (by decide) dX2_waitsAt_24
  · skip
    refine z_aload_n C dX2_waitsAt_9 rfl 0 rfl ?_
    refine z_get C 4 rfl i_X2_waitsAt_X2 rfl 0 (by decide) m_X2_waitsAt_f9 rfl rfl dX2_waitsAt_10 ?_
    refine z_iload_n C dX2_waitsAt_13 rfl 1 rfl ?_
    have := (hfrm p9 (by omega)).2
    refine z_iald C 12 0 rfl rfl p9 (nI_clamp (by omega)) (vp_in_nI (by omega) (by omega)) (nI (ix (frm p9))) (hfrm p9 (by omega)).1 dX2_waitsAt_14 ?_
    refine z_iload_n C dX2_waitsAt_15 rfl 2 rfl ?_
    refine z_icmp_ne C (tgt := 23) dX2_waitsAt_16 (by decide) (fun c16_2 => ?_) (fun c16_2 => ?_)
    · skip
      have n_3 : ¬ (ix (frm p9)) = b := fun q => c16_2 ((nI_eq (a := ix (frm p9)) (b := b) (by omega) (by omega)).mpr q)
      refine z_iconst C (v := 0) dX2_waitsAt_23 (by decide) ?_
      exact z_zret C () (by simp [isq, c6_1, c16_2, n_3]) rfl (by decide) (by decide) (by decide) dX2_waitsAt_24
    · skip
      have n_4 : (ix (frm p9)) = b := (nI_eq (a := ix (frm p9)) (b := b) (by omega) (by omega)).mp c16_2
      refine z_iconst C (v := 1) dX2_waitsAt_19 (by decide) ?_
      refine z_goto C (tgt := 24) dX2_waitsAt_20 (by decide) ?_
      exact z_zret C () (by simp [isq, c6_1, c16_2, n_4]) rfl (by decide) (by decide) (by decide) dX2_waitsAt_24
set_option maxHeartbeats 4000000 in
set_option maxRecDepth 100000 in
theorem c_X2_inQueue (l : Launch) (sa : Nat → Nat) (D : va_G) (cI cZ cL : ClassId) (ad : Nat → Nat) (acc net tacc tnet flo bnd frm too amt pri wai byp ldr bor due plg clo pap cnd : Nat → Int32) (small price cut proc : Int32) (mk lm le : Nat) (b : Nat) (k : Nat) (hb : b < 5) (hk : k < 2147483648) (hmk : mk ≤ 60) (hfrm : wf5 mk frm) (htoo : wf5 mk too) (hbyp : bypOK byp pri mk) : zMi (T := Unit) sa D vwCl (zty cI cZ cL) l yX2_inQueue wsX2_inQueue ({ frames := 1, cells := 0, slots := 0, locals := 22 } : Room) [.ref (ad 4), .int (nI b), .int (nI k)] (wX ad cI cZ acc net tacc tnet flo bnd frm too amt pri wai byp ldr bor due plg clo pap cnd small price cut proc (nI mk) (nI lm) (nI le)) (fun r9 _ => r9 = oI (atQ (ordL pri mk) (isq wai frm b) k)) (fun _ => (wX ad cI cZ acc net tacc tnet flo bnd frm too amt pri wai byp ldr bor due plg clo pap cnd small price cut proc (nI mk) (nI lm) (nI le))) 0 0 := by
  refine zMi.of (ret := (some .int)) (cc := cX2_inQueue) (nL := 5) (own := RX2) (by decide +kernel) rfl [(0, .ref (ad 4)), (1, .int (nI b)), (2, .int (nI k))] rfl (Nat.le_of_ble_eq_true rfl) rfl ?_
  intro A p e s m args below meth c C hmn
  refine z_iconst C (v := 0) dX2_inQueue_0 (by decide) ?_
  refine z_istore_n C dX2_inQueue_1 rfl (by decide) [(0, .ref (ad 4)), (1, .int (nI b)), (2, .int (nI k)), (3, .int 0)] [1, 2, 3, 0] rfl ?_
  refine z_iconst C (v := 0) dX2_inQueue_2 (by decide) ?_
  refine z_istore C dX2_inQueue_3 (by decide) [(0, .ref (ad 4)), (1, .int (nI b)), (2, .int (nI k)), (3, .int 0), (4, .int 0)] [1, 2, 3, 4, 0] rfl ?_
  have L5_k_1 : ∀ (n : Nat) (a i : Nat), mk - i < n → (i ≤ mk) → (a = (((ordL pri mk).take i).filter (isq wai frm b)).length) → (a ≤ k) → zW 0 p l e ({ frames := 1, cells := 0, slots := 0, locals := 22 } : Room) s m args below meth c (MQ below (zQi (T := Unit) D vwCl (zty cI cZ cL) A (fun r9 _ => r9 = oI (atQ (ordL pri mk) (isq wai frm b) k)) (fun _ => (wX ad cI cZ acc net tacc tnet flo bnd frm too amt pri wai byp ldr bor due plg clo pap cnd small price cut proc (nI mk) (nI lm) (nI le)))) args s 0 0 A) D vwCl A 5 0 0 (wX ad cI cZ acc net tacc tnet flo bnd frm too amt pri wai byp ldr bor due plg clo pap cnd small price cut proc (nI mk) (nI lm) (nI le)) [(0, .ref (ad 4)), (1, .int (nI b)), (2, .int (nI k)), (3, .int (nI a)), (4, .int (nI i))] 5 [] := by
    intro n
    induction n with
    | zero => intros; omega
    | succ n ih_2 =>
      intro a i hm_3 hi ha hak
      refine z_iload C dX2_inQueue_5 4 rfl ?_
      refine z_aload_n C dX2_inQueue_7 rfl 0 rfl ?_
      refine z_get C 4 rfl i_X2_inQueue_X2 rfl 6 (by decide) m_X2_inQueue_f31 rfl rfl dX2_inQueue_8 ?_
      refine z_icmp_ge C (tgt := 51) dX2_inQueue_11 (by decide) (fun c11_4 => ?_) (fun c11_4 => ?_)
      · skip
        have n_5 : mk ≤ i := (nI_leI (a := mk) (b := i) (by omega) (by omega)).mp c11_4
        refine z_iconst C (v := (-1)) dX2_inQueue_51 (by decide) ?_
        exact z_iret C () (by rw [atQ_end (i := i) (by have := ordL_len pri mk; omega) (by omega)]; rfl) rfl (by decide) (by decide) dX2_inQueue_52
      · skip
        have n_6 : ¬ mk ≤ i := fun q => c11_4 ((nI_leI (a := mk) (b := i) (by omega) (by omega)).mpr q)
        refine z_aload_n C dX2_inQueue_14 rfl 0 rfl ?_
        refine z_aload_n C dX2_inQueue_15 rfl 0 rfl ?_
        refine z_get C 4 rfl i_X2_inQueue_X2 rfl 5 (by decide) m_X2_inQueue_f28 rfl rfl dX2_inQueue_16 ?_
        refine z_iload C dX2_inQueue_19 4 rfl ?_
        obtain ⟨q_byp, hq_byp⟩ := hbyp i (by omega)
        have := ordL_mem (List.mem_of_getElem? hq_byp.1)
        refine z_iald C 17 0 rfl rfl i (nI_clamp (by omega)) (vp_in_nI (by omega) (by omega)) (nI q_byp) hq_byp.2 dX2_inQueue_21 ?_
        refine z_iload_n C dX2_inQueue_22 rfl 1 rfl ?_
        refine z_case (isq wai frm b q_byp = true) (fun hp_7 => ?_) (fun hp_7 => ?_)
        · skip
          refine z_callVi C (T := Unit) (As := [.int (nI q_byp), .int (nI b)]) (rest := []) (ws' := fun _ => (wX ad cI cZ acc net tacc tnet flo bnd frm too amt pri wai byp ldr bor due plg clo pap cnd small price cut proc (nI mk) (nI lm) (nI le))) (c_X2_waitsAt l sa D cI cZ cL ad acc net tacc tnet flo bnd frm too amt pri wai byp ldr bor due plg clo pap cnd small price cut proc mk lm le q_byp b (by first | assumption | omega) (by first | assumption | omega) (by first | assumption | omega) (by first | assumption | omega) (by first | assumption | omega)) (cwV 2 C.2.2.2.2.1 gX2_inQueue_X2_waitsAt rfl rfl rfl (by decide +kernel) ⟨Nat.le_of_ble_eq_true rfl, Nat.le_of_ble_eq_true rfl⟩) 4 rfl rfl rfl (fun _ => zSub.full) zIn.full rfl (Nat.le_of_ble_eq_true rfl) ⟨Nat.le_of_ble_eq_true rfl, Nat.le_of_ble_eq_true rfl⟩ dX2_inQueue_23 (fun r_8 _ h_9 => ?_)
          obtain rfl : r_8 = 1 := h_9.trans (if_pos hp_7)
          refine z_if_eq C (tgt := 45) dX2_inQueue_26 (by decide) (fun h => absurd h (by decide)) (fun _ => ?_)
          refine z_iload_n C dX2_inQueue_29 rfl 3 rfl ?_
          refine z_iload_n C dX2_inQueue_30 rfl 2 rfl ?_
          refine z_icmp_ne C (tgt := 42) dX2_inQueue_31 (by decide) (fun c31_10 => ?_) (fun c31_10 => ?_)
          · skip
            have n_11 : ¬ a = k := fun q => c31_10 ((nI_eq (a := a) (b := k) (by omega) (by omega)).mpr q)
            refine z_iinc C (v := (nI (a + 1))) dX2_inQueue_42 3 rfl (nI_add a 1) (by decide) [(0, .ref (ad 4)), (1, .int (nI b)), (2, .int (nI k)), (3, .int (nI (a + 1))), (4, .int (nI i))] [1, 2, 3, 0, 4] rfl ?_
            refine z_iinc C (v := (nI (i + 1))) dX2_inQueue_45 4 rfl (nI_add i 1) (by decide) [(0, .ref (ad 4)), (1, .int (nI b)), (2, .int (nI k)), (3, .int (nI (a + 1))), (4, .int (nI (i + 1)))] [1, 2, 3, 4, 0] rfl ?_
            refine z_goto C (tgt := 5) dX2_inQueue_48 (by decide) ?_
            exact ih_2 (a + 1) (i + 1) (by omega) (by first | assumption | omega) (by first | (rw [atQ_yes hq_byp.1 (by assumption)]; omega) | (rw [atQ_no hq_byp.1 (by assumption)]; omega)) (by first | assumption | omega)
          · skip
            have n_12 : a = k := (nI_eq (a := a) (b := k) (by omega) (by omega)).mp c31_10
            refine z_aload_n C dX2_inQueue_34 rfl 0 rfl ?_
            refine z_get C 4 rfl i_X2_inQueue_X2 rfl 5 (by decide) m_X2_inQueue_f28 rfl rfl dX2_inQueue_35 ?_
            refine z_iload C dX2_inQueue_38 4 rfl ?_
            refine z_iald C 17 0 rfl rfl i (nI_clamp (by omega)) (vp_in_nI (by omega) (by omega)) (nI q_byp) hq_byp.2 dX2_inQueue_40 ?_
            exact z_iret C () (by rw [atQ_found hq_byp.1 (by assumption) (by omega)]; rfl) rfl (by decide) (by decide) dX2_inQueue_41
        · skip
          refine z_callVi C (T := Unit) (As := [.int (nI q_byp), .int (nI b)]) (rest := []) (ws' := fun _ => (wX ad cI cZ acc net tacc tnet flo bnd frm too amt pri wai byp ldr bor due plg clo pap cnd small price cut proc (nI mk) (nI lm) (nI le))) (c_X2_waitsAt l sa D cI cZ cL ad acc net tacc tnet flo bnd frm too amt pri wai byp ldr bor due plg clo pap cnd small price cut proc mk lm le q_byp b (by first | assumption | omega) (by first | assumption | omega) (by first | assumption | omega) (by first | assumption | omega) (by first | assumption | omega)) (cwV 2 C.2.2.2.2.1 gX2_inQueue_X2_waitsAt rfl rfl rfl (by decide +kernel) ⟨Nat.le_of_ble_eq_true rfl, Nat.le_of_ble_eq_true rfl⟩) 4 rfl rfl rfl (fun _ => zSub.full) zIn.full rfl (Nat.le_of_ble_eq_true rfl) ⟨Nat.le_of_ble_eq_true rfl, Nat.le_of_ble_eq_true rfl⟩ dX2_inQueue_23 (fun r_13 _ h_14 => ?_)
          obtain rfl : r_13 = 0 := h_14.trans (if_neg hp_7)
          refine z_if_eq C (tgt := 45) dX2_inQueue_26 (by decide) (fun _ => ?_) (fun h => absurd h (by decide))
          refine z_iinc C (v := (nI (i + 1))) dX2_inQueue_45 4 rfl (nI_add i 1) (by decide) [(0, .ref (ad 4)), (1, .int (nI b)), (2, .int (nI k)), (3, .int (nI a)), (4, .int (nI (i + 1)))] [1, 2, 3, 4, 0] rfl ?_
          refine z_goto C (tgt := 5) dX2_inQueue_48 (by decide) ?_
          exact ih_2 a (i + 1) (by omega) (by first | assumption | omega) (by first | (rw [atQ_yes hq_byp.1 (by assumption)]; omega) | (rw [atQ_no hq_byp.1 (by assumption)]; omega)) (by first | assumption | omega)
  refine z_lveq [(0, .ref (ad 4)), (1, .int (nI b)), (2, .int (nI k)), (3, .int (nI 0)), (4, .int (nI 0))] (by rfl) ?_
  exact L5_k_1 (mk - 0 + 1) 0 0 (Nat.lt_succ_self _) (by first | assumption | omega) (by simp) (by first | assumption | omega)
end
section
theorem m_X4_obstacle_f29 : Cond.fieldLink RX4 29 "Queuefloat" "payments" "LQueuefloat$Payments;" ∈ wsX4_obstacle := by decide +kernel
theorem i_X4_obstacle_X4 : ∀ w ∈ wsX40, w ∈ wsX4_obstacle := by decide +kernel
theorem m_X4_obstacle_f125 : Cond.fieldLink RX4 125 "Queuefloat$Payments" "waits" "[Z" ∈ wsX4_obstacle := by decide +kernel
theorem i_X4_obstacle_X2 : ∀ w ∈ wsX20, w ∈ wsX4_obstacle := by decide +kernel
theorem m_X4_obstacle_f217 : Cond.fieldLink RX4 217 "Queuefloat$Payments" "from" "[I" ∈ wsX4_obstacle := by decide +kernel
theorem m_X4_obstacle_f220 : Cond.fieldLink RX4 220 "Queuefloat$Payments" "amount" "[I" ∈ wsX4_obstacle := by decide +kernel
theorem m_X4_obstacle_f10 : Cond.fieldLink RX4 10 "Queuefloat" "sums" "LQueuefloat$Sums;" ∈ wsX4_obstacle := by decide +kernel
theorem m_X4_obstacle_f73 : Cond.fieldLink RX4 73 "Queuefloat$Sums" "accountOf" "[I" ∈ wsX4_obstacle := by decide +kernel
theorem i_X4_obstacle_X3 : ∀ w ∈ wsX30, w ∈ wsX4_obstacle := by decide +kernel
theorem m_X4_obstacle_f22 : Cond.fieldLink RX4 22 "Queuefloat" "limits" "LQueuefloat$Limits;" ∈ wsX4_obstacle := by decide +kernel
theorem m_X4_obstacle_f91 : Cond.fieldLink RX4 91 "Queuefloat$Limits" "floorOf" "[I" ∈ wsX4_obstacle := by decide +kernel
theorem i_X4_obstacle_X0 : ∀ w ∈ wsX00, w ∈ wsX4_obstacle := by decide +kernel
theorem m_X4_obstacle_f223 : Cond.fieldLink RX4 223 "Queuefloat$Payments" "to" "[I" ∈ wsX4_obstacle := by decide +kernel
theorem m_X4_obstacle_f101 : Cond.fieldLink RX4 101 "Queuefloat$Sums" "netPaid" "[I" ∈ wsX4_obstacle := by decide +kernel
theorem m_X4_obstacle_f107 : Cond.fieldLink RX4 107 "Queuefloat$Limits" "boundOf" "[I" ∈ wsX4_obstacle := by decide +kernel
theorem m_X4_send_f29 : Cond.fieldLink RX4 29 "Queuefloat" "payments" "LQueuefloat$Payments;" ∈ wsX4_send := by decide +kernel
theorem i_X4_send_X4 : ∀ w ∈ wsX40, w ∈ wsX4_send := by decide +kernel
theorem m_X4_send_f10 : Cond.fieldLink RX4 10 "Queuefloat" "sums" "LQueuefloat$Sums;" ∈ wsX4_send := by decide +kernel
theorem m_X4_send_f125 : Cond.fieldLink RX4 125 "Queuefloat$Payments" "waits" "[Z" ∈ wsX4_send := by decide +kernel
theorem i_X4_send_X2 : ∀ w ∈ wsX20, w ∈ wsX4_send := by decide +kernel
theorem m_X4_firstSmallFree_f29 : Cond.fieldLink RX4 29 "Queuefloat" "payments" "LQueuefloat$Payments;" ∈ wsX4_firstSmallFree := by decide +kernel
theorem i_X4_firstSmallFree_X4 : ∀ w ∈ wsX40, w ∈ wsX4_firstSmallFree := by decide +kernel
theorem m_X4_firstSmallFree_f113 : Cond.fieldLink RX4 113 "Queuefloat$Payments" "made" "I" ∈ wsX4_firstSmallFree := by decide +kernel
theorem i_X4_firstSmallFree_X2 : ∀ w ∈ wsX20, w ∈ wsX4_firstSmallFree := by decide +kernel
theorem m_X4_firstSmallFree_f239 : Cond.fieldLink RX4 239 "Queuefloat$Payments" "byPriority" "[I" ∈ wsX4_firstSmallFree := by decide +kernel
theorem m_X4_firstSmallFree_f220 : Cond.fieldLink RX4 220 "Queuefloat$Payments" "amount" "[I" ∈ wsX4_firstSmallFree := by decide +kernel
theorem m_X4_firstSmallFree_f51 : Cond.fieldLink RX4 51 "Queuefloat" "small" "I" ∈ wsX4_firstSmallFree := by decide +kernel
theorem m_X4_nextToGo_f29 : Cond.fieldLink RX4 29 "Queuefloat" "payments" "LQueuefloat$Payments;" ∈ wsX4_nextToGo := by decide +kernel
theorem i_X4_nextToGo_X4 : ∀ w ∈ wsX40, w ∈ wsX4_nextToGo := by decide +kernel
set_option maxHeartbeats 4000000 in
set_option maxRecDepth 100000 in
theorem c_X4_obstacle (l : Launch) (sa : Nat → Nat) (D : va_G) (cI cZ cL : ClassId) (ad : Nat → Nat) (acc net tacc tnet flo bnd frm too amt pri wai byp ldr bor due plg clo pap cnd : Nat → Int32) (small price cut proc : Int32) (mk lm le : Nat) (p9 : Nat) (hp : p9 < mk) (hmk : mk ≤ 60) (hfrm : wf5 mk frm) (htoo : wf5 mk too) : zMi (T := Unit) sa D vwCl (zty cI cZ cL) l yX4_obstacle wsX4_obstacle ({ frames := 1, cells := 0, slots := 0, locals := 21 } : Room) [.ref (ad 0), .int (nI p9)] (wX ad cI cZ acc net tacc tnet flo bnd frm too amt pri wai byp ldr bor due plg clo pap cnd small price cut proc (nI mk) (nI lm) (nI le)) (fun r9 _ => r9 = (obs acc net flo bnd frm too amt wai p9)) (fun _ => (wX ad cI cZ acc net tacc tnet flo bnd frm too amt pri wai byp ldr bor due plg clo pap cnd small price cut proc (nI mk) (nI lm) (nI le))) 0 0 := by
  refine zMi.of (ret := (some .int)) (cc := cX4_obstacle) (nL := 5) (own := RX4) (by decide +kernel) rfl [(0, .ref (ad 0)), (1, .int (nI p9))] rfl (Nat.le_of_ble_eq_true rfl) rfl ?_
  intro A p e s m args below meth c C hmn
  refine z_aload_n C dX4_obstacle_0 rfl 0 rfl ?_
  refine z_get C 0 rfl i_X4_obstacle_X4 rfl 3 (by decide) m_X4_obstacle_f29 rfl rfl dX4_obstacle_1 ?_
  refine z_get C 4 rfl i_X4_obstacle_X2 rfl 4 (by decide) m_X4_obstacle_f125 rfl rfl dX4_obstacle_4 ?_
  refine z_iload_n C dX4_obstacle_7 rfl 1 rfl ?_
  refine z_zald C 16 1 rfl rfl p9 (nI_clamp (by omega)) (vp_in_nI (by omega) (by omega)) (wai p9) rfl dX4_obstacle_8 ?_
  refine z_if_ne C (tgt := 14) dX4_obstacle_9 (by decide) (fun c9_1 => ?_) (fun c9_1 => ?_)
  · skip
    refine z_aload_n C dX4_obstacle_14 rfl 0 rfl ?_
    refine z_get C 0 rfl i_X4_obstacle_X4 rfl 3 (by decide) m_X4_obstacle_f29 rfl rfl dX4_obstacle_15 ?_
    refine z_get C 4 rfl i_X4_obstacle_X2 rfl 0 (by decide) m_X4_obstacle_f217 rfl rfl dX4_obstacle_18 ?_
    refine z_iload_n C dX4_obstacle_21 rfl 1 rfl ?_
    have := (hfrm p9 (by omega)).2
    refine z_iald C 12 0 rfl rfl p9 (nI_clamp (by omega)) (vp_in_nI (by omega) (by omega)) (nI (ix (frm p9))) (hfrm p9 (by omega)).1 dX4_obstacle_22 ?_
    refine z_istore_n C dX4_obstacle_23 rfl (by decide) [(0, .ref (ad 0)), (1, .int (nI p9)), (2, .int (nI (ix (frm p9))))] [1, 2, 0] rfl ?_
    refine z_aload_n C dX4_obstacle_24 rfl 0 rfl ?_
    refine z_get C 0 rfl i_X4_obstacle_X4 rfl 3 (by decide) m_X4_obstacle_f29 rfl rfl dX4_obstacle_25 ?_
    refine z_get C 4 rfl i_X4_obstacle_X2 rfl 2 (by decide) m_X4_obstacle_f220 rfl rfl dX4_obstacle_28 ?_
    refine z_iload_n C dX4_obstacle_31 rfl 1 rfl ?_
    refine z_iald C 14 0 rfl rfl p9 (nI_clamp (by omega)) (vp_in_nI (by omega) (by omega)) (amt p9) rfl dX4_obstacle_32 ?_
    refine z_istore_n C dX4_obstacle_33 rfl (by decide) [(0, .ref (ad 0)), (1, .int (nI p9)), (2, .int (nI (ix (frm p9)))), (3, .int (amt p9))] [1, 2, 3, 0] rfl ?_
    refine z_aload_n C dX4_obstacle_34 rfl 0 rfl ?_
    refine z_get C 0 rfl i_X4_obstacle_X4 rfl 0 (by decide) m_X4_obstacle_f10 rfl rfl dX4_obstacle_35 ?_
    refine z_get C 1 rfl i_X4_obstacle_X3 rfl 0 (by decide) m_X4_obstacle_f73 rfl rfl dX4_obstacle_38 ?_
    refine z_iload_n C dX4_obstacle_41 rfl 2 rfl ?_
    refine z_iald C 6 0 rfl rfl (ix (frm p9)) (nI_clamp (by omega)) (vp_in_nI (by omega) (by omega)) (acc (ix (frm p9))) rfl dX4_obstacle_42 ?_
    refine z_iload_n C dX4_obstacle_43 rfl 3 rfl ?_
    refine z_isub C (v := ((acc (ix (frm p9))) - (amt p9))) dX4_obstacle_44 rfl ?_
    refine z_aload_n C dX4_obstacle_45 rfl 0 rfl ?_
    refine z_get C 0 rfl i_X4_obstacle_X4 rfl 2 (by decide) m_X4_obstacle_f22 rfl rfl dX4_obstacle_46 ?_
    refine z_get C 3 rfl i_X4_obstacle_X0 rfl 0 (by decide) m_X4_obstacle_f91 rfl rfl dX4_obstacle_49 ?_
    refine z_iload_n C dX4_obstacle_52 rfl 2 rfl ?_
    refine z_iald C 10 0 rfl rfl (ix (frm p9)) (nI_clamp (by omega)) (vp_in_nI (by omega) (by omega)) (flo (ix (frm p9))) rfl dX4_obstacle_53 ?_
    refine z_icmp_ge C (tgt := 59) dX4_obstacle_54 (by decide) (fun c54_2 => ?_) (fun c54_2 => ?_)
    · skip
      refine z_iload_n C dX4_obstacle_59 rfl 2 rfl ?_
      refine z_aload_n C dX4_obstacle_60 rfl 0 rfl ?_
      refine z_get C 0 rfl i_X4_obstacle_X4 rfl 3 (by decide) m_X4_obstacle_f29 rfl rfl dX4_obstacle_61 ?_
      refine z_get C 4 rfl i_X4_obstacle_X2 rfl 1 (by decide) m_X4_obstacle_f223 rfl rfl dX4_obstacle_64 ?_
      refine z_iload_n C dX4_obstacle_67 rfl 1 rfl ?_
      have := (htoo p9 (by omega)).2
      refine z_iald C 13 0 rfl rfl p9 (nI_clamp (by omega)) (vp_in_nI (by omega) (by omega)) (nI (ix (too p9))) (htoo p9 (by omega)).1 dX4_obstacle_68 ?_
      refine z_callSi C (T := Unit) (As := [.int (nI (ix (frm p9))), .int (nI (ix (too p9)))]) (rest := []) (ws' := fun _ => (wX ad cI cZ acc net tacc tnet flo bnd frm too amt pri wai byp ldr bor due plg clo pap cnd small price cut proc (nI mk) (nI lm) (nI le))) (c_X4_pairOf l sa D cI cZ cL  (ix (frm p9)) (ix (too p9)) ) (va_cwS 2 C.2.2.2.2.1 gX4_obstacle_X4_pairOf rfl rfl rfl (by decide +kernel) ⟨Nat.le_of_ble_eq_true rfl, Nat.le_of_ble_eq_true rfl⟩) (fun _ => zSub.none) zIn.none rfl (Nat.le_of_ble_eq_true rfl) ⟨Nat.le_of_ble_eq_true rfl, Nat.le_of_ble_eq_true rfl⟩ dX4_obstacle_69 (fun r_3 _ h_4 => ?_)
      obtain rfl : r_3 = (nI ((ix (frm p9)) * 5 + (ix (too p9)))) := h_4
      refine z_istore C dX4_obstacle_72 (by decide) [(0, .ref (ad 0)), (1, .int (nI p9)), (2, .int (nI (ix (frm p9)))), (3, .int (amt p9)), (4, .int (nI ((ix (frm p9)) * 5 + (ix (too p9)))))] [1, 2, 3, 4, 0] rfl ?_
      refine z_aload_n C dX4_obstacle_74 rfl 0 rfl ?_
      refine z_get C 0 rfl i_X4_obstacle_X4 rfl 0 (by decide) m_X4_obstacle_f10 rfl rfl dX4_obstacle_75 ?_
      refine z_get C 1 rfl i_X4_obstacle_X3 rfl 1 (by decide) m_X4_obstacle_f101 rfl rfl dX4_obstacle_78 ?_
      refine z_iload C dX4_obstacle_81 4 rfl ?_
      refine z_iald C 7 0 rfl rfl ((ix (frm p9)) * 5 + (ix (too p9))) (nI_clamp (by omega)) (vp_in_nI (by omega) (by omega)) (net ((ix (frm p9)) * 5 + (ix (too p9)))) rfl dX4_obstacle_83 ?_
      refine z_iload_n C dX4_obstacle_84 rfl 3 rfl ?_
      refine z_iadd C (v := ((net ((ix (frm p9)) * 5 + (ix (too p9)))) + (amt p9))) dX4_obstacle_85 rfl ?_
      refine z_aload_n C dX4_obstacle_86 rfl 0 rfl ?_
      refine z_get C 0 rfl i_X4_obstacle_X4 rfl 2 (by decide) m_X4_obstacle_f22 rfl rfl dX4_obstacle_87 ?_
      refine z_get C 3 rfl i_X4_obstacle_X0 rfl 1 (by decide) m_X4_obstacle_f107 rfl rfl dX4_obstacle_90 ?_
      refine z_iload C dX4_obstacle_93 4 rfl ?_
      refine z_iald C 11 0 rfl rfl ((ix (frm p9)) * 5 + (ix (too p9))) (nI_clamp (by omega)) (vp_in_nI (by omega) (by omega)) (bnd ((ix (frm p9)) * 5 + (ix (too p9)))) rfl dX4_obstacle_95 ?_
      refine z_icmp_le C (tgt := 103) dX4_obstacle_96 (by decide) (fun c96_5 => ?_) (fun c96_5 => ?_)
      · skip
        refine z_iconst C (v := 0) dX4_obstacle_103 (by decide) ?_
        exact z_iret C () (by simp [obs, c9_1, c54_2, c96_5]) rfl (by decide) (by decide) dX4_obstacle_104
      · skip
        refine z_iconst C (v := 2) dX4_obstacle_99 (by decide) ?_
        refine z_goto C (tgt := 104) dX4_obstacle_100 (by decide) ?_
        exact z_iret C () (by simp [obs, c9_1, c54_2, c96_5]) rfl (by decide) (by decide) dX4_obstacle_104
    · skip
      refine z_iconst C (v := 1) dX4_obstacle_57 (by decide) ?_
      exact z_iret C () (by simp [obs, c9_1, c54_2]) rfl (by decide) (by decide) dX4_obstacle_58
  · skip
    refine z_iconst C (v := 3) dX4_obstacle_12 (by decide) ?_
    exact z_iret C () (by simp [obs, c9_1]) rfl (by decide) (by decide) dX4_obstacle_13
set_option maxHeartbeats 4000000 in
set_option maxRecDepth 100000 in
theorem c_X4_send (l : Launch) (sa : Nat → Nat) (D : va_G) (cI cZ cL : ClassId) (ad : Nat → Nat) (acc net tacc tnet flo bnd frm too amt pri wai byp ldr bor due plg clo pap cnd : Nat → Int32) (small price cut proc : Int32) (mk lm le : Nat) (p9 : Nat) (hp : p9 < mk) (hmk : mk ≤ 60) (hfrm : wf5 mk frm) (htoo : wf5 mk too) : zMv (T := Unit) sa D vwCl (zty cI cZ cL) l yX4_send wsX4_send ({ frames := 3, cells := 0, slots := 0, locals := 66 } : Room) [.ref (ad 0), .int (nI p9)] (wX ad cI cZ acc net tacc tnet flo bnd frm too amt pri wai byp ldr bor due plg clo pap cnd small price cut proc (nI mk) (nI lm) (nI le)) (fun _ => True) (fun _ => (wX ad cI cZ (mvA (ix (frm p9)) (ix (too p9)) (amt p9) acc) (mvN (ix (frm p9)) (ix (too p9)) (amt p9) net) tacc tnet flo bnd frm too amt pri (upd wai p9 0) byp ldr bor due plg clo pap cnd small price cut proc (nI mk) (nI lm) (nI le))) 0 0 := by
  refine zMv.of (ret := none) (cc := cX4_send) (nL := 2) (own := RX4) (by decide +kernel) rfl [(0, .ref (ad 0)), (1, .int (nI p9))] rfl (Nat.le_of_ble_eq_true rfl) rfl ?_
  intro A p e s m args below meth c C hmn
  refine z_aload_n C dX4_send_0 rfl 0 rfl ?_
  refine z_get C 0 rfl i_X4_send_X4 rfl 3 (by decide) m_X4_send_f29 rfl rfl dX4_send_1 ?_
  refine z_iload_n C dX4_send_4 rfl 1 rfl ?_
  refine z_aload_n C dX4_send_5 rfl 0 rfl ?_
  refine z_get C 0 rfl i_X4_send_X4 rfl 0 (by decide) m_X4_send_f10 rfl rfl dX4_send_6 ?_
  refine z_callVv C (T := Unit) (As := [.int (nI p9), .ref (ad 1)]) (rest := []) (ws' := fun _ => (wX ad cI cZ (mvA (ix (frm p9)) (ix (too p9)) (amt p9) acc) (mvN (ix (frm p9)) (ix (too p9)) (amt p9) net) tacc tnet flo bnd frm too amt pri wai byp ldr bor due plg clo pap cnd small price cut proc (nI mk) (nI lm) (nI le))) (c_X2_apply l sa D cI cZ cL (ad 4) (ad 12) (ad 13) (ad 14) (ad 15) (ad 16) (ad 17) frm too amt (nI mk) (ad 1) (ad 6) (ad 7) acc net p9 mk (by first | assumption | omega) (by first | assumption | omega) (by first | assumption | omega) (by first | assumption | omega)) (cwV 2 C.2.2.2.2.1 gX4_send_X2_apply rfl rfl rfl (by decide +kernel) ⟨Nat.le_of_ble_eq_true rfl, Nat.le_of_ble_eq_true rfl⟩) 4 rfl rfl rfl (fun _ => (zSub.of (wr := [((ad 0), .inr (4, [.ref (ad 1), .ref (ad 2), .ref (ad 3), .ref (ad 4), .ref (ad 5), .ref (ad 22), .ref (ad 23), .ref (ad 24), .int small, .int price, .int cut, .int proc])), ((ad 2), .inr (3, [.ref (ad 8), .ref (ad 9)])), ((ad 3), .inr (0, [.ref (ad 10), .ref (ad 11)])), ((ad 5), .inr (1, [.ref (ad 18), .ref (ad 19), .ref (ad 20), .ref (ad 21), .int (nI lm), .int (nI le)])), ((ad 8), .inl (cI, 5, .inl tacc)), ((ad 9), .inl (cI, 25, .inl tnet)), ((ad 10), .inl (cI, 5, .inl flo)), ((ad 11), .inl (cI, 25, .inl bnd)), ((ad 15), .inl (cI, 60, .inl pri)), ((ad 16), .inl (cZ, 60, .inl wai)), ((ad 17), .inl (cI, 60, .inl byp)), ((ad 18), .inl (cI, 40, .inl ldr)), ((ad 19), .inl (cI, 40, .inl bor)), ((ad 20), .inl (cI, 40, .inl due)), ((ad 21), .inl (cI, 40, .inl plg)), ((ad 22), .inl (cZ, 5, .inl clo)), ((ad 23), .inl (cI, 5, .inl pap)), ((ad 24), .inl (cI, 10, .inl cnd))]) [4, 12, 13, 14, 1, 6, 7] [0, 2, 3, 5, 8, 9, 10, 11, 15, 16, 17, 18, 19, 20, 21, 22, 23, 24] [0, 22, 1, 2, 18, 3, 23, 24, 4, 5, 6, 7, 19, 20, 21, 8, 9, 10, 11, 12, 13, 14, 15, 16, 17] rfl rfl rfl rfl (by decide) rfl rfl)) (zIn.of [4, 12, 13, 14, 1, 6, 7] rfl rfl) rfl (Nat.le_of_ble_eq_true rfl) ⟨Nat.le_of_ble_eq_true rfl, Nat.le_of_ble_eq_true rfl⟩ dX4_send_9 (fun _ _ => ?_)
  refine z_aload_n C dX4_send_12 rfl 0 rfl ?_
  refine z_get C 0 rfl i_X4_send_X4 rfl 3 (by decide) m_X4_send_f29 rfl rfl dX4_send_13 ?_
  refine z_get C 4 rfl i_X4_send_X2 rfl 4 (by decide) m_X4_send_f125 rfl rfl dX4_send_16 ?_
  refine z_iload_n C dX4_send_19 rfl 1 rfl ?_
  refine z_iconst C (v := 0) dX4_send_20 (by decide) ?_
  refine z_zast C 16 1 rfl rfl p9 (nI_clamp (by omega)) (vp_in_nI (by omega) (by omega)) 0 (by decide) dX4_send_21 (wX ad cI cZ (mvA (ix (frm p9)) (ix (too p9)) (amt p9) acc) (mvN (ix (frm p9)) (ix (too p9)) (amt p9) net) tacc tnet flo bnd frm too amt pri (upd wai p9 0) byp ldr bor due plg clo pap cnd small price cut proc (nI mk) (nI lm) (nI le)) rfl ?_
  exact z_vret C () (by exact trivial) rfl (by decide) (by decide) dX4_send_22
set_option maxHeartbeats 4000000 in
set_option maxRecDepth 100000 in
theorem c_X4_firstSmallFree (l : Launch) (sa : Nat → Nat) (D : va_G) (cI cZ cL : ClassId) (ad : Nat → Nat) (acc net tacc tnet flo bnd frm too amt pri wai byp ldr bor due plg clo pap cnd : Nat → Int32) (small price cut proc : Int32) (mk lm le : Nat) (b : Nat) (hb : b < 5) (hmk : mk ≤ 60) (hfrm : wf5 mk frm) (htoo : wf5 mk too) (hbyp : bypOK byp pri mk) : zMi (T := Unit) sa D vwCl (zty cI cZ cL) l yX4_firstSmallFree wsX4_firstSmallFree ({ frames := 2, cells := 0, slots := 0, locals := 45 } : Room) [.ref (ad 0), .int (nI b)] (wX ad cI cZ acc net tacc tnet flo bnd frm too amt pri wai byp ldr bor due plg clo pap cnd small price cut proc (nI mk) (nI lm) (nI le)) (fun r9 _ => r9 = oI ((ordL pri mk).find? (fsm acc net flo bnd frm too amt wai small b))) (fun _ => (wX ad cI cZ acc net tacc tnet flo bnd frm too amt pri wai byp ldr bor due plg clo pap cnd small price cut proc (nI mk) (nI lm) (nI le))) 0 0 := by
  refine zMi.of (ret := (some .int)) (cc := cX4_firstSmallFree) (nL := 4) (own := RX4) (by decide +kernel) rfl [(0, .ref (ad 0)), (1, .int (nI b))] rfl (Nat.le_of_ble_eq_true rfl) rfl ?_
  intro A p e s m args below meth c C hmn
  refine z_iconst C (v := 0) dX4_firstSmallFree_0 (by decide) ?_
  refine z_istore_n C dX4_firstSmallFree_1 rfl (by decide) [(0, .ref (ad 0)), (1, .int (nI b)), (2, .int 0)] [1, 2, 0] rfl ?_
  have L2_k_1 : ∀ (n : Nat) (i : Nat), mk - i < n → (i ≤ mk) → (((ordL pri mk).take i).find? (fsm acc net flo bnd frm too amt wai small b) = none) → zW 0 p l e ({ frames := 2, cells := 0, slots := 0, locals := 45 } : Room) s m args below meth c (MQ below (zQi (T := Unit) D vwCl (zty cI cZ cL) A (fun r9 _ => r9 = oI ((ordL pri mk).find? (fsm acc net flo bnd frm too amt wai small b))) (fun _ => (wX ad cI cZ acc net tacc tnet flo bnd frm too amt pri wai byp ldr bor due plg clo pap cnd small price cut proc (nI mk) (nI lm) (nI le)))) args s 0 0 A) D vwCl A 4 0 0 (wX ad cI cZ acc net tacc tnet flo bnd frm too amt pri wai byp ldr bor due plg clo pap cnd small price cut proc (nI mk) (nI lm) (nI le)) [(0, .ref (ad 0)), (1, .int (nI b)), (2, .int (nI i))] 2 [] := by
    intro n
    induction n with
    | zero => intros; omega
    | succ n ih_2 =>
      intro i hm_3 hi ha
      refine z_iload_n C dX4_firstSmallFree_2 rfl 2 rfl ?_
      refine z_aload_n C dX4_firstSmallFree_3 rfl 0 rfl ?_
      refine z_get C 0 rfl i_X4_firstSmallFree_X4 rfl 3 (by decide) m_X4_firstSmallFree_f29 rfl rfl dX4_firstSmallFree_4 ?_
      refine z_get C 4 rfl i_X4_firstSmallFree_X2 rfl 6 (by decide) m_X4_firstSmallFree_f113 rfl rfl dX4_firstSmallFree_7 ?_
      refine z_icmp_ge C (tgt := 67) dX4_firstSmallFree_10 (by decide) (fun c10_4 => ?_) (fun c10_4 => ?_)
      · skip
        have n_5 : mk ≤ i := (nI_leI (a := mk) (b := i) (by omega) (by omega)).mp c10_4
        refine z_iconst C (v := (-1)) dX4_firstSmallFree_67 (by decide) ?_
        exact z_iret C () (by rw [fd_end (i := i) (by have := ordL_len pri mk; omega) (by assumption)]; rfl) rfl (by decide) (by decide) dX4_firstSmallFree_68
      · skip
        have n_6 : ¬ mk ≤ i := fun q => c10_4 ((nI_leI (a := mk) (b := i) (by omega) (by omega)).mpr q)
        refine z_aload_n C dX4_firstSmallFree_13 rfl 0 rfl ?_
        refine z_get C 0 rfl i_X4_firstSmallFree_X4 rfl 3 (by decide) m_X4_firstSmallFree_f29 rfl rfl dX4_firstSmallFree_14 ?_
        refine z_get C 4 rfl i_X4_firstSmallFree_X2 rfl 5 (by decide) m_X4_firstSmallFree_f239 rfl rfl dX4_firstSmallFree_17 ?_
        refine z_iload_n C dX4_firstSmallFree_20 rfl 2 rfl ?_
        obtain ⟨q_byp, hq_byp⟩ := hbyp i (by omega)
        have := ordL_mem (List.mem_of_getElem? hq_byp.1)
        refine z_iald C 17 0 rfl rfl i (nI_clamp (by omega)) (vp_in_nI (by omega) (by omega)) (nI q_byp) hq_byp.2 dX4_firstSmallFree_21 ?_
        refine z_istore_n C dX4_firstSmallFree_22 rfl (by decide) [(0, .ref (ad 0)), (1, .int (nI b)), (2, .int (nI i)), (3, .int (nI q_byp))] [1, 2, 3, 0] rfl ?_
        refine z_aload_n C dX4_firstSmallFree_23 rfl 0 rfl ?_
        refine z_get C 0 rfl i_X4_firstSmallFree_X4 rfl 3 (by decide) m_X4_firstSmallFree_f29 rfl rfl dX4_firstSmallFree_24 ?_
        refine z_iload_n C dX4_firstSmallFree_27 rfl 3 rfl ?_
        refine z_iload_n C dX4_firstSmallFree_28 rfl 1 rfl ?_
        refine z_case (isq wai frm b q_byp = true) (fun hp_7 => ?_) (fun hp_7 => ?_)
        · skip
          refine z_callVi C (T := Unit) (As := [.int (nI q_byp), .int (nI b)]) (rest := []) (ws' := fun _ => (wX ad cI cZ acc net tacc tnet flo bnd frm too amt pri wai byp ldr bor due plg clo pap cnd small price cut proc (nI mk) (nI lm) (nI le))) (c_X2_waitsAt l sa D cI cZ cL ad acc net tacc tnet flo bnd frm too amt pri wai byp ldr bor due plg clo pap cnd small price cut proc mk lm le q_byp b (by first | assumption | omega) (by first | assumption | omega) (by first | assumption | omega) (by first | assumption | omega) (by first | assumption | omega)) (cwV 2 C.2.2.2.2.1 gX4_firstSmallFree_X2_waitsAt rfl rfl rfl (by decide +kernel) ⟨Nat.le_of_ble_eq_true rfl, Nat.le_of_ble_eq_true rfl⟩) 4 rfl rfl rfl (fun _ => zSub.full) zIn.full rfl (Nat.le_of_ble_eq_true rfl) ⟨Nat.le_of_ble_eq_true rfl, Nat.le_of_ble_eq_true rfl⟩ dX4_firstSmallFree_29 (fun r_8 _ h_9 => ?_)
          obtain rfl : r_8 = 1 := h_9.trans (if_pos hp_7)
          refine z_if_eq C (tgt := 61) dX4_firstSmallFree_32 (by decide) (fun h => absurd h (by decide)) (fun _ => ?_)
          refine z_aload_n C dX4_firstSmallFree_35 rfl 0 rfl ?_
          refine z_get C 0 rfl i_X4_firstSmallFree_X4 rfl 3 (by decide) m_X4_firstSmallFree_f29 rfl rfl dX4_firstSmallFree_36 ?_
          refine z_get C 4 rfl i_X4_firstSmallFree_X2 rfl 2 (by decide) m_X4_firstSmallFree_f220 rfl rfl dX4_firstSmallFree_39 ?_
          refine z_iload_n C dX4_firstSmallFree_42 rfl 3 rfl ?_
          refine z_iald C 14 0 rfl rfl q_byp (nI_clamp (by omega)) (vp_in_nI (by omega) (by omega)) (amt q_byp) rfl dX4_firstSmallFree_43 ?_
          refine z_aload_n C dX4_firstSmallFree_44 rfl 0 rfl ?_
          refine z_get C 0 rfl i_X4_firstSmallFree_X4 rfl 8 (by decide) m_X4_firstSmallFree_f51 rfl rfl dX4_firstSmallFree_45 ?_
          refine z_icmp_gt C (tgt := 61) dX4_firstSmallFree_48 (by decide) (fun c48_10 => ?_) (fun c48_10 => ?_)
          · skip
            refine z_iinc C (v := (nI (i + 1))) dX4_firstSmallFree_61 2 rfl (nI_add i 1) (by decide) [(0, .ref (ad 0)), (1, .int (nI b)), (2, .int (nI (i + 1))), (3, .int (nI q_byp))] [1, 2, 0, 3] rfl ?_
            refine z_goto C (tgt := 2) dX4_firstSmallFree_64 (by decide) ?_
            refine z_lv [(0, .ref (ad 0)), (1, .int (nI b)), (2, .int (nI (i + 1)))] [0, 1, 2] rfl ?_
            exact ih_2 (i + 1) (by omega) (by first | assumption | omega) (by exact fd_no hq_byp.1 (by simp [fsm, c10_4, n_6, hp_7, c48_10]) (by assumption))
          · skip
            refine z_aload_n C dX4_firstSmallFree_51 rfl 0 rfl ?_
            refine z_iload_n C dX4_firstSmallFree_52 rfl 3 rfl ?_
            refine z_callVi C (T := Unit) (As := [.int (nI q_byp)]) (rest := []) (ws' := fun _ => (wX ad cI cZ acc net tacc tnet flo bnd frm too amt pri wai byp ldr bor due plg clo pap cnd small price cut proc (nI mk) (nI lm) (nI le))) (c_X4_obstacle l sa D cI cZ cL ad acc net tacc tnet flo bnd frm too amt pri wai byp ldr bor due plg clo pap cnd small price cut proc mk lm le q_byp (by first | assumption | omega) (by first | assumption | omega) (by first | assumption | omega) (by first | assumption | omega)) (cwV 1 C.2.2.2.2.1 gX4_firstSmallFree_X4_obstacle rfl rfl rfl (by decide +kernel) ⟨Nat.le_of_ble_eq_true rfl, Nat.le_of_ble_eq_true rfl⟩) 0 rfl rfl rfl (fun _ => zSub.full) zIn.full rfl (Nat.le_of_ble_eq_true rfl) ⟨Nat.le_of_ble_eq_true rfl, Nat.le_of_ble_eq_true rfl⟩ dX4_firstSmallFree_53 (fun r_11 _ h_12 => ?_)
            obtain rfl : r_11 = (obs acc net flo bnd frm too amt wai q_byp) := h_12
            refine z_if_ne C (tgt := 61) dX4_firstSmallFree_56 (by decide) (fun c56_13 => ?_) (fun c56_13 => ?_)
            · skip
              refine z_iinc C (v := (nI (i + 1))) dX4_firstSmallFree_61 2 rfl (nI_add i 1) (by decide) [(0, .ref (ad 0)), (1, .int (nI b)), (2, .int (nI (i + 1))), (3, .int (nI q_byp))] [1, 2, 0, 3] rfl ?_
              refine z_goto C (tgt := 2) dX4_firstSmallFree_64 (by decide) ?_
              refine z_lv [(0, .ref (ad 0)), (1, .int (nI b)), (2, .int (nI (i + 1)))] [0, 1, 2] rfl ?_
              exact ih_2 (i + 1) (by omega) (by first | assumption | omega) (by exact fd_no hq_byp.1 (by simp [fsm, c10_4, n_6, hp_7, c48_10, c56_13]) (by assumption))
            · skip
              refine z_iload_n C dX4_firstSmallFree_59 rfl 3 rfl ?_
              exact z_iret C () (by rw [fd_found hq_byp.1 (by simp [fsm, c10_4, n_6, hp_7, c48_10, c56_13]) (by assumption)]; rfl) rfl (by decide) (by decide) dX4_firstSmallFree_60
        · skip
          refine z_callVi C (T := Unit) (As := [.int (nI q_byp), .int (nI b)]) (rest := []) (ws' := fun _ => (wX ad cI cZ acc net tacc tnet flo bnd frm too amt pri wai byp ldr bor due plg clo pap cnd small price cut proc (nI mk) (nI lm) (nI le))) (c_X2_waitsAt l sa D cI cZ cL ad acc net tacc tnet flo bnd frm too amt pri wai byp ldr bor due plg clo pap cnd small price cut proc mk lm le q_byp b (by first | assumption | omega) (by first | assumption | omega) (by first | assumption | omega) (by first | assumption | omega) (by first | assumption | omega)) (cwV 2 C.2.2.2.2.1 gX4_firstSmallFree_X2_waitsAt rfl rfl rfl (by decide +kernel) ⟨Nat.le_of_ble_eq_true rfl, Nat.le_of_ble_eq_true rfl⟩) 4 rfl rfl rfl (fun _ => zSub.full) zIn.full rfl (Nat.le_of_ble_eq_true rfl) ⟨Nat.le_of_ble_eq_true rfl, Nat.le_of_ble_eq_true rfl⟩ dX4_firstSmallFree_29 (fun r_14 _ h_15 => ?_)
          obtain rfl : r_14 = 0 := h_15.trans (if_neg hp_7)
          refine z_if_eq C (tgt := 61) dX4_firstSmallFree_32 (by decide) (fun _ => ?_) (fun h => absurd h (by decide))
          refine z_iinc C (v := (nI (i + 1))) dX4_firstSmallFree_61 2 rfl (nI_add i 1) (by decide) [(0, .ref (ad 0)), (1, .int (nI b)), (2, .int (nI (i + 1))), (3, .int (nI q_byp))] [1, 2, 0, 3] rfl ?_
          refine z_goto C (tgt := 2) dX4_firstSmallFree_64 (by decide) ?_
          refine z_lv [(0, .ref (ad 0)), (1, .int (nI b)), (2, .int (nI (i + 1)))] [0, 1, 2] rfl ?_
          exact ih_2 (i + 1) (by omega) (by first | assumption | omega) (by exact fd_no hq_byp.1 (by simp [fsm, c10_4, n_6, hp_7]) (by assumption))
  refine z_lveq [(0, .ref (ad 0)), (1, .int (nI b)), (2, .int (nI 0))] (by rfl) ?_
  exact L2_k_1 (mk - 0 + 1) 0 (Nat.lt_succ_self _) (by first | assumption | omega) (by simp)
set_option maxHeartbeats 4000000 in
set_option maxRecDepth 100000 in
theorem c_X4_nextToGo (l : Launch) (sa : Nat → Nat) (D : va_G) (cI cZ cL : ClassId) (ad : Nat → Nat) (acc net tacc tnet flo bnd frm too amt pri wai byp ldr bor due plg clo pap cnd : Nat → Int32) (small price cut proc : Int32) (mk lm le : Nat) (b : Nat) (hb : b < 5) (hmk : mk ≤ 60) (hfrm : wf5 mk frm) (htoo : wf5 mk too) (hbyp : bypOK byp pri mk) : zMi (T := Unit) sa D vwCl (zty cI cZ cL) l yX4_nextToGo wsX4_nextToGo ({ frames := 3, cells := 0, slots := 0, locals := 68 } : Room) [.ref (ad 0), .int (nI b)] (wX ad cI cZ acc net tacc tnet flo bnd frm too amt pri wai byp ldr bor due plg clo pap cnd small price cut proc (nI mk) (nI lm) (nI le)) (fun r9 _ => r9 = oI (nxtQ (ordL pri mk) acc net flo bnd frm too amt wai small b)) (fun _ => (wX ad cI cZ acc net tacc tnet flo bnd frm too amt pri wai byp ldr bor due plg clo pap cnd small price cut proc (nI mk) (nI lm) (nI le))) 0 0 := by
  refine zMi.of (ret := (some .int)) (cc := cX4_nextToGo) (nL := 3) (own := RX4) (by decide +kernel) rfl [(0, .ref (ad 0)), (1, .int (nI b))] rfl (Nat.le_of_ble_eq_true rfl) rfl ?_
  intro A p e s m args below meth c C hmn
  refine z_aload_n C dX4_nextToGo_0 rfl 0 rfl ?_
  refine z_get C 0 rfl i_X4_nextToGo_X4 rfl 3 (by decide) m_X4_nextToGo_f29 rfl rfl dX4_nextToGo_1 ?_
  refine z_iload_n C dX4_nextToGo_4 rfl 1 rfl ?_
  refine z_iconst C (v := 0) dX4_nextToGo_5 (by decide) ?_
  rcases hq_1 : atQ (ordL pri mk) (isq wai frm b) 0 with _ | p_2
  · skip
    refine z_callVi C (T := Unit) (As := [.int (nI b), .int 0]) (rest := []) (ws' := fun _ => (wX ad cI cZ acc net tacc tnet flo bnd frm too amt pri wai byp ldr bor due plg clo pap cnd small price cut proc (nI mk) (nI lm) (nI le))) (c_X2_inQueue l sa D cI cZ cL ad acc net tacc tnet flo bnd frm too amt pri wai byp ldr bor due plg clo pap cnd small price cut proc mk lm le b 0 (by first | assumption | omega) (by first | assumption | omega) (by first | assumption | omega) (by first | assumption | omega) (by first | assumption | omega) (by first | assumption | omega)) (cwV 2 C.2.2.2.2.1 gX4_nextToGo_X2_inQueue rfl rfl rfl (by decide +kernel) ⟨Nat.le_of_ble_eq_true rfl, Nat.le_of_ble_eq_true rfl⟩) 4 rfl rfl rfl (fun _ => zSub.full) zIn.full rfl (Nat.le_of_ble_eq_true rfl) ⟨Nat.le_of_ble_eq_true rfl, Nat.le_of_ble_eq_true rfl⟩ dX4_nextToGo_6 (fun r_3 _ h_4 => ?_)
    obtain rfl : r_3 = (-1) := h_4.trans (by rw [hq_1]; rfl)
    refine z_istore_n C dX4_nextToGo_9 rfl (by decide) [(0, .ref (ad 0)), (1, .int (nI b)), (2, .int (-1))] [1, 2, 0] rfl ?_
    refine z_iload_n C dX4_nextToGo_10 rfl 2 rfl ?_
    refine z_iconst C (v := (-1)) dX4_nextToGo_11 (by decide) ?_
    refine z_icmp_eq C (tgt := 23) dX4_nextToGo_12 (by decide) (fun _ => ?_) (fun h => absurd h (by decide))
    refine z_iload_n C dX4_nextToGo_23 rfl 2 rfl ?_
    exact z_iret C () (by simp [nxtQ, oI, hq_1]) rfl (by decide) (by decide) dX4_nextToGo_24
  · skip
    have hm_p_2 := atQ_mem hq_1
    have := ordL_mem hm_p_2.1
    refine z_callVi C (T := Unit) (As := [.int (nI b), .int 0]) (rest := []) (ws' := fun _ => (wX ad cI cZ acc net tacc tnet flo bnd frm too amt pri wai byp ldr bor due plg clo pap cnd small price cut proc (nI mk) (nI lm) (nI le))) (c_X2_inQueue l sa D cI cZ cL ad acc net tacc tnet flo bnd frm too amt pri wai byp ldr bor due plg clo pap cnd small price cut proc mk lm le b 0 (by first | assumption | omega) (by first | assumption | omega) (by first | assumption | omega) (by first | assumption | omega) (by first | assumption | omega) (by first | assumption | omega)) (cwV 2 C.2.2.2.2.1 gX4_nextToGo_X2_inQueue rfl rfl rfl (by decide +kernel) ⟨Nat.le_of_ble_eq_true rfl, Nat.le_of_ble_eq_true rfl⟩) 4 rfl rfl rfl (fun _ => zSub.full) zIn.full rfl (Nat.le_of_ble_eq_true rfl) ⟨Nat.le_of_ble_eq_true rfl, Nat.le_of_ble_eq_true rfl⟩ dX4_nextToGo_6 (fun r_5 _ h_6 => ?_)
    obtain rfl : r_5 = (nI p_2) := h_6.trans (by rw [hq_1]; rfl)
    refine z_istore_n C dX4_nextToGo_9 rfl (by decide) [(0, .ref (ad 0)), (1, .int (nI b)), (2, .int (nI p_2))] [1, 2, 0] rfl ?_
    refine z_iload_n C dX4_nextToGo_10 rfl 2 rfl ?_
    refine z_iconst C (v := (-1)) dX4_nextToGo_11 (by decide) ?_
    refine z_icmp_eq C (tgt := 23) dX4_nextToGo_12 (by decide) (fun h => absurd h (nI_m1 (by omega))) (fun _ => ?_)
    refine z_aload_n C dX4_nextToGo_15 rfl 0 rfl ?_
    refine z_iload_n C dX4_nextToGo_16 rfl 2 rfl ?_
    refine z_callVi C (T := Unit) (As := [.int (nI p_2)]) (rest := []) (ws' := fun _ => (wX ad cI cZ acc net tacc tnet flo bnd frm too amt pri wai byp ldr bor due plg clo pap cnd small price cut proc (nI mk) (nI lm) (nI le))) (c_X4_obstacle l sa D cI cZ cL ad acc net tacc tnet flo bnd frm too amt pri wai byp ldr bor due plg clo pap cnd small price cut proc mk lm le p_2 (by first | assumption | omega) (by first | assumption | omega) (by first | assumption | omega) (by first | assumption | omega)) (cwV 1 C.2.2.2.2.1 gX4_nextToGo_X4_obstacle rfl rfl rfl (by decide +kernel) ⟨Nat.le_of_ble_eq_true rfl, Nat.le_of_ble_eq_true rfl⟩) 0 rfl rfl rfl (fun _ => zSub.full) zIn.full rfl (Nat.le_of_ble_eq_true rfl) ⟨Nat.le_of_ble_eq_true rfl, Nat.le_of_ble_eq_true rfl⟩ dX4_nextToGo_17 (fun r_7 _ h_8 => ?_)
    obtain rfl : r_7 = (obs acc net flo bnd frm too amt wai p_2) := h_8
    refine z_if_ne C (tgt := 25) dX4_nextToGo_20 (by decide) (fun c20_9 => ?_) (fun c20_9 => ?_)
    · skip
      refine z_aload_n C dX4_nextToGo_25 rfl 0 rfl ?_
      refine z_iload_n C dX4_nextToGo_26 rfl 1 rfl ?_
      rcases hq_10 : (ordL pri mk).find? (fsm acc net flo bnd frm too amt wai small b) with _ | p_11
      · skip
        refine z_callVi C (T := Unit) (As := [.int (nI b)]) (rest := []) (ws' := fun _ => (wX ad cI cZ acc net tacc tnet flo bnd frm too amt pri wai byp ldr bor due plg clo pap cnd small price cut proc (nI mk) (nI lm) (nI le))) (c_X4_firstSmallFree l sa D cI cZ cL ad acc net tacc tnet flo bnd frm too amt pri wai byp ldr bor due plg clo pap cnd small price cut proc mk lm le b (by first | assumption | omega) (by first | assumption | omega) (by first | assumption | omega) (by first | assumption | omega) (by first | assumption | omega)) (cwV 1 C.2.2.2.2.1 gX4_nextToGo_X4_firstSmallFree rfl rfl rfl (by decide +kernel) ⟨Nat.le_of_ble_eq_true rfl, Nat.le_of_ble_eq_true rfl⟩) 0 rfl rfl rfl (fun _ => zSub.full) zIn.full rfl (Nat.le_of_ble_eq_true rfl) ⟨Nat.le_of_ble_eq_true rfl, Nat.le_of_ble_eq_true rfl⟩ dX4_nextToGo_27 (fun r_12 _ h_13 => ?_)
        obtain rfl : r_12 = (-1) := h_13.trans (by rw [hq_10]; rfl)
        exact z_iret C () (by simp [nxtQ, oI, hq_1, c20_9, hq_10]) rfl (by decide) (by decide) dX4_nextToGo_30
      · skip
        have hm_p_11 := fd_mem hq_10
        have := ordL_mem hm_p_11.1
        refine z_callVi C (T := Unit) (As := [.int (nI b)]) (rest := []) (ws' := fun _ => (wX ad cI cZ acc net tacc tnet flo bnd frm too amt pri wai byp ldr bor due plg clo pap cnd small price cut proc (nI mk) (nI lm) (nI le))) (c_X4_firstSmallFree l sa D cI cZ cL ad acc net tacc tnet flo bnd frm too amt pri wai byp ldr bor due plg clo pap cnd small price cut proc mk lm le b (by first | assumption | omega) (by first | assumption | omega) (by first | assumption | omega) (by first | assumption | omega) (by first | assumption | omega)) (cwV 1 C.2.2.2.2.1 gX4_nextToGo_X4_firstSmallFree rfl rfl rfl (by decide +kernel) ⟨Nat.le_of_ble_eq_true rfl, Nat.le_of_ble_eq_true rfl⟩) 0 rfl rfl rfl (fun _ => zSub.full) zIn.full rfl (Nat.le_of_ble_eq_true rfl) ⟨Nat.le_of_ble_eq_true rfl, Nat.le_of_ble_eq_true rfl⟩ dX4_nextToGo_27 (fun r_14 _ h_15 => ?_)
        obtain rfl : r_14 = (nI p_11) := h_15.trans (by rw [hq_10]; rfl)
        exact z_iret C () (by simp [nxtQ, oI, hq_1, c20_9, hq_10]) rfl (by decide) (by decide) dX4_nextToGo_30
    · skip
      refine z_iload_n C dX4_nextToGo_23 rfl 2 rfl ?_
      exact z_iret C () (by simp [nxtQ, oI, hq_1, c20_9]) rfl (by decide) (by decide) dX4_nextToGo_24
set_option maxHeartbeats 4000000 in
set_option maxRecDepth 100000 in
theorem c_X4_goThroughBanks (l : Launch) (sa : Nat → Nat) (D : va_G) (cI cZ cL : ClassId) (ad : Nat → Nat) (acc net tacc tnet flo bnd frm too amt pri wai byp ldr bor due plg clo pap cnd : Nat → Int32) (small price cut proc : Int32) (mk lm le : Nat)  (hmk : mk ≤ 60) (hfrm : wf5 mk frm) (htoo : wf5 mk too) (hbyp : bypOK byp pri mk) : zMi (T := Unit) sa D vwCl (zty cI cZ cL) l yX4_goThroughBanks wsX4_goThroughBanks ({ frames := 4, cells := 0, slots := 0, locals := 90 } : Room) [.ref (ad 0)] (wX ad cI cZ acc net tacc tnet flo bnd frm too amt pri wai byp ldr bor due plg clo pap cnd small price cut proc (nI mk) (nI lm) (nI le)) (fun r9 _ => r9 = (nI ((passF (ordL pri mk) flo bnd frm too amt small acc net wai 5).2.2.2))) (fun _ => (wX ad cI cZ ((passF (ordL pri mk) flo bnd frm too amt small acc net wai 5).1) ((passF (ordL pri mk) flo bnd frm too amt small acc net wai 5).2.1) tacc tnet flo bnd frm too amt pri ((passF (ordL pri mk) flo bnd frm too amt small acc net wai 5).2.2.1) byp ldr bor due plg clo pap cnd small price cut proc (nI mk) (nI lm) (nI le))) 0 0 := by
  refine zMi.of (ret := (some .int)) (cc := cX4_goThroughBanks) (nL := 4) (own := RX4) (by decide +kernel) rfl [(0, .ref (ad 0))] rfl (Nat.le_of_ble_eq_true rfl) rfl ?_
  intro A p e s m args below meth c C hmn
  refine z_iconst C (v := 0) dX4_goThroughBanks_0 (by decide) ?_
  refine z_istore_n C dX4_goThroughBanks_1 rfl (by decide) [(0, .ref (ad 0)), (1, .int 0)] [1, 0] rfl ?_
  refine z_iconst C (v := 0) dX4_goThroughBanks_2 (by decide) ?_
  refine z_istore_n C dX4_goThroughBanks_3 rfl (by decide) [(0, .ref (ad 0)), (1, .int 0), (2, .int 0)] [1, 2, 0] rfl ?_
  have L4_k_1 : ∀ (n : Nat) (i : Nat), 5 - i < n → (i ≤ 5) → zW 0 p l e ({ frames := 4, cells := 0, slots := 0, locals := 90 } : Room) s m args below meth c (MQ below (zQi (T := Unit) D vwCl (zty cI cZ cL) A (fun r9 _ => r9 = (nI ((passF (ordL pri mk) flo bnd frm too amt small acc net wai 5).2.2.2))) (fun _ => (wX ad cI cZ ((passF (ordL pri mk) flo bnd frm too amt small acc net wai 5).1) ((passF (ordL pri mk) flo bnd frm too amt small acc net wai 5).2.1) tacc tnet flo bnd frm too amt pri ((passF (ordL pri mk) flo bnd frm too amt small acc net wai 5).2.2.1) byp ldr bor due plg clo pap cnd small price cut proc (nI mk) (nI lm) (nI le)))) args s 0 0 A) D vwCl A 4 0 0 (wX ad cI cZ ((passF (ordL pri mk) flo bnd frm too amt small acc net wai i).1) ((passF (ordL pri mk) flo bnd frm too amt small acc net wai i).2.1) tacc tnet flo bnd frm too amt pri ((passF (ordL pri mk) flo bnd frm too amt small acc net wai i).2.2.1) byp ldr bor due plg clo pap cnd small price cut proc (nI mk) (nI lm) (nI le)) [(0, .ref (ad 0)), (1, .int (nI ((passF (ordL pri mk) flo bnd frm too amt small acc net wai i).2.2.2))), (2, .int (nI i))] 4 [] := by
    intro n
    induction n with
    | zero => intros; omega
    | succ n ih_2 =>
      intro i hm_3 hi
      refine z_iload_n C dX4_goThroughBanks_4 rfl 2 rfl ?_
      refine z_iconst C (v := 5) dX4_goThroughBanks_5 (by decide) ?_
      refine z_icmp_ge C (tgt := 34) dX4_goThroughBanks_6 (by decide) (fun c6_4 => ?_) (fun c6_4 => ?_)
      · skip
        have n_5 : 5 ≤ i := (nI_leI (a := 5) (b := i) (by omega) (by omega)).mp c6_4
        refine z_iload_n C dX4_goThroughBanks_34 rfl 1 rfl ?_
        exact z_iret C () (by rw [show i = 5 by omega]) (by rw [show i = 5 by omega]) (by decide) (by decide) dX4_goThroughBanks_35
      · skip
        have n_6 : ¬ 5 ≤ i := fun q => c6_4 ((nI_leI (a := 5) (b := i) (by omega) (by omega)).mpr q)
        refine z_aload_n C dX4_goThroughBanks_9 rfl 0 rfl ?_
        refine z_iload_n C dX4_goThroughBanks_10 rfl 2 rfl ?_
        rcases hq_7 : nxtQ (ordL pri mk) ((passF (ordL pri mk) flo bnd frm too amt small acc net wai i).1) ((passF (ordL pri mk) flo bnd frm too amt small acc net wai i).2.1) flo bnd frm too amt ((passF (ordL pri mk) flo bnd frm too amt small acc net wai i).2.2.1) small i with _ | p_8
        · skip
          refine z_callVi C (T := Unit) (As := [.int (nI i)]) (rest := []) (ws' := fun _ => (wX ad cI cZ ((passF (ordL pri mk) flo bnd frm too amt small acc net wai i).1) ((passF (ordL pri mk) flo bnd frm too amt small acc net wai i).2.1) tacc tnet flo bnd frm too amt pri ((passF (ordL pri mk) flo bnd frm too amt small acc net wai i).2.2.1) byp ldr bor due plg clo pap cnd small price cut proc (nI mk) (nI lm) (nI le))) (c_X4_nextToGo l sa D cI cZ cL ad ((passF (ordL pri mk) flo bnd frm too amt small acc net wai i).1) ((passF (ordL pri mk) flo bnd frm too amt small acc net wai i).2.1) tacc tnet flo bnd frm too amt pri ((passF (ordL pri mk) flo bnd frm too amt small acc net wai i).2.2.1) byp ldr bor due plg clo pap cnd small price cut proc mk lm le i (by first | assumption | omega) (by first | assumption | omega) (by first | assumption | omega) (by first | assumption | omega) (by first | assumption | omega)) (cwV 1 C.2.2.2.2.1 gX4_goThroughBanks_X4_nextToGo rfl rfl rfl (by decide +kernel) ⟨Nat.le_of_ble_eq_true rfl, Nat.le_of_ble_eq_true rfl⟩) 0 rfl rfl rfl (fun _ => zSub.full) zIn.full rfl (Nat.le_of_ble_eq_true rfl) ⟨Nat.le_of_ble_eq_true rfl, Nat.le_of_ble_eq_true rfl⟩ dX4_goThroughBanks_11 (fun r_9 _ h_10 => ?_)
          obtain rfl : r_9 = (-1) := h_10.trans (by rw [hq_7]; rfl)
          refine z_istore_n C dX4_goThroughBanks_14 rfl (by decide) [(0, .ref (ad 0)), (1, .int (nI ((passF (ordL pri mk) flo bnd frm too amt small acc net wai i).2.2.2))), (2, .int (nI i)), (3, .int (-1))] [1, 2, 3, 0] rfl ?_
          refine z_iload_n C dX4_goThroughBanks_15 rfl 3 rfl ?_
          refine z_iconst C (v := (-1)) dX4_goThroughBanks_16 (by decide) ?_
          refine z_icmp_eq C (tgt := 28) dX4_goThroughBanks_17 (by decide) (fun _ => ?_) (fun h => absurd h (by decide))
          refine z_iinc C (v := (nI (i + 1))) dX4_goThroughBanks_28 2 rfl (nI_add i 1) (by decide) [(0, .ref (ad 0)), (1, .int (nI ((passF (ordL pri mk) flo bnd frm too amt small acc net wai i).2.2.2))), (2, .int (nI (i + 1))), (3, .int (-1))] [1, 2, 0, 3] rfl ?_
          refine z_goto C (tgt := 4) dX4_goThroughBanks_31 (by decide) ?_
          refine z_lv [(0, .ref (ad 0)), (1, .int (nI ((passF (ordL pri mk) flo bnd frm too amt small acc net wai i).2.2.2))), (2, .int (nI (i + 1)))] [0, 1, 2] rfl ?_
          refine z_ws (wX ad cI cZ ((passF (ordL pri mk) flo bnd frm too amt small acc net wai (i + 1)).1) ((passF (ordL pri mk) flo bnd frm too amt small acc net wai (i + 1)).2.1) tacc tnet flo bnd frm too amt pri ((passF (ordL pri mk) flo bnd frm too amt small acc net wai (i + 1)).2.2.1) byp ldr bor due plg clo pap cnd small price cut proc (nI mk) (nI lm) (nI le)) (by simp only [passF, c6_4, n_6, hq_7]) ?_
          refine z_lveq [(0, .ref (ad 0)), (1, .int (nI ((passF (ordL pri mk) flo bnd frm too amt small acc net wai (i + 1)).2.2.2))), (2, .int (nI (i + 1)))] (by simp only [passF, c6_4, n_6, hq_7]) ?_
          exact ih_2 (i + 1) (by omega) (by first | assumption | omega)
        · skip
          have hm_p_8 := nxtQ_mem hq_7
          have := hm_p_8.1
          refine z_callVi C (T := Unit) (As := [.int (nI i)]) (rest := []) (ws' := fun _ => (wX ad cI cZ ((passF (ordL pri mk) flo bnd frm too amt small acc net wai i).1) ((passF (ordL pri mk) flo bnd frm too amt small acc net wai i).2.1) tacc tnet flo bnd frm too amt pri ((passF (ordL pri mk) flo bnd frm too amt small acc net wai i).2.2.1) byp ldr bor due plg clo pap cnd small price cut proc (nI mk) (nI lm) (nI le))) (c_X4_nextToGo l sa D cI cZ cL ad ((passF (ordL pri mk) flo bnd frm too amt small acc net wai i).1) ((passF (ordL pri mk) flo bnd frm too amt small acc net wai i).2.1) tacc tnet flo bnd frm too amt pri ((passF (ordL pri mk) flo bnd frm too amt small acc net wai i).2.2.1) byp ldr bor due plg clo pap cnd small price cut proc mk lm le i (by first | assumption | omega) (by first | assumption | omega) (by first | assumption | omega) (by first | assumption | omega) (by first | assumption | omega)) (cwV 1 C.2.2.2.2.1 gX4_goThroughBanks_X4_nextToGo rfl rfl rfl (by decide +kernel) ⟨Nat.le_of_ble_eq_true rfl, Nat.le_of_ble_eq_true rfl⟩) 0 rfl rfl rfl (fun _ => zSub.full) zIn.full rfl (Nat.le_of_ble_eq_true rfl) ⟨Nat.le_of_ble_eq_true rfl, Nat.le_of_ble_eq_true rfl⟩ dX4_goThroughBanks_11 (fun r_11 _ h_12 => ?_)
          obtain rfl : r_11 = (nI p_8) := h_12.trans (by rw [hq_7]; rfl)
          refine z_istore_n C dX4_goThroughBanks_14 rfl (by decide) [(0, .ref (ad 0)), (1, .int (nI ((passF (ordL pri mk) flo bnd frm too amt small acc net wai i).2.2.2))), (2, .int (nI i)), (3, .int (nI p_8))] [1, 2, 3, 0] rfl ?_
          refine z_iload_n C dX4_goThroughBanks_15 rfl 3 rfl ?_
          refine z_iconst C (v := (-1)) dX4_goThroughBanks_16 (by decide) ?_
          refine z_icmp_eq C (tgt := 28) dX4_goThroughBanks_17 (by decide) (fun h => absurd h (nI_m1 (by omega))) (fun _ => ?_)
          refine z_aload_n C dX4_goThroughBanks_20 rfl 0 rfl ?_
          refine z_iload_n C dX4_goThroughBanks_21 rfl 3 rfl ?_
          refine z_callVv C (T := Unit) (As := [.int (nI p_8)]) (rest := []) (ws' := fun _ => (wX ad cI cZ (mvA (ix (frm p_8)) (ix (too p_8)) (amt p_8) ((passF (ordL pri mk) flo bnd frm too amt small acc net wai i).1)) (mvN (ix (frm p_8)) (ix (too p_8)) (amt p_8) ((passF (ordL pri mk) flo bnd frm too amt small acc net wai i).2.1)) tacc tnet flo bnd frm too amt pri (upd ((passF (ordL pri mk) flo bnd frm too amt small acc net wai i).2.2.1) p_8 0) byp ldr bor due plg clo pap cnd small price cut proc (nI mk) (nI lm) (nI le))) (c_X4_send l sa D cI cZ cL ad ((passF (ordL pri mk) flo bnd frm too amt small acc net wai i).1) ((passF (ordL pri mk) flo bnd frm too amt small acc net wai i).2.1) tacc tnet flo bnd frm too amt pri ((passF (ordL pri mk) flo bnd frm too amt small acc net wai i).2.2.1) byp ldr bor due plg clo pap cnd small price cut proc mk lm le p_8 (by first | assumption | omega) (by first | assumption | omega) (by first | assumption | omega) (by first | assumption | omega)) (cwV 1 C.2.2.2.2.1 gX4_goThroughBanks_X4_send rfl rfl rfl (by decide +kernel) ⟨Nat.le_of_ble_eq_true rfl, Nat.le_of_ble_eq_true rfl⟩) 0 rfl rfl rfl (fun _ => zSub.full) zIn.full rfl (Nat.le_of_ble_eq_true rfl) ⟨Nat.le_of_ble_eq_true rfl, Nat.le_of_ble_eq_true rfl⟩ dX4_goThroughBanks_22 (fun _ _ => ?_)
          refine z_iinc C (v := (nI (((passF (ordL pri mk) flo bnd frm too amt small acc net wai i).2.2.2) + 1))) dX4_goThroughBanks_25 1 rfl (nI_add ((passF (ordL pri mk) flo bnd frm too amt small acc net wai i).2.2.2) 1) (by decide) [(0, .ref (ad 0)), (1, .int (nI (((passF (ordL pri mk) flo bnd frm too amt small acc net wai i).2.2.2) + 1))), (2, .int (nI i)), (3, .int (nI p_8))] [1, 0, 2, 3] rfl ?_
          refine z_iinc C (v := (nI (i + 1))) dX4_goThroughBanks_28 2 rfl (nI_add i 1) (by decide) [(0, .ref (ad 0)), (1, .int (nI (((passF (ordL pri mk) flo bnd frm too amt small acc net wai i).2.2.2) + 1))), (2, .int (nI (i + 1))), (3, .int (nI p_8))] [1, 2, 0, 3] rfl ?_
          refine z_goto C (tgt := 4) dX4_goThroughBanks_31 (by decide) ?_
          refine z_lv [(0, .ref (ad 0)), (1, .int (nI (((passF (ordL pri mk) flo bnd frm too amt small acc net wai i).2.2.2) + 1))), (2, .int (nI (i + 1)))] [0, 1, 2] rfl ?_
          refine z_ws (wX ad cI cZ ((passF (ordL pri mk) flo bnd frm too amt small acc net wai (i + 1)).1) ((passF (ordL pri mk) flo bnd frm too amt small acc net wai (i + 1)).2.1) tacc tnet flo bnd frm too amt pri ((passF (ordL pri mk) flo bnd frm too amt small acc net wai (i + 1)).2.2.1) byp ldr bor due plg clo pap cnd small price cut proc (nI mk) (nI lm) (nI le)) (by simp only [passF, c6_4, n_6, hq_7]) ?_
          refine z_lveq [(0, .ref (ad 0)), (1, .int (nI ((passF (ordL pri mk) flo bnd frm too amt small acc net wai (i + 1)).2.2.2))), (2, .int (nI (i + 1)))] (by simp only [passF, c6_4, n_6, hq_7]) ?_
          exact ih_2 (i + 1) (by omega) (by first | assumption | omega)
  refine z_ws (wX ad cI cZ ((passF (ordL pri mk) flo bnd frm too amt small acc net wai 0).1) ((passF (ordL pri mk) flo bnd frm too amt small acc net wai 0).2.1) tacc tnet flo bnd frm too amt pri ((passF (ordL pri mk) flo bnd frm too amt small acc net wai 0).2.2.1) byp ldr bor due plg clo pap cnd small price cut proc (nI mk) (nI lm) (nI le)) (by rfl) ?_
  refine z_lveq [(0, .ref (ad 0)), (1, .int (nI ((passF (ordL pri mk) flo bnd frm too amt small acc net wai 0).2.2.2))), (2, .int (nI 0))] (by rfl) ?_
  exact L4_k_1 (5 - 0 + 1) 0 (Nat.lt_succ_self _) (by first | assumption | omega)
end
section
theorem m_J6_bitCount_0f7a4_k265 : Cond.constant RJ6 265 (1431655765) ∈ wsJ6_bitCount_0f7a4 := by decide +kernel
theorem m_J6_bitCount_0f7a4_k266 : Cond.constant RJ6 266 (858993459) ∈ wsJ6_bitCount_0f7a4 := by decide +kernel
theorem m_J6_bitCount_0f7a4_k267 : Cond.constant RJ6 267 (252645135) ∈ wsJ6_bitCount_0f7a4 := by decide +kernel
theorem m_X3_copy_f9 : Cond.fieldLink RX3 9 "Queuefloat$Sums" "accountOf" "[I" ∈ wsX3_copy := by decide +kernel
theorem i_X3_copy_X3 : ∀ w ∈ wsX30, w ∈ wsX3_copy := by decide +kernel
theorem m_X3_copy_l22 : Cond.methodLink RX3 22 arraycopyName ∈ wsX3_copy := by decide +kernel
theorem m_X3_copy_acn : Cond.native arraycopyName ∈ wsX3_copy := by decide +kernel
theorem m_X3_copy_acs : Cond.static arraycopyName ∈ wsX3_copy := by decide +kernel
theorem m_X3_copy_aci : Cond.initialized "java/lang/System" ∈ wsX3_copy := by decide +kernel
theorem m_X3_copy_f15 : Cond.fieldLink RX3 15 "Queuefloat$Sums" "netPaid" "[I" ∈ wsX3_copy := by decide +kernel
theorem m_X0_allow_f24 : Cond.fieldLink RX0 24 "Queuefloat$Sums" "netPaid" "[I" ∈ wsX0_allow := by decide +kernel
theorem i_X0_allow_X3 : ∀ w ∈ wsX30, w ∈ wsX0_allow := by decide +kernel
theorem m_X0_allow_f15 : Cond.fieldLink RX0 15 "Queuefloat$Limits" "boundOf" "[I" ∈ wsX0_allow := by decide +kernel
theorem i_X0_allow_X0 : ∀ w ∈ wsX00, w ∈ wsX0_allow := by decide +kernel
theorem m_X0_allow_f19 : Cond.fieldLink RX0 19 "Queuefloat$Sums" "accountOf" "[I" ∈ wsX0_allow := by decide +kernel
theorem m_X0_allow_f9 : Cond.fieldLink RX0 9 "Queuefloat$Limits" "floorOf" "[I" ∈ wsX0_allow := by decide +kernel
theorem m_X4_canGoTogether_f16 : Cond.fieldLink RX4 16 "Queuefloat" "trial" "LQueuefloat$Sums;" ∈ wsX4_canGoTogether := by decide +kernel
theorem i_X4_canGoTogether_X4 : ∀ w ∈ wsX40, w ∈ wsX4_canGoTogether := by decide +kernel
theorem m_X4_canGoTogether_f10 : Cond.fieldLink RX4 10 "Queuefloat" "sums" "LQueuefloat$Sums;" ∈ wsX4_canGoTogether := by decide +kernel
theorem m_X4_canGoTogether_f22 : Cond.fieldLink RX4 22 "Queuefloat" "limits" "LQueuefloat$Limits;" ∈ wsX4_canGoTogether := by decide +kernel
theorem m_X4_canGoTogether_f48 : Cond.fieldLink RX4 48 "Queuefloat" "candidates" "[I" ∈ wsX4_canGoTogether := by decide +kernel
theorem m_X4_canGoTogether_f29 : Cond.fieldLink RX4 29 "Queuefloat" "payments" "LQueuefloat$Payments;" ∈ wsX4_canGoTogether := by decide +kernel
theorem m_X4_listWaiting_f29 : Cond.fieldLink RX4 29 "Queuefloat" "payments" "LQueuefloat$Payments;" ∈ wsX4_listWaiting := by decide +kernel
theorem i_X4_listWaiting_X4 : ∀ w ∈ wsX40, w ∈ wsX4_listWaiting := by decide +kernel
theorem m_X4_listWaiting_f113 : Cond.fieldLink RX4 113 "Queuefloat$Payments" "made" "I" ∈ wsX4_listWaiting := by decide +kernel
theorem i_X4_listWaiting_X2 : ∀ w ∈ wsX20, w ∈ wsX4_listWaiting := by decide +kernel
theorem m_X4_listWaiting_f125 : Cond.fieldLink RX4 125 "Queuefloat$Payments" "waits" "[Z" ∈ wsX4_listWaiting := by decide +kernel
theorem m_X4_listWaiting_f48 : Cond.fieldLink RX4 48 "Queuefloat" "candidates" "[I" ∈ wsX4_listWaiting := by decide +kernel
set_option maxHeartbeats 4000000 in
set_option maxRecDepth 100000 in
theorem c_X4_isIn (l : Launch) (sa : Nat → Nat) (D : va_G) (cI cZ cL : ClassId)  (S : Nat) (k : Nat) (hS : S < 1024) (hk : k < 10) : zMi (T := Unit) sa D vwCl (zty cI cZ cL) l yX4_isIn wsX4_isIn ({ frames := 0, cells := 0, slots := 0, locals := 0 } : Room) [.int (nI S), .int (nI k)] [] (fun r9 _ => r9 = if S.testBit k = true then 1 else 0) (fun _ => []) 0 0 := by
  refine zMi.of (ret := (some .boolean)) (cc := cX4_isIn) (nL := 2) (own := RX4) (by decide +kernel) rfl [(0, .int (nI S)), (1, .int (nI k))] rfl (Nat.le_of_ble_eq_true rfl) rfl ?_
  intro A p e s m args below meth c C hmn
  refine z_iload_n C dX4_isIn_0 rfl 0 rfl ?_
  refine z_iconst C (v := 1) dX4_isIn_1 (by decide) ?_
  refine z_iload_n C dX4_isIn_2 rfl 1 rfl ?_
  refine z_ishl C (v := (nI (2 ^ k))) dX4_isIn_3 (z_shl1 (by omega)) ?_
  refine z_iand C (v := ((nI S) &&& (nI (2 ^ k)))) dX4_isIn_4 rfl ?_
  refine z_if_eq C (tgt := 12) dX4_isIn_5 (by decide) (fun c5_1 => ?_) (fun c5_1 => ?_)
  · skip
    refine z_iconst C (v := 0) dX4_isIn_12 (by decide) ?_
    exact z_zret C () (by rw [if_neg (by rw [(z_bit hS hk).mp c5_1]; decide)]) rfl (by decide) (by decide) (by decide) dX4_isIn_13
  · skip
    refine z_iconst C (v := 1) dX4_isIn_8 (by decide) ?_
    refine z_goto C (tgt := 13) dX4_isIn_9 (by decide) ?_
    exact z_zret C () (by rw [if_pos (by cases e : S.testBit k with | true => rfl | false => exact absurd ((z_bit hS hk).mpr e) c5_1)]) rfl (by decide) (by decide) (by decide) dX4_isIn_13
theorem bc32 : ∀ S, S < 32 → (((((((((nI S) - ((((nI S).toUInt32 >>> ((1 : Int32).toUInt32 &&& Int32.toUInt32 31)).toInt32) &&& 1431655765)) &&& 858993459) + (((((nI S) - ((((nI S).toUInt32 >>> ((1 : Int32).toUInt32 &&& Int32.toUInt32 31)).toInt32) &&& 1431655765)).toUInt32 >>> ((2 : Int32).toUInt32 &&& Int32.toUInt32 31)).toInt32) &&& 858993459)) + ((((((nI S) - ((((nI S).toUInt32 >>> ((1 : Int32).toUInt32 &&& Int32.toUInt32 31)).toInt32) &&& 1431655765)) &&& 858993459) + (((((nI S) - ((((nI S).toUInt32 >>> ((1 : Int32).toUInt32 &&& Int32.toUInt32 31)).toInt32) &&& 1431655765)).toUInt32 >>> ((2 : Int32).toUInt32 &&& Int32.toUInt32 31)).toInt32) &&& 858993459)).toUInt32 >>> ((4 : Int32).toUInt32 &&& Int32.toUInt32 31)).toInt32)) &&& 252645135) + ((((((((nI S) - ((((nI S).toUInt32 >>> ((1 : Int32).toUInt32 &&& Int32.toUInt32 31)).toInt32) &&& 1431655765)) &&& 858993459) + (((((nI S) - ((((nI S).toUInt32 >>> ((1 : Int32).toUInt32 &&& Int32.toUInt32 31)).toInt32) &&& 1431655765)).toUInt32 >>> ((2 : Int32).toUInt32 &&& Int32.toUInt32 31)).toInt32) &&& 858993459)) + ((((((nI S) - ((((nI S).toUInt32 >>> ((1 : Int32).toUInt32 &&& Int32.toUInt32 31)).toInt32) &&& 1431655765)) &&& 858993459) + (((((nI S) - ((((nI S).toUInt32 >>> ((1 : Int32).toUInt32 &&& Int32.toUInt32 31)).toInt32) &&& 1431655765)).toUInt32 >>> ((2 : Int32).toUInt32 &&& Int32.toUInt32 31)).toInt32) &&& 858993459)).toUInt32 >>> ((4 : Int32).toUInt32 &&& Int32.toUInt32 31)).toInt32)) &&& 252645135).toUInt32 >>> ((8 : Int32).toUInt32 &&& Int32.toUInt32 31)).toInt32)) + (((((((((nI S) - ((((nI S).toUInt32 >>> ((1 : Int32).toUInt32 &&& Int32.toUInt32 31)).toInt32) &&& 1431655765)) &&& 858993459) + (((((nI S) - ((((nI S).toUInt32 >>> ((1 : Int32).toUInt32 &&& Int32.toUInt32 31)).toInt32) &&& 1431655765)).toUInt32 >>> ((2 : Int32).toUInt32 &&& Int32.toUInt32 31)).toInt32) &&& 858993459)) + ((((((nI S) - ((((nI S).toUInt32 >>> ((1 : Int32).toUInt32 &&& Int32.toUInt32 31)).toInt32) &&& 1431655765)) &&& 858993459) + (((((nI S) - ((((nI S).toUInt32 >>> ((1 : Int32).toUInt32 &&& Int32.toUInt32 31)).toInt32) &&& 1431655765)).toUInt32 >>> ((2 : Int32).toUInt32 &&& Int32.toUInt32 31)).toInt32) &&& 858993459)).toUInt32 >>> ((4 : Int32).toUInt32 &&& Int32.toUInt32 31)).toInt32)) &&& 252645135) + ((((((((nI S) - ((((nI S).toUInt32 >>> ((1 : Int32).toUInt32 &&& Int32.toUInt32 31)).toInt32) &&& 1431655765)) &&& 858993459) + (((((nI S) - ((((nI S).toUInt32 >>> ((1 : Int32).toUInt32 &&& Int32.toUInt32 31)).toInt32) &&& 1431655765)).toUInt32 >>> ((2 : Int32).toUInt32 &&& Int32.toUInt32 31)).toInt32) &&& 858993459)) + ((((((nI S) - ((((nI S).toUInt32 >>> ((1 : Int32).toUInt32 &&& Int32.toUInt32 31)).toInt32) &&& 1431655765)) &&& 858993459) + (((((nI S) - ((((nI S).toUInt32 >>> ((1 : Int32).toUInt32 &&& Int32.toUInt32 31)).toInt32) &&& 1431655765)).toUInt32 >>> ((2 : Int32).toUInt32 &&& Int32.toUInt32 31)).toInt32) &&& 858993459)).toUInt32 >>> ((4 : Int32).toUInt32 &&& Int32.toUInt32 31)).toInt32)) &&& 252645135).toUInt32 >>> ((8 : Int32).toUInt32 &&& Int32.toUInt32 31)).toInt32)).toUInt32 >>> ((16 : Int32).toUInt32 &&& Int32.toUInt32 31)).toInt32)) &&& 63) = nI (pc5 S) := by decide +kernel
set_option maxHeartbeats 4000000 in
set_option maxRecDepth 100000 in
theorem c_bitCount (l : Launch) (sa : Nat → Nat) (D : va_G) (cI cZ cL : ClassId)  (S : Nat) (hS : S < 32) : zMi (T := Unit) sa D vwCl (zty cI cZ cL) l yJ6_bitCount_0f7a4 wsJ6_bitCount_0f7a4 ({ frames := 0, cells := 0, slots := 0, locals := 0 } : Room) [.int (nI S)] [] (fun r9 _ => r9 = (nI (pc5 S))) (fun _ => []) 0 0 := by
  refine zMi.of (ret := (some .int)) (cc := cJ6_bitCount_0f7a4) (nL := 1) (own := RJ6) (by decide +kernel) rfl [(0, .int (nI S))] rfl (Nat.le_of_ble_eq_true rfl) rfl ?_
  intro A p e s m args below meth c C hmn
  refine z_iload_n C dJ6_bitCount_0f7a4_0 rfl 0 rfl ?_
  refine z_iload_n C dJ6_bitCount_0f7a4_1 rfl 0 rfl ?_
  refine z_iconst C (v := 1) dJ6_bitCount_0f7a4_2 (by decide) ?_
  refine z_iushr C (v := (((nI S).toUInt32 >>> ((1 : Int32).toUInt32 &&& Int32.toUInt32 31)).toInt32)) dJ6_bitCount_0f7a4_3 rfl ?_
  refine z_ldcw C m_J6_bitCount_0f7a4_k265 dJ6_bitCount_0f7a4_4 ?_
  refine z_iand C (v := ((((nI S).toUInt32 >>> ((1 : Int32).toUInt32 &&& Int32.toUInt32 31)).toInt32) &&& 1431655765)) dJ6_bitCount_0f7a4_7 rfl ?_
  refine z_isub C (v := ((nI S) - ((((nI S).toUInt32 >>> ((1 : Int32).toUInt32 &&& Int32.toUInt32 31)).toInt32) &&& 1431655765))) dJ6_bitCount_0f7a4_8 rfl ?_
  refine z_istore_n C dJ6_bitCount_0f7a4_9 rfl (by decide) [(0, .int ((nI S) - ((((nI S).toUInt32 >>> ((1 : Int32).toUInt32 &&& Int32.toUInt32 31)).toInt32) &&& 1431655765)))] [0] rfl ?_
  refine z_iload_n C dJ6_bitCount_0f7a4_10 rfl 0 rfl ?_
  refine z_ldcw C m_J6_bitCount_0f7a4_k266 dJ6_bitCount_0f7a4_11 ?_
  refine z_iand C (v := (((nI S) - ((((nI S).toUInt32 >>> ((1 : Int32).toUInt32 &&& Int32.toUInt32 31)).toInt32) &&& 1431655765)) &&& 858993459)) dJ6_bitCount_0f7a4_14 rfl ?_
  refine z_iload_n C dJ6_bitCount_0f7a4_15 rfl 0 rfl ?_
  refine z_iconst C (v := 2) dJ6_bitCount_0f7a4_16 (by decide) ?_
  refine z_iushr C (v := ((((nI S) - ((((nI S).toUInt32 >>> ((1 : Int32).toUInt32 &&& Int32.toUInt32 31)).toInt32) &&& 1431655765)).toUInt32 >>> ((2 : Int32).toUInt32 &&& Int32.toUInt32 31)).toInt32)) dJ6_bitCount_0f7a4_17 rfl ?_
  refine z_ldcw C m_J6_bitCount_0f7a4_k266 dJ6_bitCount_0f7a4_18 ?_
  refine z_iand C (v := (((((nI S) - ((((nI S).toUInt32 >>> ((1 : Int32).toUInt32 &&& Int32.toUInt32 31)).toInt32) &&& 1431655765)).toUInt32 >>> ((2 : Int32).toUInt32 &&& Int32.toUInt32 31)).toInt32) &&& 858993459)) dJ6_bitCount_0f7a4_21 rfl ?_
  refine z_iadd C (v := ((((nI S) - ((((nI S).toUInt32 >>> ((1 : Int32).toUInt32 &&& Int32.toUInt32 31)).toInt32) &&& 1431655765)) &&& 858993459) + (((((nI S) - ((((nI S).toUInt32 >>> ((1 : Int32).toUInt32 &&& Int32.toUInt32 31)).toInt32) &&& 1431655765)).toUInt32 >>> ((2 : Int32).toUInt32 &&& Int32.toUInt32 31)).toInt32) &&& 858993459))) dJ6_bitCount_0f7a4_22 rfl ?_
  refine z_istore_n C dJ6_bitCount_0f7a4_23 rfl (by decide) [(0, .int ((((nI S) - ((((nI S).toUInt32 >>> ((1 : Int32).toUInt32 &&& Int32.toUInt32 31)).toInt32) &&& 1431655765)) &&& 858993459) + (((((nI S) - ((((nI S).toUInt32 >>> ((1 : Int32).toUInt32 &&& Int32.toUInt32 31)).toInt32) &&& 1431655765)).toUInt32 >>> ((2 : Int32).toUInt32 &&& Int32.toUInt32 31)).toInt32) &&& 858993459)))] [0] rfl ?_
  refine z_iload_n C dJ6_bitCount_0f7a4_24 rfl 0 rfl ?_
  refine z_iload_n C dJ6_bitCount_0f7a4_25 rfl 0 rfl ?_
  refine z_iconst C (v := 4) dJ6_bitCount_0f7a4_26 (by decide) ?_
  refine z_iushr C (v := ((((((nI S) - ((((nI S).toUInt32 >>> ((1 : Int32).toUInt32 &&& Int32.toUInt32 31)).toInt32) &&& 1431655765)) &&& 858993459) + (((((nI S) - ((((nI S).toUInt32 >>> ((1 : Int32).toUInt32 &&& Int32.toUInt32 31)).toInt32) &&& 1431655765)).toUInt32 >>> ((2 : Int32).toUInt32 &&& Int32.toUInt32 31)).toInt32) &&& 858993459)).toUInt32 >>> ((4 : Int32).toUInt32 &&& Int32.toUInt32 31)).toInt32)) dJ6_bitCount_0f7a4_27 rfl ?_
  refine z_iadd C (v := (((((nI S) - ((((nI S).toUInt32 >>> ((1 : Int32).toUInt32 &&& Int32.toUInt32 31)).toInt32) &&& 1431655765)) &&& 858993459) + (((((nI S) - ((((nI S).toUInt32 >>> ((1 : Int32).toUInt32 &&& Int32.toUInt32 31)).toInt32) &&& 1431655765)).toUInt32 >>> ((2 : Int32).toUInt32 &&& Int32.toUInt32 31)).toInt32) &&& 858993459)) + ((((((nI S) - ((((nI S).toUInt32 >>> ((1 : Int32).toUInt32 &&& Int32.toUInt32 31)).toInt32) &&& 1431655765)) &&& 858993459) + (((((nI S) - ((((nI S).toUInt32 >>> ((1 : Int32).toUInt32 &&& Int32.toUInt32 31)).toInt32) &&& 1431655765)).toUInt32 >>> ((2 : Int32).toUInt32 &&& Int32.toUInt32 31)).toInt32) &&& 858993459)).toUInt32 >>> ((4 : Int32).toUInt32 &&& Int32.toUInt32 31)).toInt32))) dJ6_bitCount_0f7a4_28 rfl ?_
  refine z_ldcw C m_J6_bitCount_0f7a4_k267 dJ6_bitCount_0f7a4_29 ?_
  refine z_iand C (v := ((((((nI S) - ((((nI S).toUInt32 >>> ((1 : Int32).toUInt32 &&& Int32.toUInt32 31)).toInt32) &&& 1431655765)) &&& 858993459) + (((((nI S) - ((((nI S).toUInt32 >>> ((1 : Int32).toUInt32 &&& Int32.toUInt32 31)).toInt32) &&& 1431655765)).toUInt32 >>> ((2 : Int32).toUInt32 &&& Int32.toUInt32 31)).toInt32) &&& 858993459)) + ((((((nI S) - ((((nI S).toUInt32 >>> ((1 : Int32).toUInt32 &&& Int32.toUInt32 31)).toInt32) &&& 1431655765)) &&& 858993459) + (((((nI S) - ((((nI S).toUInt32 >>> ((1 : Int32).toUInt32 &&& Int32.toUInt32 31)).toInt32) &&& 1431655765)).toUInt32 >>> ((2 : Int32).toUInt32 &&& Int32.toUInt32 31)).toInt32) &&& 858993459)).toUInt32 >>> ((4 : Int32).toUInt32 &&& Int32.toUInt32 31)).toInt32)) &&& 252645135)) dJ6_bitCount_0f7a4_32 rfl ?_
  refine z_istore_n C dJ6_bitCount_0f7a4_33 rfl (by decide) [(0, .int ((((((nI S) - ((((nI S).toUInt32 >>> ((1 : Int32).toUInt32 &&& Int32.toUInt32 31)).toInt32) &&& 1431655765)) &&& 858993459) + (((((nI S) - ((((nI S).toUInt32 >>> ((1 : Int32).toUInt32 &&& Int32.toUInt32 31)).toInt32) &&& 1431655765)).toUInt32 >>> ((2 : Int32).toUInt32 &&& Int32.toUInt32 31)).toInt32) &&& 858993459)) + ((((((nI S) - ((((nI S).toUInt32 >>> ((1 : Int32).toUInt32 &&& Int32.toUInt32 31)).toInt32) &&& 1431655765)) &&& 858993459) + (((((nI S) - ((((nI S).toUInt32 >>> ((1 : Int32).toUInt32 &&& Int32.toUInt32 31)).toInt32) &&& 1431655765)).toUInt32 >>> ((2 : Int32).toUInt32 &&& Int32.toUInt32 31)).toInt32) &&& 858993459)).toUInt32 >>> ((4 : Int32).toUInt32 &&& Int32.toUInt32 31)).toInt32)) &&& 252645135))] [0] rfl ?_
  refine z_iload_n C dJ6_bitCount_0f7a4_34 rfl 0 rfl ?_
  refine z_iload_n C dJ6_bitCount_0f7a4_35 rfl 0 rfl ?_
  refine z_bipush C (v := 8) dJ6_bitCount_0f7a4_36 (by decide) ?_
  refine z_iushr C (v := ((((((((nI S) - ((((nI S).toUInt32 >>> ((1 : Int32).toUInt32 &&& Int32.toUInt32 31)).toInt32) &&& 1431655765)) &&& 858993459) + (((((nI S) - ((((nI S).toUInt32 >>> ((1 : Int32).toUInt32 &&& Int32.toUInt32 31)).toInt32) &&& 1431655765)).toUInt32 >>> ((2 : Int32).toUInt32 &&& Int32.toUInt32 31)).toInt32) &&& 858993459)) + ((((((nI S) - ((((nI S).toUInt32 >>> ((1 : Int32).toUInt32 &&& Int32.toUInt32 31)).toInt32) &&& 1431655765)) &&& 858993459) + (((((nI S) - ((((nI S).toUInt32 >>> ((1 : Int32).toUInt32 &&& Int32.toUInt32 31)).toInt32) &&& 1431655765)).toUInt32 >>> ((2 : Int32).toUInt32 &&& Int32.toUInt32 31)).toInt32) &&& 858993459)).toUInt32 >>> ((4 : Int32).toUInt32 &&& Int32.toUInt32 31)).toInt32)) &&& 252645135).toUInt32 >>> ((8 : Int32).toUInt32 &&& Int32.toUInt32 31)).toInt32)) dJ6_bitCount_0f7a4_38 rfl ?_
  refine z_iadd C (v := (((((((nI S) - ((((nI S).toUInt32 >>> ((1 : Int32).toUInt32 &&& Int32.toUInt32 31)).toInt32) &&& 1431655765)) &&& 858993459) + (((((nI S) - ((((nI S).toUInt32 >>> ((1 : Int32).toUInt32 &&& Int32.toUInt32 31)).toInt32) &&& 1431655765)).toUInt32 >>> ((2 : Int32).toUInt32 &&& Int32.toUInt32 31)).toInt32) &&& 858993459)) + ((((((nI S) - ((((nI S).toUInt32 >>> ((1 : Int32).toUInt32 &&& Int32.toUInt32 31)).toInt32) &&& 1431655765)) &&& 858993459) + (((((nI S) - ((((nI S).toUInt32 >>> ((1 : Int32).toUInt32 &&& Int32.toUInt32 31)).toInt32) &&& 1431655765)).toUInt32 >>> ((2 : Int32).toUInt32 &&& Int32.toUInt32 31)).toInt32) &&& 858993459)).toUInt32 >>> ((4 : Int32).toUInt32 &&& Int32.toUInt32 31)).toInt32)) &&& 252645135) + ((((((((nI S) - ((((nI S).toUInt32 >>> ((1 : Int32).toUInt32 &&& Int32.toUInt32 31)).toInt32) &&& 1431655765)) &&& 858993459) + (((((nI S) - ((((nI S).toUInt32 >>> ((1 : Int32).toUInt32 &&& Int32.toUInt32 31)).toInt32) &&& 1431655765)).toUInt32 >>> ((2 : Int32).toUInt32 &&& Int32.toUInt32 31)).toInt32) &&& 858993459)) + ((((((nI S) - ((((nI S).toUInt32 >>> ((1 : Int32).toUInt32 &&& Int32.toUInt32 31)).toInt32) &&& 1431655765)) &&& 858993459) + (((((nI S) - ((((nI S).toUInt32 >>> ((1 : Int32).toUInt32 &&& Int32.toUInt32 31)).toInt32) &&& 1431655765)).toUInt32 >>> ((2 : Int32).toUInt32 &&& Int32.toUInt32 31)).toInt32) &&& 858993459)).toUInt32 >>> ((4 : Int32).toUInt32 &&& Int32.toUInt32 31)).toInt32)) &&& 252645135).toUInt32 >>> ((8 : Int32).toUInt32 &&& Int32.toUInt32 31)).toInt32))) dJ6_bitCount_0f7a4_39 rfl ?_
  refine z_istore_n C dJ6_bitCount_0f7a4_40 rfl (by decide) [(0, .int (((((((nI S) - ((((nI S).toUInt32 >>> ((1 : Int32).toUInt32 &&& Int32.toUInt32 31)).toInt32) &&& 1431655765)) &&& 858993459) + (((((nI S) - ((((nI S).toUInt32 >>> ((1 : Int32).toUInt32 &&& Int32.toUInt32 31)).toInt32) &&& 1431655765)).toUInt32 >>> ((2 : Int32).toUInt32 &&& Int32.toUInt32 31)).toInt32) &&& 858993459)) + ((((((nI S) - ((((nI S).toUInt32 >>> ((1 : Int32).toUInt32 &&& Int32.toUInt32 31)).toInt32) &&& 1431655765)) &&& 858993459) + (((((nI S) - ((((nI S).toUInt32 >>> ((1 : Int32).toUInt32 &&& Int32.toUInt32 31)).toInt32) &&& 1431655765)).toUInt32 >>> ((2 : Int32).toUInt32 &&& Int32.toUInt32 31)).toInt32) &&& 858993459)).toUInt32 >>> ((4 : Int32).toUInt32 &&& Int32.toUInt32 31)).toInt32)) &&& 252645135) + ((((((((nI S) - ((((nI S).toUInt32 >>> ((1 : Int32).toUInt32 &&& Int32.toUInt32 31)).toInt32) &&& 1431655765)) &&& 858993459) + (((((nI S) - ((((nI S).toUInt32 >>> ((1 : Int32).toUInt32 &&& Int32.toUInt32 31)).toInt32) &&& 1431655765)).toUInt32 >>> ((2 : Int32).toUInt32 &&& Int32.toUInt32 31)).toInt32) &&& 858993459)) + ((((((nI S) - ((((nI S).toUInt32 >>> ((1 : Int32).toUInt32 &&& Int32.toUInt32 31)).toInt32) &&& 1431655765)) &&& 858993459) + (((((nI S) - ((((nI S).toUInt32 >>> ((1 : Int32).toUInt32 &&& Int32.toUInt32 31)).toInt32) &&& 1431655765)).toUInt32 >>> ((2 : Int32).toUInt32 &&& Int32.toUInt32 31)).toInt32) &&& 858993459)).toUInt32 >>> ((4 : Int32).toUInt32 &&& Int32.toUInt32 31)).toInt32)) &&& 252645135).toUInt32 >>> ((8 : Int32).toUInt32 &&& Int32.toUInt32 31)).toInt32)))] [0] rfl ?_
  refine z_iload_n C dJ6_bitCount_0f7a4_41 rfl 0 rfl ?_
  refine z_iload_n C dJ6_bitCount_0f7a4_42 rfl 0 rfl ?_
  refine z_bipush C (v := 16) dJ6_bitCount_0f7a4_43 (by decide) ?_
  refine z_iushr C (v := (((((((((nI S) - ((((nI S).toUInt32 >>> ((1 : Int32).toUInt32 &&& Int32.toUInt32 31)).toInt32) &&& 1431655765)) &&& 858993459) + (((((nI S) - ((((nI S).toUInt32 >>> ((1 : Int32).toUInt32 &&& Int32.toUInt32 31)).toInt32) &&& 1431655765)).toUInt32 >>> ((2 : Int32).toUInt32 &&& Int32.toUInt32 31)).toInt32) &&& 858993459)) + ((((((nI S) - ((((nI S).toUInt32 >>> ((1 : Int32).toUInt32 &&& Int32.toUInt32 31)).toInt32) &&& 1431655765)) &&& 858993459) + (((((nI S) - ((((nI S).toUInt32 >>> ((1 : Int32).toUInt32 &&& Int32.toUInt32 31)).toInt32) &&& 1431655765)).toUInt32 >>> ((2 : Int32).toUInt32 &&& Int32.toUInt32 31)).toInt32) &&& 858993459)).toUInt32 >>> ((4 : Int32).toUInt32 &&& Int32.toUInt32 31)).toInt32)) &&& 252645135) + ((((((((nI S) - ((((nI S).toUInt32 >>> ((1 : Int32).toUInt32 &&& Int32.toUInt32 31)).toInt32) &&& 1431655765)) &&& 858993459) + (((((nI S) - ((((nI S).toUInt32 >>> ((1 : Int32).toUInt32 &&& Int32.toUInt32 31)).toInt32) &&& 1431655765)).toUInt32 >>> ((2 : Int32).toUInt32 &&& Int32.toUInt32 31)).toInt32) &&& 858993459)) + ((((((nI S) - ((((nI S).toUInt32 >>> ((1 : Int32).toUInt32 &&& Int32.toUInt32 31)).toInt32) &&& 1431655765)) &&& 858993459) + (((((nI S) - ((((nI S).toUInt32 >>> ((1 : Int32).toUInt32 &&& Int32.toUInt32 31)).toInt32) &&& 1431655765)).toUInt32 >>> ((2 : Int32).toUInt32 &&& Int32.toUInt32 31)).toInt32) &&& 858993459)).toUInt32 >>> ((4 : Int32).toUInt32 &&& Int32.toUInt32 31)).toInt32)) &&& 252645135).toUInt32 >>> ((8 : Int32).toUInt32 &&& Int32.toUInt32 31)).toInt32)).toUInt32 >>> ((16 : Int32).toUInt32 &&& Int32.toUInt32 31)).toInt32)) dJ6_bitCount_0f7a4_45 rfl ?_
  refine z_iadd C (v := ((((((((nI S) - ((((nI S).toUInt32 >>> ((1 : Int32).toUInt32 &&& Int32.toUInt32 31)).toInt32) &&& 1431655765)) &&& 858993459) + (((((nI S) - ((((nI S).toUInt32 >>> ((1 : Int32).toUInt32 &&& Int32.toUInt32 31)).toInt32) &&& 1431655765)).toUInt32 >>> ((2 : Int32).toUInt32 &&& Int32.toUInt32 31)).toInt32) &&& 858993459)) + ((((((nI S) - ((((nI S).toUInt32 >>> ((1 : Int32).toUInt32 &&& Int32.toUInt32 31)).toInt32) &&& 1431655765)) &&& 858993459) + (((((nI S) - ((((nI S).toUInt32 >>> ((1 : Int32).toUInt32 &&& Int32.toUInt32 31)).toInt32) &&& 1431655765)).toUInt32 >>> ((2 : Int32).toUInt32 &&& Int32.toUInt32 31)).toInt32) &&& 858993459)).toUInt32 >>> ((4 : Int32).toUInt32 &&& Int32.toUInt32 31)).toInt32)) &&& 252645135) + ((((((((nI S) - ((((nI S).toUInt32 >>> ((1 : Int32).toUInt32 &&& Int32.toUInt32 31)).toInt32) &&& 1431655765)) &&& 858993459) + (((((nI S) - ((((nI S).toUInt32 >>> ((1 : Int32).toUInt32 &&& Int32.toUInt32 31)).toInt32) &&& 1431655765)).toUInt32 >>> ((2 : Int32).toUInt32 &&& Int32.toUInt32 31)).toInt32) &&& 858993459)) + ((((((nI S) - ((((nI S).toUInt32 >>> ((1 : Int32).toUInt32 &&& Int32.toUInt32 31)).toInt32) &&& 1431655765)) &&& 858993459) + (((((nI S) - ((((nI S).toUInt32 >>> ((1 : Int32).toUInt32 &&& Int32.toUInt32 31)).toInt32) &&& 1431655765)).toUInt32 >>> ((2 : Int32).toUInt32 &&& Int32.toUInt32 31)).toInt32) &&& 858993459)).toUInt32 >>> ((4 : Int32).toUInt32 &&& Int32.toUInt32 31)).toInt32)) &&& 252645135).toUInt32 >>> ((8 : Int32).toUInt32 &&& Int32.toUInt32 31)).toInt32)) + (((((((((nI S) - ((((nI S).toUInt32 >>> ((1 : Int32).toUInt32 &&& Int32.toUInt32 31)).toInt32) &&& 1431655765)) &&& 858993459) + (((((nI S) - ((((nI S).toUInt32 >>> ((1 : Int32).toUInt32 &&& Int32.toUInt32 31)).toInt32) &&& 1431655765)).toUInt32 >>> ((2 : Int32).toUInt32 &&& Int32.toUInt32 31)).toInt32) &&& 858993459)) + ((((((nI S) - ((((nI S).toUInt32 >>> ((1 : Int32).toUInt32 &&& Int32.toUInt32 31)).toInt32) &&& 1431655765)) &&& 858993459) + (((((nI S) - ((((nI S).toUInt32 >>> ((1 : Int32).toUInt32 &&& Int32.toUInt32 31)).toInt32) &&& 1431655765)).toUInt32 >>> ((2 : Int32).toUInt32 &&& Int32.toUInt32 31)).toInt32) &&& 858993459)).toUInt32 >>> ((4 : Int32).toUInt32 &&& Int32.toUInt32 31)).toInt32)) &&& 252645135) + ((((((((nI S) - ((((nI S).toUInt32 >>> ((1 : Int32).toUInt32 &&& Int32.toUInt32 31)).toInt32) &&& 1431655765)) &&& 858993459) + (((((nI S) - ((((nI S).toUInt32 >>> ((1 : Int32).toUInt32 &&& Int32.toUInt32 31)).toInt32) &&& 1431655765)).toUInt32 >>> ((2 : Int32).toUInt32 &&& Int32.toUInt32 31)).toInt32) &&& 858993459)) + ((((((nI S) - ((((nI S).toUInt32 >>> ((1 : Int32).toUInt32 &&& Int32.toUInt32 31)).toInt32) &&& 1431655765)) &&& 858993459) + (((((nI S) - ((((nI S).toUInt32 >>> ((1 : Int32).toUInt32 &&& Int32.toUInt32 31)).toInt32) &&& 1431655765)).toUInt32 >>> ((2 : Int32).toUInt32 &&& Int32.toUInt32 31)).toInt32) &&& 858993459)).toUInt32 >>> ((4 : Int32).toUInt32 &&& Int32.toUInt32 31)).toInt32)) &&& 252645135).toUInt32 >>> ((8 : Int32).toUInt32 &&& Int32.toUInt32 31)).toInt32)).toUInt32 >>> ((16 : Int32).toUInt32 &&& Int32.toUInt32 31)).toInt32))) dJ6_bitCount_0f7a4_46 rfl ?_
  refine z_istore_n C dJ6_bitCount_0f7a4_47 rfl (by decide) [(0, .int ((((((((nI S) - ((((nI S).toUInt32 >>> ((1 : Int32).toUInt32 &&& Int32.toUInt32 31)).toInt32) &&& 1431655765)) &&& 858993459) + (((((nI S) - ((((nI S).toUInt32 >>> ((1 : Int32).toUInt32 &&& Int32.toUInt32 31)).toInt32) &&& 1431655765)).toUInt32 >>> ((2 : Int32).toUInt32 &&& Int32.toUInt32 31)).toInt32) &&& 858993459)) + ((((((nI S) - ((((nI S).toUInt32 >>> ((1 : Int32).toUInt32 &&& Int32.toUInt32 31)).toInt32) &&& 1431655765)) &&& 858993459) + (((((nI S) - ((((nI S).toUInt32 >>> ((1 : Int32).toUInt32 &&& Int32.toUInt32 31)).toInt32) &&& 1431655765)).toUInt32 >>> ((2 : Int32).toUInt32 &&& Int32.toUInt32 31)).toInt32) &&& 858993459)).toUInt32 >>> ((4 : Int32).toUInt32 &&& Int32.toUInt32 31)).toInt32)) &&& 252645135) + ((((((((nI S) - ((((nI S).toUInt32 >>> ((1 : Int32).toUInt32 &&& Int32.toUInt32 31)).toInt32) &&& 1431655765)) &&& 858993459) + (((((nI S) - ((((nI S).toUInt32 >>> ((1 : Int32).toUInt32 &&& Int32.toUInt32 31)).toInt32) &&& 1431655765)).toUInt32 >>> ((2 : Int32).toUInt32 &&& Int32.toUInt32 31)).toInt32) &&& 858993459)) + ((((((nI S) - ((((nI S).toUInt32 >>> ((1 : Int32).toUInt32 &&& Int32.toUInt32 31)).toInt32) &&& 1431655765)) &&& 858993459) + (((((nI S) - ((((nI S).toUInt32 >>> ((1 : Int32).toUInt32 &&& Int32.toUInt32 31)).toInt32) &&& 1431655765)).toUInt32 >>> ((2 : Int32).toUInt32 &&& Int32.toUInt32 31)).toInt32) &&& 858993459)).toUInt32 >>> ((4 : Int32).toUInt32 &&& Int32.toUInt32 31)).toInt32)) &&& 252645135).toUInt32 >>> ((8 : Int32).toUInt32 &&& Int32.toUInt32 31)).toInt32)) + (((((((((nI S) - ((((nI S).toUInt32 >>> ((1 : Int32).toUInt32 &&& Int32.toUInt32 31)).toInt32) &&& 1431655765)) &&& 858993459) + (((((nI S) - ((((nI S).toUInt32 >>> ((1 : Int32).toUInt32 &&& Int32.toUInt32 31)).toInt32) &&& 1431655765)).toUInt32 >>> ((2 : Int32).toUInt32 &&& Int32.toUInt32 31)).toInt32) &&& 858993459)) + ((((((nI S) - ((((nI S).toUInt32 >>> ((1 : Int32).toUInt32 &&& Int32.toUInt32 31)).toInt32) &&& 1431655765)) &&& 858993459) + (((((nI S) - ((((nI S).toUInt32 >>> ((1 : Int32).toUInt32 &&& Int32.toUInt32 31)).toInt32) &&& 1431655765)).toUInt32 >>> ((2 : Int32).toUInt32 &&& Int32.toUInt32 31)).toInt32) &&& 858993459)).toUInt32 >>> ((4 : Int32).toUInt32 &&& Int32.toUInt32 31)).toInt32)) &&& 252645135) + ((((((((nI S) - ((((nI S).toUInt32 >>> ((1 : Int32).toUInt32 &&& Int32.toUInt32 31)).toInt32) &&& 1431655765)) &&& 858993459) + (((((nI S) - ((((nI S).toUInt32 >>> ((1 : Int32).toUInt32 &&& Int32.toUInt32 31)).toInt32) &&& 1431655765)).toUInt32 >>> ((2 : Int32).toUInt32 &&& Int32.toUInt32 31)).toInt32) &&& 858993459)) + ((((((nI S) - ((((nI S).toUInt32 >>> ((1 : Int32).toUInt32 &&& Int32.toUInt32 31)).toInt32) &&& 1431655765)) &&& 858993459) + (((((nI S) - ((((nI S).toUInt32 >>> ((1 : Int32).toUInt32 &&& Int32.toUInt32 31)).toInt32) &&& 1431655765)).toUInt32 >>> ((2 : Int32).toUInt32 &&& Int32.toUInt32 31)).toInt32) &&& 858993459)).toUInt32 >>> ((4 : Int32).toUInt32 &&& Int32.toUInt32 31)).toInt32)) &&& 252645135).toUInt32 >>> ((8 : Int32).toUInt32 &&& Int32.toUInt32 31)).toInt32)).toUInt32 >>> ((16 : Int32).toUInt32 &&& Int32.toUInt32 31)).toInt32)))] [0] rfl ?_
  refine z_iload_n C dJ6_bitCount_0f7a4_48 rfl 0 rfl ?_
  refine z_bipush C (v := 63) dJ6_bitCount_0f7a4_49 (by decide) ?_
  refine z_iand C (v := (((((((((nI S) - ((((nI S).toUInt32 >>> ((1 : Int32).toUInt32 &&& Int32.toUInt32 31)).toInt32) &&& 1431655765)) &&& 858993459) + (((((nI S) - ((((nI S).toUInt32 >>> ((1 : Int32).toUInt32 &&& Int32.toUInt32 31)).toInt32) &&& 1431655765)).toUInt32 >>> ((2 : Int32).toUInt32 &&& Int32.toUInt32 31)).toInt32) &&& 858993459)) + ((((((nI S) - ((((nI S).toUInt32 >>> ((1 : Int32).toUInt32 &&& Int32.toUInt32 31)).toInt32) &&& 1431655765)) &&& 858993459) + (((((nI S) - ((((nI S).toUInt32 >>> ((1 : Int32).toUInt32 &&& Int32.toUInt32 31)).toInt32) &&& 1431655765)).toUInt32 >>> ((2 : Int32).toUInt32 &&& Int32.toUInt32 31)).toInt32) &&& 858993459)).toUInt32 >>> ((4 : Int32).toUInt32 &&& Int32.toUInt32 31)).toInt32)) &&& 252645135) + ((((((((nI S) - ((((nI S).toUInt32 >>> ((1 : Int32).toUInt32 &&& Int32.toUInt32 31)).toInt32) &&& 1431655765)) &&& 858993459) + (((((nI S) - ((((nI S).toUInt32 >>> ((1 : Int32).toUInt32 &&& Int32.toUInt32 31)).toInt32) &&& 1431655765)).toUInt32 >>> ((2 : Int32).toUInt32 &&& Int32.toUInt32 31)).toInt32) &&& 858993459)) + ((((((nI S) - ((((nI S).toUInt32 >>> ((1 : Int32).toUInt32 &&& Int32.toUInt32 31)).toInt32) &&& 1431655765)) &&& 858993459) + (((((nI S) - ((((nI S).toUInt32 >>> ((1 : Int32).toUInt32 &&& Int32.toUInt32 31)).toInt32) &&& 1431655765)).toUInt32 >>> ((2 : Int32).toUInt32 &&& Int32.toUInt32 31)).toInt32) &&& 858993459)).toUInt32 >>> ((4 : Int32).toUInt32 &&& Int32.toUInt32 31)).toInt32)) &&& 252645135).toUInt32 >>> ((8 : Int32).toUInt32 &&& Int32.toUInt32 31)).toInt32)) + (((((((((nI S) - ((((nI S).toUInt32 >>> ((1 : Int32).toUInt32 &&& Int32.toUInt32 31)).toInt32) &&& 1431655765)) &&& 858993459) + (((((nI S) - ((((nI S).toUInt32 >>> ((1 : Int32).toUInt32 &&& Int32.toUInt32 31)).toInt32) &&& 1431655765)).toUInt32 >>> ((2 : Int32).toUInt32 &&& Int32.toUInt32 31)).toInt32) &&& 858993459)) + ((((((nI S) - ((((nI S).toUInt32 >>> ((1 : Int32).toUInt32 &&& Int32.toUInt32 31)).toInt32) &&& 1431655765)) &&& 858993459) + (((((nI S) - ((((nI S).toUInt32 >>> ((1 : Int32).toUInt32 &&& Int32.toUInt32 31)).toInt32) &&& 1431655765)).toUInt32 >>> ((2 : Int32).toUInt32 &&& Int32.toUInt32 31)).toInt32) &&& 858993459)).toUInt32 >>> ((4 : Int32).toUInt32 &&& Int32.toUInt32 31)).toInt32)) &&& 252645135) + ((((((((nI S) - ((((nI S).toUInt32 >>> ((1 : Int32).toUInt32 &&& Int32.toUInt32 31)).toInt32) &&& 1431655765)) &&& 858993459) + (((((nI S) - ((((nI S).toUInt32 >>> ((1 : Int32).toUInt32 &&& Int32.toUInt32 31)).toInt32) &&& 1431655765)).toUInt32 >>> ((2 : Int32).toUInt32 &&& Int32.toUInt32 31)).toInt32) &&& 858993459)) + ((((((nI S) - ((((nI S).toUInt32 >>> ((1 : Int32).toUInt32 &&& Int32.toUInt32 31)).toInt32) &&& 1431655765)) &&& 858993459) + (((((nI S) - ((((nI S).toUInt32 >>> ((1 : Int32).toUInt32 &&& Int32.toUInt32 31)).toInt32) &&& 1431655765)).toUInt32 >>> ((2 : Int32).toUInt32 &&& Int32.toUInt32 31)).toInt32) &&& 858993459)).toUInt32 >>> ((4 : Int32).toUInt32 &&& Int32.toUInt32 31)).toInt32)) &&& 252645135).toUInt32 >>> ((8 : Int32).toUInt32 &&& Int32.toUInt32 31)).toInt32)).toUInt32 >>> ((16 : Int32).toUInt32 &&& Int32.toUInt32 31)).toInt32)) &&& 63)) dJ6_bitCount_0f7a4_51 rfl ?_
  exact z_iret C () (by exact bc32 S hS) rfl (by decide) (by decide) dJ6_bitCount_0f7a4_52
set_option maxHeartbeats 4000000 in
set_option maxRecDepth 100000 in
theorem c_X3_copy (l : Launch) (sa : Nat → Nat) (D : va_G) (cI cZ cL : ClassId) (h0 h1 h2 : Nat) (acc net : Nat → Int32) (g0 g1 g2 : Nat) (acc2 net2 : Nat → Int32)   : zMv (T := Unit) sa D vwCl (zty cI cZ cL) l yX3_copy wsX3_copy ({ frames := 1, cells := 0, slots := 0, locals := 30 } : Room) [.ref h0, .ref g0] [(h0, .inr (3, [.ref h1, .ref h2])), (h1, .inl (cI, 5, .inl acc)), (h2, .inl (cI, 25, .inl net)), (g0, .inr (3, [.ref g1, .ref g2])), (g1, .inl (cI, 5, .inl acc2)), (g2, .inl (cI, 25, .inl net2))] (fun _ => True) (fun _ => [(h0, .inr (3, [.ref h1, .ref h2])), (h1, .inl (cI, 5, .inl (cpA acc2 acc))), (h2, .inl (cI, 25, .inl (cpN net2 net))), (g0, .inr (3, [.ref g1, .ref g2])), (g1, .inl (cI, 5, .inl acc2)), (g2, .inl (cI, 25, .inl net2))]) 0 0 := by
  refine zMv.of (ret := none) (cc := cX3_copy) (nL := 2) (own := RX3) (by decide +kernel) rfl [(0, .ref h0), (1, .ref g0)] rfl (Nat.le_of_ble_eq_true rfl) rfl ?_
  intro A p e s m args below meth c C hmn
  refine z_aload_n C dX3_copy_0 rfl 1 rfl ?_
  refine z_get C 3 rfl i_X3_copy_X3 rfl 0 (by decide) m_X3_copy_f9 rfl rfl dX3_copy_1 ?_
  refine z_iconst C (v := 0) dX3_copy_4 (by decide) ?_
  refine z_aload_n C dX3_copy_5 rfl 0 rfl ?_
  refine z_get C 0 rfl i_X3_copy_X3 rfl 0 (by decide) m_X3_copy_f9 rfl rfl dX3_copy_6 ?_
  refine z_iconst C (v := 0) dX3_copy_9 (by decide) ?_
  refine z_iconst C (v := 5) dX3_copy_10 (by decide) ?_
  refine z_copy C m_X3_copy_l22 m_X3_copy_acn m_X3_copy_acs m_X3_copy_aci 4 1 rfl rfl rfl (by decide) (by decide) (by decide) rfl rfl rfl (by decide) (by decide) ⟨Nat.le_of_ble_eq_true rfl, Nat.le_of_ble_eq_true rfl⟩ dX3_copy_11 [(h0, .inr (3, [.ref h1, .ref h2])), (h1, .inl (cI, 5, .inl (va_cpy acc2 acc 0 0 5))), (h2, .inl (cI, 25, .inl net)), (g0, .inr (3, [.ref g1, .ref g2])), (g1, .inl (cI, 5, .inl acc2)), (g2, .inl (cI, 25, .inl net2))] rfl ?_
  refine z_aload_n C dX3_copy_14 rfl 1 rfl ?_
  refine z_get C 3 rfl i_X3_copy_X3 rfl 1 (by decide) m_X3_copy_f15 rfl rfl dX3_copy_15 ?_
  refine z_iconst C (v := 0) dX3_copy_18 (by decide) ?_
  refine z_aload_n C dX3_copy_19 rfl 0 rfl ?_
  refine z_get C 0 rfl i_X3_copy_X3 rfl 1 (by decide) m_X3_copy_f15 rfl rfl dX3_copy_20 ?_
  refine z_iconst C (v := 0) dX3_copy_23 (by decide) ?_
  refine z_bipush C (v := 25) dX3_copy_24 (by decide) ?_
  refine z_copy C m_X3_copy_l22 m_X3_copy_acn m_X3_copy_acs m_X3_copy_aci 5 2 rfl rfl rfl (by decide) (by decide) (by decide) rfl rfl rfl (by decide) (by decide) ⟨Nat.le_of_ble_eq_true rfl, Nat.le_of_ble_eq_true rfl⟩ dX3_copy_26 [(h0, .inr (3, [.ref h1, .ref h2])), (h1, .inl (cI, 5, .inl (va_cpy acc2 acc 0 0 5))), (h2, .inl (cI, 25, .inl (va_cpy net2 net 0 0 25))), (g0, .inr (3, [.ref g1, .ref g2])), (g1, .inl (cI, 5, .inl acc2)), (g2, .inl (cI, 25, .inl net2))] rfl ?_
  exact z_vret C () (by exact trivial) rfl (by decide) (by decide) dX3_copy_29
set_option maxHeartbeats 4000000 in
set_option maxRecDepth 100000 in
theorem c_X0_allow (l : Launch) (sa : Nat → Nat) (D : va_G) (cI cZ cL : ClassId) (ad : Nat → Nat) (acc net tacc tnet flo bnd frm too amt pri wai byp ldr bor due plg clo pap cnd : Nat → Int32) (small price cut proc : Int32) (mk lm le : Nat)   : zMi (T := Unit) sa D vwCl (zty cI cZ cL) l yX0_allow wsX0_allow ({ frames := 0, cells := 0, slots := 0, locals := 0 } : Room) [.ref (ad 3), .ref (ad 2)] (wX ad cI cZ acc net tacc tnet flo bnd frm too amt pri wai byp ldr bor due plg clo pap cnd small price cut proc (nI mk) (nI lm) (nI le)) (fun r9 _ => r9 = if sndB tacc flo tnet bnd = true then 1 else 0) (fun _ => (wX ad cI cZ acc net tacc tnet flo bnd frm too amt pri wai byp ldr bor due plg clo pap cnd small price cut proc (nI mk) (nI lm) (nI le))) 0 0 := by
  refine zMi.of (ret := (some .boolean)) (cc := cX0_allow) (nL := 3) (own := RX0) (by decide +kernel) rfl [(0, .ref (ad 3)), (1, .ref (ad 2))] rfl (Nat.le_of_ble_eq_true rfl) rfl ?_
  intro A p e s m args below meth c C hmn
  refine z_iconst C (v := 0) dX0_allow_0 (by decide) ?_
  refine z_istore_n C dX0_allow_1 rfl (by decide) [(0, .ref (ad 3)), (1, .ref (ad 2)), (2, .int 0)] [1, 2, 0] rfl ?_
  have L2_k_1 : ∀ (n : Nat) (i : Nat), 5 - i < n → (i ≤ 5) → (∀ b, b < i → flo b ≤ tacc b) → zW 0 p l e ({ frames := 0, cells := 0, slots := 0, locals := 0 } : Room) s m args below meth c (MQ below (zQi (T := Unit) D vwCl (zty cI cZ cL) A (fun r9 _ => r9 = if sndB tacc flo tnet bnd = true then 1 else 0) (fun _ => (wX ad cI cZ acc net tacc tnet flo bnd frm too amt pri wai byp ldr bor due plg clo pap cnd small price cut proc (nI mk) (nI lm) (nI le)))) args s 0 0 A) D vwCl A 3 0 0 (wX ad cI cZ acc net tacc tnet flo bnd frm too amt pri wai byp ldr bor due plg clo pap cnd small price cut proc (nI mk) (nI lm) (nI le)) [(0, .ref (ad 3)), (1, .ref (ad 2)), (2, .int (nI i))] 2 [] := by
    intro n
    induction n with
    | zero => intros; omega
    | succ n ih_2 =>
      intro i hm_3 hi h1
      refine z_iload_n C dX0_allow_2 rfl 2 rfl ?_
      refine z_iconst C (v := 5) dX0_allow_3 (by decide) ?_
      refine z_icmp_ge C (tgt := 30) dX0_allow_4 (by decide) (fun c4_4 => ?_) (fun c4_4 => ?_)
      · skip
        have n_5 : 5 ≤ i := (nI_leI (a := 5) (b := i) (by omega) (by omega)).mp c4_4
        refine z_iconst C (v := 0) dX0_allow_30 (by decide) ?_
        refine z_istore_n C dX0_allow_31 rfl (by decide) [(0, .ref (ad 3)), (1, .ref (ad 2)), (2, .int 0)] [1, 2, 0] rfl ?_
        have L32_k_6 : ∀ (n : Nat) (j : Nat), 25 - j < n → (j ≤ 25) → (∀ q, q < j → tnet q ≤ bnd q) → zW 0 p l e ({ frames := 0, cells := 0, slots := 0, locals := 0 } : Room) s m args below meth c (MQ below (zQi (T := Unit) D vwCl (zty cI cZ cL) A (fun r9 _ => r9 = if sndB tacc flo tnet bnd = true then 1 else 0) (fun _ => (wX ad cI cZ acc net tacc tnet flo bnd frm too amt pri wai byp ldr bor due plg clo pap cnd small price cut proc (nI mk) (nI lm) (nI le)))) args s 0 0 A) D vwCl A 3 0 0 (wX ad cI cZ acc net tacc tnet flo bnd frm too amt pri wai byp ldr bor due plg clo pap cnd small price cut proc (nI mk) (nI lm) (nI le)) [(0, .ref (ad 3)), (1, .ref (ad 2)), (2, .int (nI j))] 32 [] := by
          intro n
          induction n with
          | zero => intros; omega
          | succ n ih_7 =>
            intro j hm_8 hj h2
            refine z_iload_n C dX0_allow_32 rfl 2 rfl ?_
            refine z_bipush C (v := 25) dX0_allow_33 (by decide) ?_
            refine z_icmp_ge C (tgt := 61) dX0_allow_35 (by decide) (fun c35_9 => ?_) (fun c35_9 => ?_)
            · skip
              have n_10 : 25 ≤ j := (nI_leI (a := 25) (b := j) (by omega) (by omega)).mp c35_9
              refine z_iconst C (v := 1) dX0_allow_61 (by decide) ?_
              exact z_zret C () (by exact (if_pos (sndB_iff.mpr ⟨fun b hb => h1 b (by omega), fun q hq => h2 q (by omega)⟩)).symm) rfl (by decide) (by decide) (by decide) dX0_allow_62
            · skip
              have n_11 : ¬ 25 ≤ j := fun q => c35_9 ((nI_leI (a := 25) (b := j) (by omega) (by omega)).mpr q)
              refine z_aload_n C dX0_allow_38 rfl 1 rfl ?_
              refine z_get C 2 rfl i_X0_allow_X3 rfl 1 (by decide) m_X0_allow_f24 rfl rfl dX0_allow_39 ?_
              refine z_iload_n C dX0_allow_42 rfl 2 rfl ?_
              refine z_iald C 9 0 rfl rfl j (nI_clamp (by omega)) (vp_in_nI (by omega) (by omega)) (tnet j) rfl dX0_allow_43 ?_
              refine z_aload_n C dX0_allow_44 rfl 0 rfl ?_
              refine z_get C 3 rfl i_X0_allow_X0 rfl 1 (by decide) m_X0_allow_f15 rfl rfl dX0_allow_45 ?_
              refine z_iload_n C dX0_allow_48 rfl 2 rfl ?_
              refine z_iald C 11 0 rfl rfl j (nI_clamp (by omega)) (vp_in_nI (by omega) (by omega)) (bnd j) rfl dX0_allow_49 ?_
              refine z_icmp_le C (tgt := 55) dX0_allow_50 (by decide) (fun c50_12 => ?_) (fun c50_12 => ?_)
              · skip
                refine z_iinc C (v := (nI (j + 1))) dX0_allow_55 2 rfl (nI_add j 1) (by decide) [(0, .ref (ad 3)), (1, .ref (ad 2)), (2, .int (nI (j + 1)))] [1, 2, 0] rfl ?_
                refine z_goto C (tgt := 32) dX0_allow_58 (by decide) ?_
                exact ih_7 (j + 1) (by omega) (by first | assumption | omega) (by exact lt_s h2 (by assumption))
              · skip
                refine z_iconst C (v := 0) dX0_allow_53 (by decide) ?_
                exact z_zret C () (by first | exact (if_neg (fun q => c50_12 ((sndB_iff.mp q).1 _ (by omega)))).symm | exact (if_neg (fun q => c50_12 ((sndB_iff.mp q).2 _ (by omega)))).symm) rfl (by decide) (by decide) (by decide) dX0_allow_54
        refine z_lveq [(0, .ref (ad 3)), (1, .ref (ad 2)), (2, .int (nI 0))] (by rfl) ?_
        exact L32_k_6 (25 - 0 + 1) 0 (Nat.lt_succ_self _) (by first | assumption | omega) (by intro b hb; omega)
      · skip
        have n_13 : ¬ 5 ≤ i := fun q => c4_4 ((nI_leI (a := 5) (b := i) (by omega) (by omega)).mpr q)
        refine z_aload_n C dX0_allow_7 rfl 1 rfl ?_
        refine z_get C 2 rfl i_X0_allow_X3 rfl 0 (by decide) m_X0_allow_f19 rfl rfl dX0_allow_8 ?_
        refine z_iload_n C dX0_allow_11 rfl 2 rfl ?_
        refine z_iald C 8 0 rfl rfl i (nI_clamp (by omega)) (vp_in_nI (by omega) (by omega)) (tacc i) rfl dX0_allow_12 ?_
        refine z_aload_n C dX0_allow_13 rfl 0 rfl ?_
        refine z_get C 3 rfl i_X0_allow_X0 rfl 0 (by decide) m_X0_allow_f9 rfl rfl dX0_allow_14 ?_
        refine z_iload_n C dX0_allow_17 rfl 2 rfl ?_
        refine z_iald C 10 0 rfl rfl i (nI_clamp (by omega)) (vp_in_nI (by omega) (by omega)) (flo i) rfl dX0_allow_18 ?_
        refine z_icmp_ge C (tgt := 24) dX0_allow_19 (by decide) (fun c19_14 => ?_) (fun c19_14 => ?_)
        · skip
          refine z_iinc C (v := (nI (i + 1))) dX0_allow_24 2 rfl (nI_add i 1) (by decide) [(0, .ref (ad 3)), (1, .ref (ad 2)), (2, .int (nI (i + 1)))] [1, 2, 0] rfl ?_
          refine z_goto C (tgt := 2) dX0_allow_27 (by decide) ?_
          exact ih_2 (i + 1) (by omega) (by first | assumption | omega) (by exact lt_s h1 (by assumption))
        · skip
          refine z_iconst C (v := 0) dX0_allow_22 (by decide) ?_
          exact z_zret C () (by first | exact (if_neg (fun q => c19_14 ((sndB_iff.mp q).1 _ (by omega)))).symm | exact (if_neg (fun q => c19_14 ((sndB_iff.mp q).2 _ (by omega)))).symm) rfl (by decide) (by decide) (by decide) dX0_allow_23
  refine z_lveq [(0, .ref (ad 3)), (1, .ref (ad 2)), (2, .int (nI 0))] (by rfl) ?_
  exact L2_k_1 (5 - 0 + 1) 0 (Nat.lt_succ_self _) (by first | assumption | omega) (by intro b hb; omega)
set_option maxHeartbeats 4000000 in
set_option maxRecDepth 100000 in
theorem c_X4_canGoTogether (l : Launch) (sa : Nat → Nat) (D : va_G) (cI cZ cL : ClassId) (ad : Nat → Nat) (acc net tacc tnet flo bnd frm too amt pri wai byp ldr bor due plg clo pap cnd : Nat → Int32) (small price cut proc : Int32) (mk lm le : Nat) (S : Nat) (c9 : Nat) (cn : Nat → Option Nat) (hS : S < 1024) (hc9 : c9 ≤ 10) (hcnd : ∀ k, k < c9 → cnd k = oI (cn k)) (hcn : ∀ k p, cn k = some p → p < mk) (hmk : mk ≤ 60) (hfrm : wf5 mk frm) (htoo : wf5 mk too) : zMi (T := (Nat → Int32) × (Nat → Int32)) sa D vwCl (zty cI cZ cL) l yX4_canGoTogether wsX4_canGoTogether ({ frames := 3, cells := 0, slots := 0, locals := 66 } : Room) [.ref (ad 0), .int (nI S), .int (nI c9)] (wX ad cI cZ acc net tacc tnet flo bnd frm too amt pri wai byp ldr bor due plg clo pap cnd small price cut proc (nI mk) (nI lm) (nI le)) (fun r9 u => r9 = if okS frm too amt flo bnd cn c9 acc net S = true then 1 else 0) (fun u => (wX ad cI cZ acc net u.1 u.2 flo bnd frm too amt pri wai byp ldr bor due plg clo pap cnd small price cut proc (nI mk) (nI lm) (nI le))) 0 0 := by
  refine zMi.of (ret := (some .boolean)) (cc := cX4_canGoTogether) (nL := 4) (own := RX4) (by decide +kernel) rfl [(0, .ref (ad 0)), (1, .int (nI S)), (2, .int (nI c9))] rfl (Nat.le_of_ble_eq_true rfl) rfl ?_
  intro A p e s m args below meth c C hmn
  refine z_aload_n C dX4_canGoTogether_0 rfl 0 rfl ?_
  refine z_get C 0 rfl i_X4_canGoTogether_X4 rfl 1 (by decide) m_X4_canGoTogether_f16 rfl rfl dX4_canGoTogether_1 ?_
  refine z_aload_n C dX4_canGoTogether_4 rfl 0 rfl ?_
  refine z_get C 0 rfl i_X4_canGoTogether_X4 rfl 0 (by decide) m_X4_canGoTogether_f10 rfl rfl dX4_canGoTogether_5 ?_
  refine z_callVv C (T := Unit) (As := [.ref (ad 1)]) (rest := []) (ws' := fun _ => (wX ad cI cZ acc net (cpA acc tacc) (cpN net tnet) flo bnd frm too amt pri wai byp ldr bor due plg clo pap cnd small price cut proc (nI mk) (nI lm) (nI le))) (c_X3_copy l sa D cI cZ cL (ad 2) (ad 8) (ad 9) tacc tnet (ad 1) (ad 6) (ad 7) acc net  ) (cwV 1 C.2.2.2.2.1 gX4_canGoTogether_X3_copy rfl rfl rfl (by decide +kernel) ⟨Nat.le_of_ble_eq_true rfl, Nat.le_of_ble_eq_true rfl⟩) 2 rfl rfl rfl (fun _ => (zSub.of (wr := [((ad 0), .inr (4, [.ref (ad 1), .ref (ad 2), .ref (ad 3), .ref (ad 4), .ref (ad 5), .ref (ad 22), .ref (ad 23), .ref (ad 24), .int small, .int price, .int cut, .int proc])), ((ad 3), .inr (0, [.ref (ad 10), .ref (ad 11)])), ((ad 4), .inr (2, [.ref (ad 12), .ref (ad 13), .ref (ad 14), .ref (ad 15), .ref (ad 16), .ref (ad 17), .int (nI mk)])), ((ad 5), .inr (1, [.ref (ad 18), .ref (ad 19), .ref (ad 20), .ref (ad 21), .int (nI lm), .int (nI le)])), ((ad 10), .inl (cI, 5, .inl flo)), ((ad 11), .inl (cI, 25, .inl bnd)), ((ad 12), .inl (cI, 60, .inl frm)), ((ad 13), .inl (cI, 60, .inl too)), ((ad 14), .inl (cI, 60, .inl amt)), ((ad 15), .inl (cI, 60, .inl pri)), ((ad 16), .inl (cZ, 60, .inl wai)), ((ad 17), .inl (cI, 60, .inl byp)), ((ad 18), .inl (cI, 40, .inl ldr)), ((ad 19), .inl (cI, 40, .inl bor)), ((ad 20), .inl (cI, 40, .inl due)), ((ad 21), .inl (cI, 40, .inl plg)), ((ad 22), .inl (cZ, 5, .inl clo)), ((ad 23), .inl (cI, 5, .inl pap)), ((ad 24), .inl (cI, 10, .inl cnd))]) [2, 8, 9, 1, 6, 7] [0, 3, 4, 5, 10, 11, 12, 13, 14, 15, 16, 17, 18, 19, 20, 21, 22, 23, 24] [0, 22, 19, 1, 2, 3, 23, 24, 20, 21, 4, 5, 6, 7, 8, 9, 10, 11, 12, 13, 14, 15, 16, 17, 18] rfl rfl rfl rfl (by decide) rfl rfl)) (zIn.of [2, 8, 9, 1, 6, 7] rfl rfl) rfl (Nat.le_of_ble_eq_true rfl) ⟨Nat.le_of_ble_eq_true rfl, Nat.le_of_ble_eq_true rfl⟩ dX4_canGoTogether_8 (fun _ _ => ?_)
  refine z_iconst C (v := 0) dX4_canGoTogether_11 (by decide) ?_
  refine z_istore_n C dX4_canGoTogether_12 rfl (by decide) [(0, .ref (ad 0)), (1, .int (nI S)), (2, .int (nI c9)), (3, .int 0)] [1, 2, 3, 0] rfl ?_
  have L13_k_1 : ∀ (n : Nat) (i : Nat) (a9 n9 : Nat → Int32), c9 - i < n → (i ≤ c9) → (goS frm too amt cn S (cpA acc tacc) (cpN net tnet) i = some (a9, n9)) → zW 0 p l e ({ frames := 3, cells := 0, slots := 0, locals := 66 } : Room) s m args below meth c (MQ below (zQi (T := (Nat → Int32) × (Nat → Int32)) D vwCl (zty cI cZ cL) A (fun r9 u => r9 = if okS frm too amt flo bnd cn c9 acc net S = true then 1 else 0) (fun u => (wX ad cI cZ acc net u.1 u.2 flo bnd frm too amt pri wai byp ldr bor due plg clo pap cnd small price cut proc (nI mk) (nI lm) (nI le)))) args s 0 0 A) D vwCl A 4 0 0 (wX ad cI cZ acc net a9 n9 flo bnd frm too amt pri wai byp ldr bor due plg clo pap cnd small price cut proc (nI mk) (nI lm) (nI le)) [(0, .ref (ad 0)), (1, .int (nI S)), (2, .int (nI c9)), (3, .int (nI i))] 13 [] := by
    intro n
    induction n with
    | zero => intros; omega
    | succ n ih_2 =>
      intro i a9 n9 hm_3 hi hgo
      refine z_iload_n C dX4_canGoTogether_13 rfl 3 rfl ?_
      refine z_iload_n C dX4_canGoTogether_14 rfl 2 rfl ?_
      refine z_icmp_ge C (tgt := 61) dX4_canGoTogether_15 (by decide) (fun c15_4 => ?_) (fun c15_4 => ?_)
      · skip
        have n_5 : c9 ≤ i := (nI_leI (a := c9) (b := i) (by omega) (by omega)).mp c15_4
        refine z_aload_n C dX4_canGoTogether_61 rfl 0 rfl ?_
        refine z_get C 0 rfl i_X4_canGoTogether_X4 rfl 2 (by decide) m_X4_canGoTogether_f22 rfl rfl dX4_canGoTogether_62 ?_
        refine z_aload_n C dX4_canGoTogether_65 rfl 0 rfl ?_
        refine z_get C 0 rfl i_X4_canGoTogether_X4 rfl 1 (by decide) m_X4_canGoTogether_f16 rfl rfl dX4_canGoTogether_66 ?_
        refine z_case (sndB a9 flo n9 bnd = true) (fun hp_6 => ?_) (fun hp_6 => ?_)
        · skip
          refine z_callVi C (T := Unit) (As := [.ref (ad 2)]) (rest := []) (ws' := fun _ => (wX ad cI cZ acc net a9 n9 flo bnd frm too amt pri wai byp ldr bor due plg clo pap cnd small price cut proc (nI mk) (nI lm) (nI le))) (c_X0_allow l sa D cI cZ cL ad acc net a9 n9 flo bnd frm too amt pri wai byp ldr bor due plg clo pap cnd small price cut proc mk lm le  ) (cwV 1 C.2.2.2.2.1 gX4_canGoTogether_X0_allow rfl rfl rfl (by decide +kernel) ⟨Nat.le_of_ble_eq_true rfl, Nat.le_of_ble_eq_true rfl⟩) 3 rfl rfl rfl (fun _ => zSub.full) zIn.full rfl (Nat.le_of_ble_eq_true rfl) ⟨Nat.le_of_ble_eq_true rfl, Nat.le_of_ble_eq_true rfl⟩ dX4_canGoTogether_69 (fun r_7 _ h_8 => ?_)
          obtain rfl : r_7 = 1 := h_8.trans (if_pos hp_6)
          exact z_zret C (a9, n9) (by rw [okS_some (n := mk) (tacc := tacc) (tnet := tnet) (r := (a9, n9)) hfrm htoo hcn (by rw [show c9 = i by omega]; exact hgo)]; simp [hp_6]) rfl (by decide) (by decide) (by decide) dX4_canGoTogether_72
        · skip
          refine z_callVi C (T := Unit) (As := [.ref (ad 2)]) (rest := []) (ws' := fun _ => (wX ad cI cZ acc net a9 n9 flo bnd frm too amt pri wai byp ldr bor due plg clo pap cnd small price cut proc (nI mk) (nI lm) (nI le))) (c_X0_allow l sa D cI cZ cL ad acc net a9 n9 flo bnd frm too amt pri wai byp ldr bor due plg clo pap cnd small price cut proc mk lm le  ) (cwV 1 C.2.2.2.2.1 gX4_canGoTogether_X0_allow rfl rfl rfl (by decide +kernel) ⟨Nat.le_of_ble_eq_true rfl, Nat.le_of_ble_eq_true rfl⟩) 3 rfl rfl rfl (fun _ => zSub.full) zIn.full rfl (Nat.le_of_ble_eq_true rfl) ⟨Nat.le_of_ble_eq_true rfl, Nat.le_of_ble_eq_true rfl⟩ dX4_canGoTogether_69 (fun r_9 _ h_10 => ?_)
          obtain rfl : r_9 = 0 := h_10.trans (if_neg hp_6)
          exact z_zret C (a9, n9) (by rw [okS_some (n := mk) (tacc := tacc) (tnet := tnet) (r := (a9, n9)) hfrm htoo hcn (by rw [show c9 = i by omega]; exact hgo)]; simp [hp_6]) rfl (by decide) (by decide) (by decide) dX4_canGoTogether_72
      · skip
        have n_11 : ¬ c9 ≤ i := fun q => c15_4 ((nI_leI (a := c9) (b := i) (by omega) (by omega)).mpr q)
        refine z_iload_n C dX4_canGoTogether_18 rfl 1 rfl ?_
        refine z_iload_n C dX4_canGoTogether_19 rfl 3 rfl ?_
        refine z_case (S.testBit i = true) (fun hp_12 => ?_) (fun hp_12 => ?_)
        · skip
          refine z_callSi C (T := Unit) (As := [.int (nI S), .int (nI i)]) (rest := []) (ws' := fun _ => (wX ad cI cZ acc net a9 n9 flo bnd frm too amt pri wai byp ldr bor due plg clo pap cnd small price cut proc (nI mk) (nI lm) (nI le))) (c_X4_isIn l sa D cI cZ cL  S i (by first | assumption | omega) (by first | assumption | omega)) (va_cwS 2 C.2.2.2.2.1 gX4_canGoTogether_X4_isIn rfl rfl rfl (by decide +kernel) ⟨Nat.le_of_ble_eq_true rfl, Nat.le_of_ble_eq_true rfl⟩) (fun _ => zSub.none) zIn.none rfl (Nat.le_of_ble_eq_true rfl) ⟨Nat.le_of_ble_eq_true rfl, Nat.le_of_ble_eq_true rfl⟩ dX4_canGoTogether_20 (fun r_13 _ h_14 => ?_)
          obtain rfl : r_13 = 1 := h_14.trans (if_pos hp_12)
          refine z_if_eq C (tgt := 55) dX4_canGoTogether_23 (by decide) (fun h => absurd h (by decide)) (fun _ => ?_)
          refine z_aload_n C dX4_canGoTogether_26 rfl 0 rfl ?_
          refine z_get C 0 rfl i_X4_canGoTogether_X4 rfl 7 (by decide) m_X4_canGoTogether_f48 rfl rfl dX4_canGoTogether_27 ?_
          refine z_iload_n C dX4_canGoTogether_30 rfl 3 rfl ?_
          rcases hq_15 : cn i with _ | p_16
          · skip
            refine z_iald C 24 0 rfl rfl i (nI_clamp (by omega)) (vp_in_nI (by omega) (by omega)) (-1) ((hcnd i (by omega)).trans (by rw [hq_15]; rfl)) dX4_canGoTogether_31 ?_
            refine z_iconst C (v := (-1)) dX4_canGoTogether_32 (by decide) ?_
            refine z_icmp_ne C (tgt := 38) dX4_canGoTogether_33 (by decide) (fun h => absurd h (by decide)) (fun _ => ?_)
            refine z_iconst C (v := 0) dX4_canGoTogether_36 (by decide) ?_
            exact z_zret C (a9, n9) (by rw [okS_none (n := mk) (tacc := tacc) (tnet := tnet) (k := i + 1) hfrm htoo hcn (by omega) (goS_bit hp_12 hq_15)]; rfl) rfl (by decide) (by decide) (by decide) dX4_canGoTogether_37
          · skip
            have := hcn _ _ hq_15
            refine z_iald C 24 0 rfl rfl i (nI_clamp (by omega)) (vp_in_nI (by omega) (by omega)) (nI p_16) ((hcnd i (by omega)).trans (by rw [hq_15]; rfl)) dX4_canGoTogether_31 ?_
            refine z_iconst C (v := (-1)) dX4_canGoTogether_32 (by decide) ?_
            refine z_icmp_ne C (tgt := 38) dX4_canGoTogether_33 (by decide) (fun _ => ?_) (fun h => absurd h (nI_m1 (by omega)))
            refine z_aload_n C dX4_canGoTogether_38 rfl 0 rfl ?_
            refine z_get C 0 rfl i_X4_canGoTogether_X4 rfl 3 (by decide) m_X4_canGoTogether_f29 rfl rfl dX4_canGoTogether_39 ?_
            refine z_aload_n C dX4_canGoTogether_42 rfl 0 rfl ?_
            refine z_get C 0 rfl i_X4_canGoTogether_X4 rfl 7 (by decide) m_X4_canGoTogether_f48 rfl rfl dX4_canGoTogether_43 ?_
            refine z_iload_n C dX4_canGoTogether_46 rfl 3 rfl ?_
            refine z_iald C 24 0 rfl rfl i (nI_clamp (by omega)) (vp_in_nI (by omega) (by omega)) (nI p_16) ((hcnd i (by omega)).trans (by rw [hq_15]; rfl)) dX4_canGoTogether_47 ?_
            refine z_aload_n C dX4_canGoTogether_48 rfl 0 rfl ?_
            refine z_get C 0 rfl i_X4_canGoTogether_X4 rfl 1 (by decide) m_X4_canGoTogether_f16 rfl rfl dX4_canGoTogether_49 ?_
            refine z_callVv C (T := Unit) (As := [.int (nI p_16), .ref (ad 2)]) (rest := []) (ws' := fun _ => (wX ad cI cZ acc net (mvA (ix (frm p_16)) (ix (too p_16)) (amt p_16) a9) (mvN (ix (frm p_16)) (ix (too p_16)) (amt p_16) n9) flo bnd frm too amt pri wai byp ldr bor due plg clo pap cnd small price cut proc (nI mk) (nI lm) (nI le))) (c_X2_apply l sa D cI cZ cL (ad 4) (ad 12) (ad 13) (ad 14) (ad 15) (ad 16) (ad 17) frm too amt (nI mk) (ad 2) (ad 8) (ad 9) a9 n9 p_16 mk (by first | assumption | omega) (by first | assumption | omega) (by first | assumption | omega) (by first | assumption | omega)) (cwV 2 C.2.2.2.2.1 gX4_canGoTogether_X2_apply rfl rfl rfl (by decide +kernel) ⟨Nat.le_of_ble_eq_true rfl, Nat.le_of_ble_eq_true rfl⟩) 4 rfl rfl rfl (fun _ => (zSub.of (wr := [((ad 0), .inr (4, [.ref (ad 1), .ref (ad 2), .ref (ad 3), .ref (ad 4), .ref (ad 5), .ref (ad 22), .ref (ad 23), .ref (ad 24), .int small, .int price, .int cut, .int proc])), ((ad 1), .inr (3, [.ref (ad 6), .ref (ad 7)])), ((ad 3), .inr (0, [.ref (ad 10), .ref (ad 11)])), ((ad 5), .inr (1, [.ref (ad 18), .ref (ad 19), .ref (ad 20), .ref (ad 21), .int (nI lm), .int (nI le)])), ((ad 6), .inl (cI, 5, .inl acc)), ((ad 7), .inl (cI, 25, .inl net)), ((ad 10), .inl (cI, 5, .inl flo)), ((ad 11), .inl (cI, 25, .inl bnd)), ((ad 15), .inl (cI, 60, .inl pri)), ((ad 16), .inl (cZ, 60, .inl wai)), ((ad 17), .inl (cI, 60, .inl byp)), ((ad 18), .inl (cI, 40, .inl ldr)), ((ad 19), .inl (cI, 40, .inl bor)), ((ad 20), .inl (cI, 40, .inl due)), ((ad 21), .inl (cI, 40, .inl plg)), ((ad 22), .inl (cZ, 5, .inl clo)), ((ad 23), .inl (cI, 5, .inl pap)), ((ad 24), .inl (cI, 10, .inl cnd))]) [4, 12, 13, 14, 2, 8, 9] [0, 1, 3, 5, 6, 7, 10, 11, 15, 16, 17, 18, 19, 20, 21, 22, 23, 24] [0, 1, 22, 2, 18, 3, 4, 5, 23, 24, 6, 7, 19, 20, 21, 8, 9, 10, 11, 12, 13, 14, 15, 16, 17] rfl rfl rfl rfl (by decide) rfl rfl)) (zIn.of [4, 12, 13, 14, 2, 8, 9] rfl rfl) rfl (Nat.le_of_ble_eq_true rfl) ⟨Nat.le_of_ble_eq_true rfl, Nat.le_of_ble_eq_true rfl⟩ dX4_canGoTogether_52 (fun _ _ => ?_)
            refine z_iinc C (v := (nI (i + 1))) dX4_canGoTogether_55 3 rfl (nI_add i 1) (by decide) [(0, .ref (ad 0)), (1, .int (nI S)), (2, .int (nI c9)), (3, .int (nI (i + 1)))] [1, 2, 3, 0] rfl ?_
            refine z_goto C (tgt := 13) dX4_canGoTogether_58 (by decide) ?_
            exact ih_2 (i + 1) (mvA (ix (frm p_16)) (ix (too p_16)) (amt p_16) a9) (mvN (ix (frm p_16)) (ix (too p_16)) (amt p_16) n9) (by omega) (by first | assumption | omega) (by simp only [goS, hgo, c15_4, n_11, hp_12, hq_15]; rfl)
        · skip
          refine z_callSi C (T := Unit) (As := [.int (nI S), .int (nI i)]) (rest := []) (ws' := fun _ => (wX ad cI cZ acc net a9 n9 flo bnd frm too amt pri wai byp ldr bor due plg clo pap cnd small price cut proc (nI mk) (nI lm) (nI le))) (c_X4_isIn l sa D cI cZ cL  S i (by first | assumption | omega) (by first | assumption | omega)) (va_cwS 2 C.2.2.2.2.1 gX4_canGoTogether_X4_isIn rfl rfl rfl (by decide +kernel) ⟨Nat.le_of_ble_eq_true rfl, Nat.le_of_ble_eq_true rfl⟩) (fun _ => zSub.none) zIn.none rfl (Nat.le_of_ble_eq_true rfl) ⟨Nat.le_of_ble_eq_true rfl, Nat.le_of_ble_eq_true rfl⟩ dX4_canGoTogether_20 (fun r_17 _ h_18 => ?_)
          obtain rfl : r_17 = 0 := h_18.trans (if_neg hp_12)
          refine z_if_eq C (tgt := 55) dX4_canGoTogether_23 (by decide) (fun _ => ?_) (fun h => absurd h (by decide))
          refine z_iinc C (v := (nI (i + 1))) dX4_canGoTogether_55 3 rfl (nI_add i 1) (by decide) [(0, .ref (ad 0)), (1, .int (nI S)), (2, .int (nI c9)), (3, .int (nI (i + 1)))] [1, 2, 3, 0] rfl ?_
          refine z_goto C (tgt := 13) dX4_canGoTogether_58 (by decide) ?_
          exact ih_2 (i + 1) a9 n9 (by omega) (by first | assumption | omega) (by simp only [goS, hgo, c15_4, n_11, hp_12]; rfl)
  refine z_lveq [(0, .ref (ad 0)), (1, .int (nI S)), (2, .int (nI c9)), (3, .int (nI 0))] (by rfl) ?_
  exact L13_k_1 (c9 - 0 + 1) 0 (cpA acc tacc) (cpN net tnet) (Nat.lt_succ_self _) (by first | assumption | omega) (by rfl)
set_option maxHeartbeats 4000000 in
set_option maxRecDepth 100000 in
theorem c_X4_listWaiting (l : Launch) (sa : Nat → Nat) (D : va_G) (cI cZ cL : ClassId) (ad : Nat → Nat) (acc net tacc tnet flo bnd frm too amt pri wai byp ldr bor due plg clo pap cnd : Nat → Int32) (small price cut proc : Int32) (mk lm le : Nat)  (hmk : mk ≤ 60) (hwl : (wlL wai mk).length ≤ 10) : zMi (T := Nat → Int32) sa D vwCl (zty cI cZ cL) l yX4_listWaiting wsX4_listWaiting ({ frames := 0, cells := 0, slots := 0, locals := 0 } : Room) [.ref (ad 0)] (wX ad cI cZ acc net tacc tnet flo bnd frm too amt pri wai byp ldr bor due plg clo pap cnd small price cut proc (nI mk) (nI lm) (nI le)) (fun r9 u => r9 = (nI ((wlL wai mk).length)) ∧ ∀ k, k < (wlL wai mk).length → u k = oI (wlL wai mk)[k]?) (fun u => (wX ad cI cZ acc net tacc tnet flo bnd frm too amt pri wai byp ldr bor due plg clo pap u small price cut proc (nI mk) (nI lm) (nI le))) 0 0 := by
  refine zMi.of (ret := (some .int)) (cc := cX4_listWaiting) (nL := 3) (own := RX4) (by decide +kernel) rfl [(0, .ref (ad 0))] rfl (Nat.le_of_ble_eq_true rfl) rfl ?_
  intro A p e s m args below meth c C hmn
  refine z_iconst C (v := 0) dX4_listWaiting_0 (by decide) ?_
  refine z_istore_n C dX4_listWaiting_1 rfl (by decide) [(0, .ref (ad 0)), (1, .int 0)] [1, 0] rfl ?_
  refine z_iconst C (v := 0) dX4_listWaiting_2 (by decide) ?_
  refine z_istore_n C dX4_listWaiting_3 rfl (by decide) [(0, .ref (ad 0)), (1, .int 0), (2, .int 0)] [1, 2, 0] rfl ?_
  have L4_k_1 : ∀ (n : Nat) (c9 i : Nat) (cn9 : Nat → Int32), mk - i < n → (i ≤ mk) → (c9 ≤ 10) → (c9 = (wlL wai i).length) → (∀ k, k < (wlL wai i).length → cn9 k = oI (wlL wai i)[k]?) → zW 0 p l e ({ frames := 0, cells := 0, slots := 0, locals := 0 } : Room) s m args below meth c (MQ below (zQi (T := Nat → Int32) D vwCl (zty cI cZ cL) A (fun r9 u => r9 = (nI ((wlL wai mk).length)) ∧ ∀ k, k < (wlL wai mk).length → u k = oI (wlL wai mk)[k]?) (fun u => (wX ad cI cZ acc net tacc tnet flo bnd frm too amt pri wai byp ldr bor due plg clo pap u small price cut proc (nI mk) (nI lm) (nI le)))) args s 0 0 A) D vwCl A 3 0 0 (wX ad cI cZ acc net tacc tnet flo bnd frm too amt pri wai byp ldr bor due plg clo pap cn9 small price cut proc (nI mk) (nI lm) (nI le)) [(0, .ref (ad 0)), (1, .int (nI c9)), (2, .int (nI i))] 4 [] := by
    intro n
    induction n with
    | zero => intros; omega
    | succ n ih_2 =>
      intro c9 i cn9 hm_3 hi hc10 hc9 hcn
      refine z_iload_n C dX4_listWaiting_4 rfl 2 rfl ?_
      refine z_aload_n C dX4_listWaiting_5 rfl 0 rfl ?_
      refine z_get C 0 rfl i_X4_listWaiting_X4 rfl 3 (by decide) m_X4_listWaiting_f29 rfl rfl dX4_listWaiting_6 ?_
      refine z_get C 4 rfl i_X4_listWaiting_X2 rfl 6 (by decide) m_X4_listWaiting_f113 rfl rfl dX4_listWaiting_9 ?_
      refine z_icmp_ge C (tgt := 49) dX4_listWaiting_12 (by decide) (fun c12_4 => ?_) (fun c12_4 => ?_)
      · skip
        have n_5 : mk ≤ i := (nI_leI (a := mk) (b := i) (by omega) (by omega)).mp c12_4
        refine z_iload_n C dX4_listWaiting_49 rfl 1 rfl ?_
        exact z_iret C cn9 (by have e9 : wlL wai mk = wlL wai i := wlL_full (by omega) (by first | omega | (rw [show i = mk by omega]; exact Nat.le_refl _)); exact ⟨by rw [e9, hc9], by rw [e9]; exact hcn⟩) rfl (by decide) (by decide) dX4_listWaiting_50
      · skip
        have n_6 : ¬ mk ≤ i := fun q => c12_4 ((nI_leI (a := mk) (b := i) (by omega) (by omega)).mpr q)
        refine z_iload_n C dX4_listWaiting_15 rfl 1 rfl ?_
        refine z_bipush C (v := 10) dX4_listWaiting_16 (by decide) ?_
        refine z_icmp_ge C (tgt := 49) dX4_listWaiting_18 (by decide) (fun c18_7 => ?_) (fun c18_7 => ?_)
        · skip
          have n_8 : 10 ≤ c9 := (nI_leI (a := 10) (b := c9) (by omega) (by omega)).mp c18_7
          refine z_iload_n C dX4_listWaiting_49 rfl 1 rfl ?_
          exact z_iret C cn9 (by have e9 : wlL wai mk = wlL wai i := wlL_full (by omega) (by first | omega | (rw [show i = mk by omega]; exact Nat.le_refl _)); exact ⟨by rw [e9, hc9], by rw [e9]; exact hcn⟩) rfl (by decide) (by decide) dX4_listWaiting_50
        · skip
          have n_9 : ¬ 10 ≤ c9 := fun q => c18_7 ((nI_leI (a := 10) (b := c9) (by omega) (by omega)).mpr q)
          refine z_aload_n C dX4_listWaiting_21 rfl 0 rfl ?_
          refine z_get C 0 rfl i_X4_listWaiting_X4 rfl 3 (by decide) m_X4_listWaiting_f29 rfl rfl dX4_listWaiting_22 ?_
          refine z_get C 4 rfl i_X4_listWaiting_X2 rfl 4 (by decide) m_X4_listWaiting_f125 rfl rfl dX4_listWaiting_25 ?_
          refine z_iload_n C dX4_listWaiting_28 rfl 2 rfl ?_
          refine z_zald C 16 1 rfl rfl i (nI_clamp (by omega)) (vp_in_nI (by omega) (by omega)) (wai i) rfl dX4_listWaiting_29 ?_
          refine z_if_eq C (tgt := 43) dX4_listWaiting_30 (by decide) (fun c30_10 => ?_) (fun c30_10 => ?_)
          · skip
            refine z_iinc C (v := (nI (i + 1))) dX4_listWaiting_43 2 rfl (nI_add i 1) (by decide) [(0, .ref (ad 0)), (1, .int (nI c9)), (2, .int (nI (i + 1)))] [1, 2, 0] rfl ?_
            refine z_goto C (tgt := 4) dX4_listWaiting_46 (by decide) ?_
            exact ih_2 c9 (i + 1) cn9 (by omega) (by first | assumption | omega) (by first | assumption | omega) (by first | (rw [wlL_y (by assumption), List.length_append, List.length_singleton]; omega) | (rw [wlL_n (by assumption)]; omega)) (by first | (rw [wlL_y (by assumption), hc9]; exact cn_step hcn) | (rw [wlL_n (by assumption)]; exact hcn))
          · skip
            refine z_aload_n C dX4_listWaiting_33 rfl 0 rfl ?_
            refine z_get C 0 rfl i_X4_listWaiting_X4 rfl 7 (by decide) m_X4_listWaiting_f48 rfl rfl dX4_listWaiting_34 ?_
            refine z_iload_n C dX4_listWaiting_37 rfl 1 rfl ?_
            refine z_iload_n C dX4_listWaiting_38 rfl 2 rfl ?_
            refine z_iast C 24 0 rfl rfl c9 (nI_clamp (by omega)) (vp_in_nI (by omega) (by omega)) (nI i) rfl dX4_listWaiting_39 (wX ad cI cZ acc net tacc tnet flo bnd frm too amt pri wai byp ldr bor due plg clo pap (upd cn9 c9 (nI i)) small price cut proc (nI mk) (nI lm) (nI le)) rfl ?_
            refine z_iinc C (v := (nI (c9 + 1))) dX4_listWaiting_40 1 rfl (nI_add c9 1) (by decide) [(0, .ref (ad 0)), (1, .int (nI (c9 + 1))), (2, .int (nI i))] [1, 0, 2] rfl ?_
            refine z_iinc C (v := (nI (i + 1))) dX4_listWaiting_43 2 rfl (nI_add i 1) (by decide) [(0, .ref (ad 0)), (1, .int (nI (c9 + 1))), (2, .int (nI (i + 1)))] [1, 2, 0] rfl ?_
            refine z_goto C (tgt := 4) dX4_listWaiting_46 (by decide) ?_
            exact ih_2 (c9 + 1) (i + 1) (upd cn9 c9 (nI i)) (by omega) (by first | assumption | omega) (by first | assumption | omega) (by first | (rw [wlL_y (by assumption), List.length_append, List.length_singleton]; omega) | (rw [wlL_n (by assumption)]; omega)) (by first | (rw [wlL_y (by assumption), hc9]; exact cn_step hcn) | (rw [wlL_n (by assumption)]; exact hcn))
  refine z_lveq [(0, .ref (ad 0)), (1, .int (nI 0)), (2, .int (nI 0))] (by rfl) ?_
  exact L4_k_1 (mk - 0 + 1) 0 0 cnd (Nat.lt_succ_self _) (by first | assumption | omega) (by first | assumption | omega) (by rfl) (by intro k hk; exact absurd hk (Nat.not_lt_zero k))
end
section
theorem m_X2_enter_f31 : Cond.fieldLink RX2 31 "Queuefloat$Payments" "made" "I" ∈ wsX2_enter := by decide +kernel
theorem i_X2_enter_X2 : ∀ w ∈ wsX20, w ∈ wsX2_enter := by decide +kernel
theorem m_X2_enter_f9 : Cond.fieldLink RX2 9 "Queuefloat$Payments" "from" "[I" ∈ wsX2_enter := by decide +kernel
theorem m_X2_enter_f15 : Cond.fieldLink RX2 15 "Queuefloat$Payments" "to" "[I" ∈ wsX2_enter := by decide +kernel
theorem m_X2_enter_f18 : Cond.fieldLink RX2 18 "Queuefloat$Payments" "amount" "[I" ∈ wsX2_enter := by decide +kernel
theorem m_X2_enter_f21 : Cond.fieldLink RX2 21 "Queuefloat$Payments" "priorityOf" "[I" ∈ wsX2_enter := by decide +kernel
theorem m_X2_enter_f24 : Cond.fieldLink RX2 24 "Queuefloat$Payments" "waits" "[Z" ∈ wsX2_enter := by decide +kernel
theorem m_X2_enter_f28 : Cond.fieldLink RX2 28 "Queuefloat$Payments" "byPriority" "[I" ∈ wsX2_enter := by decide +kernel
theorem m_X1_enter_f24 : Cond.fieldLink RX1 24 "Queuefloat$Loans" "made" "I" ∈ wsX1_enter := by decide +kernel
theorem i_X1_enter_X1 : ∀ w ∈ wsX10, w ∈ wsX1_enter := by decide +kernel
theorem m_X1_enter_f9 : Cond.fieldLink RX1 9 "Queuefloat$Loans" "lender" "[I" ∈ wsX1_enter := by decide +kernel
theorem m_X1_enter_f15 : Cond.fieldLink RX1 15 "Queuefloat$Loans" "borrower" "[I" ∈ wsX1_enter := by decide +kernel
theorem m_X1_enter_f18 : Cond.fieldLink RX1 18 "Queuefloat$Loans" "due" "[I" ∈ wsX1_enter := by decide +kernel
theorem m_X1_enter_f21 : Cond.fieldLink RX1 21 "Queuefloat$Loans" "pledge" "[I" ∈ wsX1_enter := by decide +kernel
theorem m_X4_sendLargestSet_f48 : Cond.fieldLink RX4 48 "Queuefloat" "candidates" "[I" ∈ wsX4_sendLargestSet := by decide +kernel
theorem i_X4_sendLargestSet_X4 : ∀ w ∈ wsX40, w ∈ wsX4_sendLargestSet := by decide +kernel
theorem m_X4_sendLargestSet_f29 : Cond.fieldLink RX4 29 "Queuefloat" "payments" "LQueuefloat$Payments;" ∈ wsX4_sendLargestSet := by decide +kernel
set_option maxHeartbeats 4000000 in
set_option maxRecDepth 100000 in
theorem c_X2_enter (l : Launch) (sa : Nat → Nat) (D : va_G) (cI cZ cL : ClassId) (ad : Nat → Nat) (acc net tacc tnet flo bnd frm too amt pri wai byp ldr bor due plg clo pap cnd : Nat → Int32) (small price cut proc : Int32) (mk lm le : Nat) (f : Nat) (t : Nat) (x : Int32) (r : Nat) (hf : f < 5) (ht : t < 5) (hr : r < 3) (hmk : mk < 60) (hpri : wf3 mk pri) (hbyp : bypOK byp pri mk) : zMi (T := Nat → Int32) sa D vwCl (zty cI cZ cL) l yX2_enter wsX2_enter ({ frames := 0, cells := 0, slots := 0, locals := 0 } : Room) [.ref (ad 4), .int (nI f), .int (nI t), .int x, .int (nI r)] (wX ad cI cZ acc net tacc tnet flo bnd frm too amt pri wai byp ldr bor due plg clo pap cnd small price cut proc (nI mk) (nI lm) (nI le)) (fun r9 u => r9 = (nI mk) ∧ bypOK u (upd pri mk (nI r)) (mk + 1)) (fun u => (wX ad cI cZ acc net tacc tnet flo bnd (upd frm mk (nI f)) (upd too mk (nI t)) (upd amt mk x) (upd pri mk (nI r)) (upd wai mk 1) u ldr bor due plg clo pap cnd small price cut proc (nI (mk + 1)) (nI lm) (nI le))) 0 0 := by
  refine zMi.of (ret := (some .int)) (cc := cX2_enter) (nL := 7) (own := RX2) (by decide +kernel) rfl [(0, .ref (ad 4)), (1, .int (nI f)), (2, .int (nI t)), (3, .int x), (4, .int (nI r))] rfl (Nat.le_of_ble_eq_true rfl) rfl ?_
  intro A p e s m args below meth c C hmn
  refine z_aload_n C dX2_enter_0 rfl 0 rfl ?_
  refine z_get C 4 rfl i_X2_enter_X2 rfl 6 (by decide) m_X2_enter_f31 rfl rfl dX2_enter_1 ?_
  refine z_istore C dX2_enter_4 (by decide) [(0, .ref (ad 4)), (1, .int (nI f)), (2, .int (nI t)), (3, .int x), (4, .int (nI r)), (5, .int (nI mk))] [1, 2, 3, 4, 5, 0] rfl ?_
  refine z_aload_n C dX2_enter_6 rfl 0 rfl ?_
  refine z_get C 4 rfl i_X2_enter_X2 rfl 0 (by decide) m_X2_enter_f9 rfl rfl dX2_enter_7 ?_
  refine z_iload C dX2_enter_10 5 rfl ?_
  refine z_iload_n C dX2_enter_12 rfl 1 rfl ?_
  refine z_iast C 12 0 rfl rfl mk (nI_clamp (by omega)) (vp_in_nI (by omega) (by omega)) (nI f) rfl dX2_enter_13 (wX ad cI cZ acc net tacc tnet flo bnd (upd frm mk (nI f)) too amt pri wai byp ldr bor due plg clo pap cnd small price cut proc (nI mk) (nI lm) (nI le)) rfl ?_
  refine z_aload_n C dX2_enter_14 rfl 0 rfl ?_
  refine z_get C 4 rfl i_X2_enter_X2 rfl 1 (by decide) m_X2_enter_f15 rfl rfl dX2_enter_15 ?_
  refine z_iload C dX2_enter_18 5 rfl ?_
  refine z_iload_n C dX2_enter_20 rfl 2 rfl ?_
  refine z_iast C 13 0 rfl rfl mk (nI_clamp (by omega)) (vp_in_nI (by omega) (by omega)) (nI t) rfl dX2_enter_21 (wX ad cI cZ acc net tacc tnet flo bnd (upd frm mk (nI f)) (upd too mk (nI t)) amt pri wai byp ldr bor due plg clo pap cnd small price cut proc (nI mk) (nI lm) (nI le)) rfl ?_
  refine z_aload_n C dX2_enter_22 rfl 0 rfl ?_
  refine z_get C 4 rfl i_X2_enter_X2 rfl 2 (by decide) m_X2_enter_f18 rfl rfl dX2_enter_23 ?_
  refine z_iload C dX2_enter_26 5 rfl ?_
  refine z_iload_n C dX2_enter_28 rfl 3 rfl ?_
  refine z_iast C 14 0 rfl rfl mk (nI_clamp (by omega)) (vp_in_nI (by omega) (by omega)) x rfl dX2_enter_29 (wX ad cI cZ acc net tacc tnet flo bnd (upd frm mk (nI f)) (upd too mk (nI t)) (upd amt mk x) pri wai byp ldr bor due plg clo pap cnd small price cut proc (nI mk) (nI lm) (nI le)) rfl ?_
  refine z_aload_n C dX2_enter_30 rfl 0 rfl ?_
  refine z_get C 4 rfl i_X2_enter_X2 rfl 3 (by decide) m_X2_enter_f21 rfl rfl dX2_enter_31 ?_
  refine z_iload C dX2_enter_34 5 rfl ?_
  refine z_iload C dX2_enter_36 4 rfl ?_
  refine z_iast C 15 0 rfl rfl mk (nI_clamp (by omega)) (vp_in_nI (by omega) (by omega)) (nI r) rfl dX2_enter_38 (wX ad cI cZ acc net tacc tnet flo bnd (upd frm mk (nI f)) (upd too mk (nI t)) (upd amt mk x) (upd pri mk (nI r)) wai byp ldr bor due plg clo pap cnd small price cut proc (nI mk) (nI lm) (nI le)) rfl ?_
  refine z_aload_n C dX2_enter_39 rfl 0 rfl ?_
  refine z_get C 4 rfl i_X2_enter_X2 rfl 4 (by decide) m_X2_enter_f24 rfl rfl dX2_enter_40 ?_
  refine z_iload C dX2_enter_43 5 rfl ?_
  refine z_iconst C (v := 1) dX2_enter_45 (by decide) ?_
  refine z_zast C 16 1 rfl rfl mk (nI_clamp (by omega)) (vp_in_nI (by omega) (by omega)) 1 (by decide) dX2_enter_46 (wX ad cI cZ acc net tacc tnet flo bnd (upd frm mk (nI f)) (upd too mk (nI t)) (upd amt mk x) (upd pri mk (nI r)) (upd wai mk 1) byp ldr bor due plg clo pap cnd small price cut proc (nI mk) (nI lm) (nI le)) rfl ?_
  refine z_aload_n C dX2_enter_47 rfl 0 rfl ?_
  refine z_get C 4 rfl i_X2_enter_X2 rfl 6 (by decide) m_X2_enter_f31 rfl rfl dX2_enter_48 ?_
  refine z_istore C dX2_enter_51 (by decide) [(0, .ref (ad 4)), (1, .int (nI f)), (2, .int (nI t)), (3, .int x), (4, .int (nI r)), (5, .int (nI mk)), (6, .int (nI mk))] [1, 2, 3, 4, 5, 6, 0] rfl ?_
  have L53_k_1 : ∀ (n : Nat) (j : Nat), j < n → (j ≤ mk) → (∀ i p9, j ≤ i → (ordL pri mk)[i]? = some p9 → ix (pri p9) < r) → zW 0 p l e ({ frames := 0, cells := 0, slots := 0, locals := 0 } : Room) s m args below meth c (MQ below (zQi (T := Nat → Int32) D vwCl (zty cI cZ cL) A (fun r9 u => r9 = (nI mk) ∧ bypOK u (upd pri mk (nI r)) (mk + 1)) (fun u => (wX ad cI cZ acc net tacc tnet flo bnd (upd frm mk (nI f)) (upd too mk (nI t)) (upd amt mk x) (upd pri mk (nI r)) (upd wai mk 1) u ldr bor due plg clo pap cnd small price cut proc (nI (mk + 1)) (nI lm) (nI le)))) args s 0 0 A) D vwCl A 7 0 0 (wX ad cI cZ acc net tacc tnet flo bnd (upd frm mk (nI f)) (upd too mk (nI t)) (upd amt mk x) (upd pri mk (nI r)) (upd wai mk 1) (insP byp mk j) ldr bor due plg clo pap cnd small price cut proc (nI mk) (nI lm) (nI le)) [(0, .ref (ad 4)), (1, .int (nI f)), (2, .int (nI t)), (3, .int x), (4, .int (nI r)), (5, .int (nI mk)), (6, .int (nI j))] 53 [] := by
    intro n
    induction n with
    | zero => intros; omega
    | succ n ih_2 =>
      intro j hm_3 hj hj2
      refine z_iload C dX2_enter_53 6 rfl ?_
      refine z_if_le C (tgt := 99) dX2_enter_55 (by decide) (fun c55_4 => ?_) (fun c55_4 => ?_)
      · skip
        have n_5 : j ≤ 0 := (nI_leI (a := j) (b := 0) (by omega) (by omega)).mp c55_4
        refine z_aload_n C dX2_enter_99 rfl 0 rfl ?_
        refine z_get C 4 rfl i_X2_enter_X2 rfl 5 (by decide) m_X2_enter_f28 rfl rfl dX2_enter_100 ?_
        refine z_iload C dX2_enter_103 6 rfl ?_
        refine z_iload C dX2_enter_105 5 rfl ?_
        refine z_iast C 17 0 rfl rfl j (nI_clamp (by omega)) (vp_in_nI (by omega) (by omega)) (nI mk) rfl dX2_enter_107 (wX ad cI cZ acc net tacc tnet flo bnd (upd frm mk (nI f)) (upd too mk (nI t)) (upd amt mk x) (upd pri mk (nI r)) (upd wai mk 1) (upd (insP byp mk j) j (nI mk)) ldr bor due plg clo pap cnd small price cut proc (nI mk) (nI lm) (nI le)) rfl ?_
        refine z_aload_n C dX2_enter_108 rfl 0 rfl ?_
        refine z_dup C dX2_enter_109 rfl ?_
        refine z_get C 4 rfl i_X2_enter_X2 rfl 6 (by decide) m_X2_enter_f31 rfl rfl dX2_enter_110 ?_
        refine z_iconst C (v := 1) dX2_enter_113 (by decide) ?_
        refine z_iadd C (v := (nI (mk + 1))) dX2_enter_114 (nI_add mk 1) ?_
        refine z_put C 4 rfl i_X2_enter_X2 rfl 6 (by decide) m_X2_enter_f31 rfl tyX2 tyX2_ok nmX2 rfl (ty := .int) (by decide +kernel) rfl rfl (Nat.le_of_ble_eq_true rfl) dX2_enter_115 (wX ad cI cZ acc net tacc tnet flo bnd (upd frm mk (nI f)) (upd too mk (nI t)) (upd amt mk x) (upd pri mk (nI r)) (upd wai mk 1) (upd (insP byp mk j) j (nI mk)) ldr bor due plg clo pap cnd small price cut proc (nI (mk + 1)) (nI lm) (nI le)) rfl ?_
        refine z_iload C dX2_enter_118 5 rfl ?_
        exact z_iret C (upd (insP byp mk j) j (nI mk)) (by exact ⟨rfl, ins_ok hr hpri hbyp hj (fun i p9 hi hp9 => absurd hi (by omega)) hj2⟩) rfl (by decide) (by decide) dX2_enter_120
      · skip
        have n_6 : ¬ j ≤ 0 := fun q => c55_4 ((nI_leI (a := j) (b := 0) (by omega) (by omega)).mpr q)
        refine z_aload_n C dX2_enter_58 rfl 0 rfl ?_
        refine z_get C 4 rfl i_X2_enter_X2 rfl 3 (by decide) m_X2_enter_f21 rfl rfl dX2_enter_59 ?_
        refine z_aload_n C dX2_enter_62 rfl 0 rfl ?_
        refine z_get C 4 rfl i_X2_enter_X2 rfl 5 (by decide) m_X2_enter_f28 rfl rfl dX2_enter_63 ?_
        refine z_iload C dX2_enter_66 6 rfl ?_
        refine z_iconst C (v := 1) dX2_enter_68 (by decide) ?_
        refine z_isub C (v := (nI (j - 1))) dX2_enter_69 (pk_sub (a := j) (b := 1) (by omega)) ?_
        obtain ⟨q_byp, hq_byp⟩ := hbyp (j - 1) (by omega)
        have hq_lt := ordL_mem (List.mem_of_getElem? hq_byp.1)
        refine z_iald C 17 0 rfl rfl (j - 1) (nI_clamp (by omega)) (vp_in_nI (by omega) (by omega)) (nI q_byp) (by rw [insP_at (by omega)]; exact hq_byp.2) dX2_enter_70 ?_
        have hq_3 := (hpri q_byp (by omega)).2
        refine z_iald C 15 0 rfl rfl q_byp (nI_clamp (by omega)) (vp_in_nI (by omega) (by omega)) (nI (ix (pri q_byp))) (upd_ne (by omega) (hpri q_byp (by omega)).1) dX2_enter_71 ?_
        refine z_iload C dX2_enter_72 4 rfl ?_
        refine z_icmp_ge C (tgt := 99) dX2_enter_74 (by decide) (fun c74_7 => ?_) (fun c74_7 => ?_)
        · skip
          have n_8 : r ≤ (ix (pri q_byp)) := (nI_leI (a := r) (b := ix (pri q_byp)) (by omega) (by omega)).mp c74_7
          refine z_aload_n C dX2_enter_99 rfl 0 rfl ?_
          refine z_get C 4 rfl i_X2_enter_X2 rfl 5 (by decide) m_X2_enter_f28 rfl rfl dX2_enter_100 ?_
          refine z_iload C dX2_enter_103 6 rfl ?_
          refine z_iload C dX2_enter_105 5 rfl ?_
          refine z_iast C 17 0 rfl rfl j (nI_clamp (by omega)) (vp_in_nI (by omega) (by omega)) (nI mk) rfl dX2_enter_107 (wX ad cI cZ acc net tacc tnet flo bnd (upd frm mk (nI f)) (upd too mk (nI t)) (upd amt mk x) (upd pri mk (nI r)) (upd wai mk 1) (upd (insP byp mk j) j (nI mk)) ldr bor due plg clo pap cnd small price cut proc (nI mk) (nI lm) (nI le)) rfl ?_
          refine z_aload_n C dX2_enter_108 rfl 0 rfl ?_
          refine z_dup C dX2_enter_109 rfl ?_
          refine z_get C 4 rfl i_X2_enter_X2 rfl 6 (by decide) m_X2_enter_f31 rfl rfl dX2_enter_110 ?_
          refine z_iconst C (v := 1) dX2_enter_113 (by decide) ?_
          refine z_iadd C (v := (nI (mk + 1))) dX2_enter_114 (nI_add mk 1) ?_
          refine z_put C 4 rfl i_X2_enter_X2 rfl 6 (by decide) m_X2_enter_f31 rfl tyX2 tyX2_ok nmX2 rfl (ty := .int) (by decide +kernel) rfl rfl (Nat.le_of_ble_eq_true rfl) dX2_enter_115 (wX ad cI cZ acc net tacc tnet flo bnd (upd frm mk (nI f)) (upd too mk (nI t)) (upd amt mk x) (upd pri mk (nI r)) (upd wai mk 1) (upd (insP byp mk j) j (nI mk)) ldr bor due plg clo pap cnd small price cut proc (nI (mk + 1)) (nI lm) (nI le)) rfl ?_
          refine z_iload C dX2_enter_118 5 rfl ?_
          exact z_iret C (upd (insP byp mk j) j (nI mk)) (by exact ⟨rfl, ins_ok hr hpri hbyp hj (fun i p9 hi hp9 => by have := ordL_le (pri := pri) (show i ≤ j - 1 by omega) hp9 hq_byp.1; omega) hj2⟩) rfl (by decide) (by decide) dX2_enter_120
        · skip
          have n_9 : ¬ r ≤ (ix (pri q_byp)) := fun q => c74_7 ((nI_leI (a := r) (b := ix (pri q_byp)) (by omega) (by omega)).mpr q)
          refine z_aload_n C dX2_enter_77 rfl 0 rfl ?_
          refine z_get C 4 rfl i_X2_enter_X2 rfl 5 (by decide) m_X2_enter_f28 rfl rfl dX2_enter_78 ?_
          refine z_iload C dX2_enter_81 6 rfl ?_
          refine z_aload_n C dX2_enter_83 rfl 0 rfl ?_
          refine z_get C 4 rfl i_X2_enter_X2 rfl 5 (by decide) m_X2_enter_f28 rfl rfl dX2_enter_84 ?_
          refine z_iload C dX2_enter_87 6 rfl ?_
          refine z_iconst C (v := 1) dX2_enter_89 (by decide) ?_
          refine z_isub C (v := (nI (j - 1))) dX2_enter_90 (pk_sub (a := j) (b := 1) (by omega)) ?_
          refine z_iald C 17 0 rfl rfl (j - 1) (nI_clamp (by omega)) (vp_in_nI (by omega) (by omega)) (nI q_byp) (by rw [insP_at (by omega)]; exact hq_byp.2) dX2_enter_91 ?_
          refine z_iast C 17 0 rfl rfl j (nI_clamp (by omega)) (vp_in_nI (by omega) (by omega)) (nI q_byp) rfl dX2_enter_92 (wX ad cI cZ acc net tacc tnet flo bnd (upd frm mk (nI f)) (upd too mk (nI t)) (upd amt mk x) (upd pri mk (nI r)) (upd wai mk 1) (upd (insP byp mk j) j (nI q_byp)) ldr bor due plg clo pap cnd small price cut proc (nI mk) (nI lm) (nI le)) rfl ?_
          refine z_iinc C (v := (nI (j - 1))) dX2_enter_93 6 rfl (z_dec (by omega)) (by decide) [(0, .ref (ad 4)), (1, .int (nI f)), (2, .int (nI t)), (3, .int x), (4, .int (nI r)), (5, .int (nI mk)), (6, .int (nI (j - 1)))] [1, 2, 3, 4, 5, 6, 0] rfl ?_
          refine z_goto C (tgt := 53) dX2_enter_96 (by decide) ?_
          refine z_ws (wX ad cI cZ acc net tacc tnet flo bnd (upd frm mk (nI f)) (upd too mk (nI t)) (upd amt mk x) (upd pri mk (nI r)) (upd wai mk 1) (insP byp mk (j - 1)) ldr bor due plg clo pap cnd small price cut proc (nI mk) (nI lm) (nI le)) (by rw [insP_s (by omega) (by omega) hq_byp.2]) ?_
          exact ih_2 (j - 1) (by omega) (by first | assumption | omega) (by exact hj2_s (P := fun p9 => ix (pri p9) < r) (by omega) hq_byp.1 (by omega) hj2)
  refine z_ws (wX ad cI cZ acc net tacc tnet flo bnd (upd frm mk (nI f)) (upd too mk (nI t)) (upd amt mk x) (upd pri mk (nI r)) (upd wai mk 1) (insP byp mk mk) ldr bor due plg clo pap cnd small price cut proc (nI mk) (nI lm) (nI le)) (by rw [insP_0]) ?_
  exact L53_k_1 (mk + 1) mk (Nat.lt_succ_self _) (by first | assumption | omega) (by intro i p9 hi hp9; have := ordL_len pri mk; have := (List.getElem?_eq_some_iff.mp hp9).1; omega)
set_option maxHeartbeats 4000000 in
set_option maxRecDepth 100000 in
theorem c_X1_enter (l : Launch) (sa : Nat → Nat) (D : va_G) (cI cZ cL : ClassId) (ad : Nat → Nat) (acc net tacc tnet flo bnd frm too amt pri wai byp ldr bor due plg clo pap cnd : Nat → Int32) (small price cut proc : Int32) (mk lm le : Nat) (d : Nat) (b : Nat) (x : Int32) (y : Int32) (hlm : lm < 40) : zMi (T := Unit) sa D vwCl (zty cI cZ cL) l yX1_enter wsX1_enter ({ frames := 0, cells := 0, slots := 0, locals := 0 } : Room) [.ref (ad 5), .int (nI d), .int (nI b), .int x, .int y] (wX ad cI cZ acc net tacc tnet flo bnd frm too amt pri wai byp ldr bor due plg clo pap cnd small price cut proc (nI mk) (nI lm) (nI le)) (fun r9 _ => r9 = (nI lm)) (fun _ => (wX ad cI cZ acc net tacc tnet flo bnd frm too amt pri wai byp (upd ldr lm (nI d)) (upd bor lm (nI b)) (upd due lm x) (upd plg lm y) clo pap cnd small price cut proc (nI mk) (nI (lm + 1)) (nI le))) 0 0 := by
  refine zMi.of (ret := (some .int)) (cc := cX1_enter) (nL := 6) (own := RX1) (by decide +kernel) rfl [(0, .ref (ad 5)), (1, .int (nI d)), (2, .int (nI b)), (3, .int x), (4, .int y)] rfl (Nat.le_of_ble_eq_true rfl) rfl ?_
  intro A p e s m args below meth c C hmn
  refine z_aload_n C dX1_enter_0 rfl 0 rfl ?_
  refine z_get C 5 rfl i_X1_enter_X1 rfl 4 (by decide) m_X1_enter_f24 rfl rfl dX1_enter_1 ?_
  refine z_istore C dX1_enter_4 (by decide) [(0, .ref (ad 5)), (1, .int (nI d)), (2, .int (nI b)), (3, .int x), (4, .int y), (5, .int (nI lm))] [1, 2, 3, 4, 5, 0] rfl ?_
  refine z_aload_n C dX1_enter_6 rfl 0 rfl ?_
  refine z_get C 5 rfl i_X1_enter_X1 rfl 0 (by decide) m_X1_enter_f9 rfl rfl dX1_enter_7 ?_
  refine z_iload C dX1_enter_10 5 rfl ?_
  refine z_iload_n C dX1_enter_12 rfl 1 rfl ?_
  refine z_iast C 18 0 rfl rfl lm (nI_clamp (by omega)) (vp_in_nI (by omega) (by omega)) (nI d) rfl dX1_enter_13 (wX ad cI cZ acc net tacc tnet flo bnd frm too amt pri wai byp (upd ldr lm (nI d)) bor due plg clo pap cnd small price cut proc (nI mk) (nI lm) (nI le)) rfl ?_
  refine z_aload_n C dX1_enter_14 rfl 0 rfl ?_
  refine z_get C 5 rfl i_X1_enter_X1 rfl 1 (by decide) m_X1_enter_f15 rfl rfl dX1_enter_15 ?_
  refine z_iload C dX1_enter_18 5 rfl ?_
  refine z_iload_n C dX1_enter_20 rfl 2 rfl ?_
  refine z_iast C 19 0 rfl rfl lm (nI_clamp (by omega)) (vp_in_nI (by omega) (by omega)) (nI b) rfl dX1_enter_21 (wX ad cI cZ acc net tacc tnet flo bnd frm too amt pri wai byp (upd ldr lm (nI d)) (upd bor lm (nI b)) due plg clo pap cnd small price cut proc (nI mk) (nI lm) (nI le)) rfl ?_
  refine z_aload_n C dX1_enter_22 rfl 0 rfl ?_
  refine z_get C 5 rfl i_X1_enter_X1 rfl 2 (by decide) m_X1_enter_f18 rfl rfl dX1_enter_23 ?_
  refine z_iload C dX1_enter_26 5 rfl ?_
  refine z_iload_n C dX1_enter_28 rfl 3 rfl ?_
  refine z_iast C 20 0 rfl rfl lm (nI_clamp (by omega)) (vp_in_nI (by omega) (by omega)) x rfl dX1_enter_29 (wX ad cI cZ acc net tacc tnet flo bnd frm too amt pri wai byp (upd ldr lm (nI d)) (upd bor lm (nI b)) (upd due lm x) plg clo pap cnd small price cut proc (nI mk) (nI lm) (nI le)) rfl ?_
  refine z_aload_n C dX1_enter_30 rfl 0 rfl ?_
  refine z_get C 5 rfl i_X1_enter_X1 rfl 3 (by decide) m_X1_enter_f21 rfl rfl dX1_enter_31 ?_
  refine z_iload C dX1_enter_34 5 rfl ?_
  refine z_iload C dX1_enter_36 4 rfl ?_
  refine z_iast C 21 0 rfl rfl lm (nI_clamp (by omega)) (vp_in_nI (by omega) (by omega)) y rfl dX1_enter_38 (wX ad cI cZ acc net tacc tnet flo bnd frm too amt pri wai byp (upd ldr lm (nI d)) (upd bor lm (nI b)) (upd due lm x) (upd plg lm y) clo pap cnd small price cut proc (nI mk) (nI lm) (nI le)) rfl ?_
  refine z_aload_n C dX1_enter_39 rfl 0 rfl ?_
  refine z_dup C dX1_enter_40 rfl ?_
  refine z_get C 5 rfl i_X1_enter_X1 rfl 4 (by decide) m_X1_enter_f24 rfl rfl dX1_enter_41 ?_
  refine z_iconst C (v := 1) dX1_enter_44 (by decide) ?_
  refine z_iadd C (v := (nI (lm + 1))) dX1_enter_45 (nI_add lm 1) ?_
  refine z_put C 5 rfl i_X1_enter_X1 rfl 4 (by decide) m_X1_enter_f24 rfl tyX1 tyX1_ok nmX1 rfl (ty := .int) (by decide +kernel) rfl rfl (Nat.le_of_ble_eq_true rfl) dX1_enter_46 (wX ad cI cZ acc net tacc tnet flo bnd frm too amt pri wai byp (upd ldr lm (nI d)) (upd bor lm (nI b)) (upd due lm x) (upd plg lm y) clo pap cnd small price cut proc (nI mk) (nI (lm + 1)) (nI le)) rfl ?_
  refine z_iload C dX1_enter_49 5 rfl ?_
  exact z_iret C () rfl rfl (by decide) (by decide) dX1_enter_51
set_option maxHeartbeats 4000000 in
set_option maxRecDepth 100000 in
theorem c_X4_sendLargestSet (l : Launch) (sa : Nat → Nat) (D : va_G) (cI cZ cL : ClassId) (ad : Nat → Nat) (acc net tacc tnet flo bnd frm too amt pri wai byp ldr bor due plg clo pap cnd : Nat → Int32) (small price cut proc : Int32) (mk lm le : Nat)  (hmk : mk ≤ 60) (hfrm : wf5 mk frm) (htoo : wf5 mk too) (hbyp : bypOK byp pri mk) : zMi (T := (Nat → Int32) × (Nat → Int32) × (Nat → Int32)) sa D vwCl (zty cI cZ cL) l yX4_sendLargestSet wsX4_sendLargestSet ({ frames := 4, cells := 0, slots := 0, locals := 89 } : Room) [.ref (ad 0)] (wX ad cI cZ acc net tacc tnet flo bnd frm too amt pri wai byp ldr bor due plg clo pap cnd small price cut proc (nI mk) (nI lm) (nI le)) (fun r9 u => r9 = (nI ((togF (ordL pri mk) flo bnd frm too amt acc net wai).2.2.2))) (fun u => (wX ad cI cZ ((togF (ordL pri mk) flo bnd frm too amt acc net wai).1) ((togF (ordL pri mk) flo bnd frm too amt acc net wai).2.1) u.2.1 u.2.2 flo bnd frm too amt pri ((togF (ordL pri mk) flo bnd frm too amt acc net wai).2.2.1) byp ldr bor due plg clo pap u.1 small price cut proc (nI mk) (nI lm) (nI le))) 0 0 := by
  refine zMi.of (ret := (some .int)) (cc := cX4_sendLargestSet) (nL := 3) (own := RX4) (by decide +kernel) rfl [(0, .ref (ad 0))] rfl (Nat.le_of_ble_eq_true rfl) rfl ?_
  intro A p e s m args below meth c C hmn
  refine z_iconst C (v := 0) dX4_sendLargestSet_0 (by decide) ?_
  refine z_istore_n C dX4_sendLargestSet_1 rfl (by decide) [(0, .ref (ad 0)), (1, .int 0)] [1, 0] rfl ?_
  have L2_k_1 : ∀ (n : Nat) (i : Nat), 5 - i < n → (i ≤ 5) → zW 0 p l e ({ frames := 4, cells := 0, slots := 0, locals := 89 } : Room) s m args below meth c (MQ below (zQi (T := (Nat → Int32) × (Nat → Int32) × (Nat → Int32)) D vwCl (zty cI cZ cL) A (fun r9 u => r9 = (nI ((togF (ordL pri mk) flo bnd frm too amt acc net wai).2.2.2))) (fun u => (wX ad cI cZ ((togF (ordL pri mk) flo bnd frm too amt acc net wai).1) ((togF (ordL pri mk) flo bnd frm too amt acc net wai).2.1) u.2.1 u.2.2 flo bnd frm too amt pri ((togF (ordL pri mk) flo bnd frm too amt acc net wai).2.2.1) byp ldr bor due plg clo pap u.1 small price cut proc (nI mk) (nI lm) (nI le)))) args s 0 0 A) D vwCl A 3 0 0 (wX ad cI cZ acc net tacc tnet flo bnd frm too amt pri wai byp ldr bor due plg clo pap (filC (fcnQ (ordL pri mk) wai frm) cnd i) small price cut proc (nI mk) (nI lm) (nI le)) [(0, .ref (ad 0)), (1, .int (nI i))] 2 [] := by
    intro n
    induction n with
    | zero => intros; omega
    | succ n ih_2 =>
      intro i hm_3 hi
      refine z_iload_n C dX4_sendLargestSet_2 rfl 1 rfl ?_
      refine z_iconst C (v := 5) dX4_sendLargestSet_3 (by decide) ?_
      refine z_icmp_ge C (tgt := 28) dX4_sendLargestSet_4 (by decide) (fun c4_4 => ?_) (fun c4_4 => ?_)
      · skip
        have n_5 : 5 ≤ i := (nI_leI (a := 5) (b := i) (by omega) (by omega)).mp c4_4
        refine z_iconst C (v := 0) dX4_sendLargestSet_28 (by decide) ?_
        refine z_istore_n C dX4_sendLargestSet_29 rfl (by decide) [(0, .ref (ad 0)), (1, .int 0)] [1, 0] rfl ?_
        refine z_iconst C (v := 1) dX4_sendLargestSet_30 (by decide) ?_
        refine z_istore_n C dX4_sendLargestSet_31 rfl (by decide) [(0, .ref (ad 0)), (1, .int 0), (2, .int 1)] [1, 2, 0] rfl ?_
        have L32_k_6 : ∀ (n : Nat) (s9 : Nat) (ta tn : Nat → Int32), 32 - s9 < n → (s9 ≤ 32) → (1 ≤ s9) → zW 0 p l e ({ frames := 4, cells := 0, slots := 0, locals := 89 } : Room) s m args below meth c (MQ below (zQi (T := (Nat → Int32) × (Nat → Int32) × (Nat → Int32)) D vwCl (zty cI cZ cL) A (fun r9 u => r9 = (nI ((togF (ordL pri mk) flo bnd frm too amt acc net wai).2.2.2))) (fun u => (wX ad cI cZ ((togF (ordL pri mk) flo bnd frm too amt acc net wai).1) ((togF (ordL pri mk) flo bnd frm too amt acc net wai).2.1) u.2.1 u.2.2 flo bnd frm too amt pri ((togF (ordL pri mk) flo bnd frm too amt acc net wai).2.2.1) byp ldr bor due plg clo pap u.1 small price cut proc (nI mk) (nI lm) (nI le)))) args s 0 0 A) D vwCl A 3 0 0 (wX ad cI cZ acc net ta tn flo bnd frm too amt pri wai byp ldr bor due plg clo pap (filC (fcnQ (ordL pri mk) wai frm) cnd i) small price cut proc (nI mk) (nI lm) (nI le)) [(0, .ref (ad 0)), (1, .int (nI (bestS (okS frm too amt flo bnd (fcnQ (ordL pri mk) wai frm) 5 acc net) s9))), (2, .int (nI s9))] 32 [] := by
          intro n
          induction n with
          | zero => intros; omega
          | succ n ih_7 =>
            intro s9 ta tn hm_8 hs hs1
            have hb9 := bestS_lt1 (okS frm too amt flo bnd (fcnQ (ordL pri mk) wai frm) 5 acc net) s9 hs1
            refine z_iload_n C dX4_sendLargestSet_32 rfl 2 rfl ?_
            refine z_bipush C (v := 32) dX4_sendLargestSet_33 (by decide) ?_
            refine z_icmp_ge C (tgt := 66) dX4_sendLargestSet_35 (by decide) (fun c35_9 => ?_) (fun c35_9 => ?_)
            · skip
              have n_10 : 32 ≤ s9 := (nI_leI (a := 32) (b := s9) (by omega) (by omega)).mp c35_9
              refine z_iconst C (v := 0) dX4_sendLargestSet_66 (by decide) ?_
              refine z_istore_n C dX4_sendLargestSet_67 rfl (by decide) [(0, .ref (ad 0)), (1, .int (nI (bestS (okS frm too amt flo bnd (fcnQ (ordL pri mk) wai frm) 5 acc net) s9))), (2, .int 0)] [1, 2, 0] rfl ?_
              have L68_k_11 : ∀ (n : Nat) (j : Nat), 5 - j < n → (j ≤ 5) → zW 0 p l e ({ frames := 4, cells := 0, slots := 0, locals := 89 } : Room) s m args below meth c (MQ below (zQi (T := (Nat → Int32) × (Nat → Int32) × (Nat → Int32)) D vwCl (zty cI cZ cL) A (fun r9 u => r9 = (nI ((togF (ordL pri mk) flo bnd frm too amt acc net wai).2.2.2))) (fun u => (wX ad cI cZ ((togF (ordL pri mk) flo bnd frm too amt acc net wai).1) ((togF (ordL pri mk) flo bnd frm too amt acc net wai).2.1) u.2.1 u.2.2 flo bnd frm too amt pri ((togF (ordL pri mk) flo bnd frm too amt acc net wai).2.2.1) byp ldr bor due plg clo pap u.1 small price cut proc (nI mk) (nI lm) (nI le)))) args s 0 0 A) D vwCl A 3 0 0 (wX ad cI cZ ((snB frm too amt (fcnQ (ordL pri mk) wai frm) (bestS (okS frm too amt flo bnd (fcnQ (ordL pri mk) wai frm) 5 acc net) s9) acc net wai j).1) ((snB frm too amt (fcnQ (ordL pri mk) wai frm) (bestS (okS frm too amt flo bnd (fcnQ (ordL pri mk) wai frm) 5 acc net) s9) acc net wai j).2.1) ta tn flo bnd frm too amt pri ((snB frm too amt (fcnQ (ordL pri mk) wai frm) (bestS (okS frm too amt flo bnd (fcnQ (ordL pri mk) wai frm) 5 acc net) s9) acc net wai j).2.2) byp ldr bor due plg clo pap (filC (fcnQ (ordL pri mk) wai frm) cnd i) small price cut proc (nI mk) (nI lm) (nI le)) [(0, .ref (ad 0)), (1, .int (nI (bestS (okS frm too amt flo bnd (fcnQ (ordL pri mk) wai frm) 5 acc net) s9))), (2, .int (nI j))] 68 [] := by
                intro n
                induction n with
                | zero => intros; omega
                | succ n ih_12 =>
                  intro j hm_13 hj
                  refine z_iload_n C dX4_sendLargestSet_68 rfl 2 rfl ?_
                  refine z_iconst C (v := 5) dX4_sendLargestSet_69 (by decide) ?_
                  refine z_icmp_ge C (tgt := 97) dX4_sendLargestSet_70 (by decide) (fun c70_14 => ?_) (fun c70_14 => ?_)
                  · skip
                    have n_15 : 5 ≤ j := (nI_leI (a := 5) (b := j) (by omega) (by omega)).mp c70_14
                    refine z_iload_n C dX4_sendLargestSet_97 rfl 1 rfl ?_
                    refine z_callSi C (T := Unit) (As := [.int (nI (bestS (okS frm too amt flo bnd (fcnQ (ordL pri mk) wai frm) 5 acc net) s9))]) (rest := []) (ws' := fun _ => (wX ad cI cZ ((snB frm too amt (fcnQ (ordL pri mk) wai frm) (bestS (okS frm too amt flo bnd (fcnQ (ordL pri mk) wai frm) 5 acc net) s9) acc net wai j).1) ((snB frm too amt (fcnQ (ordL pri mk) wai frm) (bestS (okS frm too amt flo bnd (fcnQ (ordL pri mk) wai frm) 5 acc net) s9) acc net wai j).2.1) ta tn flo bnd frm too amt pri ((snB frm too amt (fcnQ (ordL pri mk) wai frm) (bestS (okS frm too amt flo bnd (fcnQ (ordL pri mk) wai frm) 5 acc net) s9) acc net wai j).2.2) byp ldr bor due plg clo pap (filC (fcnQ (ordL pri mk) wai frm) cnd i) small price cut proc (nI mk) (nI lm) (nI le))) (c_bitCount l sa D cI cZ cL  (bestS (okS frm too amt flo bnd (fcnQ (ordL pri mk) wai frm) 5 acc net) s9) (by first | assumption | omega)) (va_cwS 1 C.2.2.2.2.1 gX4_sendLargestSet_J6_bitCount_0f7a4 rfl rfl rfl (by decide +kernel) ⟨Nat.le_of_ble_eq_true rfl, Nat.le_of_ble_eq_true rfl⟩) (fun _ => zSub.none) zIn.none rfl (Nat.le_of_ble_eq_true rfl) ⟨Nat.le_of_ble_eq_true rfl, Nat.le_of_ble_eq_true rfl⟩ dX4_sendLargestSet_98 (fun r_16 _ h_17 => ?_)
                    obtain rfl : r_16 = (nI (pc5 (bestS (okS frm too amt flo bnd (fcnQ (ordL pri mk) wai frm) 5 acc net) s9))) := h_17
                    exact z_iret C ((filC (fcnQ (ordL pri mk) wai frm) cnd i), ta, tn) (by obtain rfl : s9 = 32 := (by omega); rfl) (by obtain rfl : s9 = 32 := (by omega); obtain rfl : j = 5 := (by omega); rfl) (by decide) (by decide) dX4_sendLargestSet_101
                  · skip
                    have n_18 : ¬ 5 ≤ j := fun q => c70_14 ((nI_leI (a := 5) (b := j) (by omega) (by omega)).mpr q)
                    refine z_iload_n C dX4_sendLargestSet_73 rfl 1 rfl ?_
                    refine z_iload_n C dX4_sendLargestSet_74 rfl 2 rfl ?_
                    refine z_case ((bestS (okS frm too amt flo bnd (fcnQ (ordL pri mk) wai frm) 5 acc net) s9).testBit j = true) (fun hp_19 => ?_) (fun hp_19 => ?_)
                    · skip
                      refine z_callSi C (T := Unit) (As := [.int (nI (bestS (okS frm too amt flo bnd (fcnQ (ordL pri mk) wai frm) 5 acc net) s9)), .int (nI j)]) (rest := []) (ws' := fun _ => (wX ad cI cZ ((snB frm too amt (fcnQ (ordL pri mk) wai frm) (bestS (okS frm too amt flo bnd (fcnQ (ordL pri mk) wai frm) 5 acc net) s9) acc net wai j).1) ((snB frm too amt (fcnQ (ordL pri mk) wai frm) (bestS (okS frm too amt flo bnd (fcnQ (ordL pri mk) wai frm) 5 acc net) s9) acc net wai j).2.1) ta tn flo bnd frm too amt pri ((snB frm too amt (fcnQ (ordL pri mk) wai frm) (bestS (okS frm too amt flo bnd (fcnQ (ordL pri mk) wai frm) 5 acc net) s9) acc net wai j).2.2) byp ldr bor due plg clo pap (filC (fcnQ (ordL pri mk) wai frm) cnd i) small price cut proc (nI mk) (nI lm) (nI le))) (c_X4_isIn l sa D cI cZ cL  (bestS (okS frm too amt flo bnd (fcnQ (ordL pri mk) wai frm) 5 acc net) s9) j (by first | assumption | omega) (by first | assumption | omega)) (va_cwS 2 C.2.2.2.2.1 gX4_sendLargestSet_X4_isIn rfl rfl rfl (by decide +kernel) ⟨Nat.le_of_ble_eq_true rfl, Nat.le_of_ble_eq_true rfl⟩) (fun _ => zSub.none) zIn.none rfl (Nat.le_of_ble_eq_true rfl) ⟨Nat.le_of_ble_eq_true rfl, Nat.le_of_ble_eq_true rfl⟩ dX4_sendLargestSet_75 (fun r_20 _ h_21 => ?_)
                      obtain rfl : r_20 = 1 := h_21.trans (if_pos hp_19)
                      refine z_if_eq C (tgt := 91) dX4_sendLargestSet_78 (by decide) (fun h => absurd h (by decide)) (fun _ => ?_)
                      refine z_aload_n C dX4_sendLargestSet_81 rfl 0 rfl ?_
                      refine z_aload_n C dX4_sendLargestSet_82 rfl 0 rfl ?_
                      refine z_get C 0 rfl i_X4_sendLargestSet_X4 rfl 7 (by decide) m_X4_sendLargestSet_f48 rfl rfl dX4_sendLargestSet_83 ?_
                      refine z_iload_n C dX4_sendLargestSet_86 rfl 2 rfl ?_
                      rcases hq_22 : fcnQ (ordL pri mk) wai frm j with _ | p_23
                      · skip
                        exact absurd hq_22 (best_some (by omega) (by assumption))
                      · skip
                        have := fcnQ_lt _ _ hq_22
                        refine z_iald C 24 0 rfl rfl j (nI_clamp (by omega)) (vp_in_nI (by omega) (by omega)) (nI p_23) ((filC_at (by omega)).trans (by rw [hq_22]; rfl)) dX4_sendLargestSet_87 ?_
                        refine z_callVv C (T := Unit) (As := [.int (nI p_23)]) (rest := []) (ws' := fun _ => (wX ad cI cZ (mvA (ix (frm p_23)) (ix (too p_23)) (amt p_23) ((snB frm too amt (fcnQ (ordL pri mk) wai frm) (bestS (okS frm too amt flo bnd (fcnQ (ordL pri mk) wai frm) 5 acc net) s9) acc net wai j).1)) (mvN (ix (frm p_23)) (ix (too p_23)) (amt p_23) ((snB frm too amt (fcnQ (ordL pri mk) wai frm) (bestS (okS frm too amt flo bnd (fcnQ (ordL pri mk) wai frm) 5 acc net) s9) acc net wai j).2.1)) ta tn flo bnd frm too amt pri (upd ((snB frm too amt (fcnQ (ordL pri mk) wai frm) (bestS (okS frm too amt flo bnd (fcnQ (ordL pri mk) wai frm) 5 acc net) s9) acc net wai j).2.2) p_23 0) byp ldr bor due plg clo pap (filC (fcnQ (ordL pri mk) wai frm) cnd i) small price cut proc (nI mk) (nI lm) (nI le))) (c_X4_send l sa D cI cZ cL ad ((snB frm too amt (fcnQ (ordL pri mk) wai frm) (bestS (okS frm too amt flo bnd (fcnQ (ordL pri mk) wai frm) 5 acc net) s9) acc net wai j).1) ((snB frm too amt (fcnQ (ordL pri mk) wai frm) (bestS (okS frm too amt flo bnd (fcnQ (ordL pri mk) wai frm) 5 acc net) s9) acc net wai j).2.1) ta tn flo bnd frm too amt pri ((snB frm too amt (fcnQ (ordL pri mk) wai frm) (bestS (okS frm too amt flo bnd (fcnQ (ordL pri mk) wai frm) 5 acc net) s9) acc net wai j).2.2) byp ldr bor due plg clo pap (filC (fcnQ (ordL pri mk) wai frm) cnd i) small price cut proc mk lm le p_23 (by first | assumption | omega) (by first | assumption | omega) (by first | assumption | omega) (by first | assumption | omega)) (cwV 1 C.2.2.2.2.1 gX4_sendLargestSet_X4_send rfl rfl rfl (by decide +kernel) ⟨Nat.le_of_ble_eq_true rfl, Nat.le_of_ble_eq_true rfl⟩) 0 rfl rfl rfl (fun _ => zSub.full) zIn.full rfl (Nat.le_of_ble_eq_true rfl) ⟨Nat.le_of_ble_eq_true rfl, Nat.le_of_ble_eq_true rfl⟩ dX4_sendLargestSet_88 (fun _ _ => ?_)
                        refine z_iinc C (v := (nI (j + 1))) dX4_sendLargestSet_91 2 rfl (nI_add j 1) (by decide) [(0, .ref (ad 0)), (1, .int (nI (bestS (okS frm too amt flo bnd (fcnQ (ordL pri mk) wai frm) 5 acc net) s9))), (2, .int (nI (j + 1)))] [1, 2, 0] rfl ?_
                        refine z_goto C (tgt := 68) dX4_sendLargestSet_94 (by decide) ?_
                        refine z_ws (wX ad cI cZ ((snB frm too amt (fcnQ (ordL pri mk) wai frm) (bestS (okS frm too amt flo bnd (fcnQ (ordL pri mk) wai frm) 5 acc net) s9) acc net wai (j + 1)).1) ((snB frm too amt (fcnQ (ordL pri mk) wai frm) (bestS (okS frm too amt flo bnd (fcnQ (ordL pri mk) wai frm) 5 acc net) s9) acc net wai (j + 1)).2.1) ta tn flo bnd frm too amt pri ((snB frm too amt (fcnQ (ordL pri mk) wai frm) (bestS (okS frm too amt flo bnd (fcnQ (ordL pri mk) wai frm) 5 acc net) s9) acc net wai (j + 1)).2.2) byp ldr bor due plg clo pap (filC (fcnQ (ordL pri mk) wai frm) cnd i) small price cut proc (nI mk) (nI lm) (nI le)) (by simp only [snB, c4_4, n_5, c35_9, n_10, c70_14, n_18, hp_19, hq_22, if_true, if_false]; try rfl) ?_
                        exact ih_12 (j + 1) (by omega) (by first | assumption | omega)
                    · skip
                      refine z_callSi C (T := Unit) (As := [.int (nI (bestS (okS frm too amt flo bnd (fcnQ (ordL pri mk) wai frm) 5 acc net) s9)), .int (nI j)]) (rest := []) (ws' := fun _ => (wX ad cI cZ ((snB frm too amt (fcnQ (ordL pri mk) wai frm) (bestS (okS frm too amt flo bnd (fcnQ (ordL pri mk) wai frm) 5 acc net) s9) acc net wai j).1) ((snB frm too amt (fcnQ (ordL pri mk) wai frm) (bestS (okS frm too amt flo bnd (fcnQ (ordL pri mk) wai frm) 5 acc net) s9) acc net wai j).2.1) ta tn flo bnd frm too amt pri ((snB frm too amt (fcnQ (ordL pri mk) wai frm) (bestS (okS frm too amt flo bnd (fcnQ (ordL pri mk) wai frm) 5 acc net) s9) acc net wai j).2.2) byp ldr bor due plg clo pap (filC (fcnQ (ordL pri mk) wai frm) cnd i) small price cut proc (nI mk) (nI lm) (nI le))) (c_X4_isIn l sa D cI cZ cL  (bestS (okS frm too amt flo bnd (fcnQ (ordL pri mk) wai frm) 5 acc net) s9) j (by first | assumption | omega) (by first | assumption | omega)) (va_cwS 2 C.2.2.2.2.1 gX4_sendLargestSet_X4_isIn rfl rfl rfl (by decide +kernel) ⟨Nat.le_of_ble_eq_true rfl, Nat.le_of_ble_eq_true rfl⟩) (fun _ => zSub.none) zIn.none rfl (Nat.le_of_ble_eq_true rfl) ⟨Nat.le_of_ble_eq_true rfl, Nat.le_of_ble_eq_true rfl⟩ dX4_sendLargestSet_75 (fun r_24 _ h_25 => ?_)
                      obtain rfl : r_24 = 0 := h_25.trans (if_neg hp_19)
                      refine z_if_eq C (tgt := 91) dX4_sendLargestSet_78 (by decide) (fun _ => ?_) (fun h => absurd h (by decide))
                      refine z_iinc C (v := (nI (j + 1))) dX4_sendLargestSet_91 2 rfl (nI_add j 1) (by decide) [(0, .ref (ad 0)), (1, .int (nI (bestS (okS frm too amt flo bnd (fcnQ (ordL pri mk) wai frm) 5 acc net) s9))), (2, .int (nI (j + 1)))] [1, 2, 0] rfl ?_
                      refine z_goto C (tgt := 68) dX4_sendLargestSet_94 (by decide) ?_
                      refine z_ws (wX ad cI cZ ((snB frm too amt (fcnQ (ordL pri mk) wai frm) (bestS (okS frm too amt flo bnd (fcnQ (ordL pri mk) wai frm) 5 acc net) s9) acc net wai (j + 1)).1) ((snB frm too amt (fcnQ (ordL pri mk) wai frm) (bestS (okS frm too amt flo bnd (fcnQ (ordL pri mk) wai frm) 5 acc net) s9) acc net wai (j + 1)).2.1) ta tn flo bnd frm too amt pri ((snB frm too amt (fcnQ (ordL pri mk) wai frm) (bestS (okS frm too amt flo bnd (fcnQ (ordL pri mk) wai frm) 5 acc net) s9) acc net wai (j + 1)).2.2) byp ldr bor due plg clo pap (filC (fcnQ (ordL pri mk) wai frm) cnd i) small price cut proc (nI mk) (nI lm) (nI le)) (by simp only [snB, c4_4, n_5, c35_9, n_10, c70_14, n_18, hp_19, if_true, if_false]; try rfl) ?_
                      exact ih_12 (j + 1) (by omega) (by first | assumption | omega)
              refine z_ws (wX ad cI cZ ((snB frm too amt (fcnQ (ordL pri mk) wai frm) (bestS (okS frm too amt flo bnd (fcnQ (ordL pri mk) wai frm) 5 acc net) s9) acc net wai 0).1) ((snB frm too amt (fcnQ (ordL pri mk) wai frm) (bestS (okS frm too amt flo bnd (fcnQ (ordL pri mk) wai frm) 5 acc net) s9) acc net wai 0).2.1) ta tn flo bnd frm too amt pri ((snB frm too amt (fcnQ (ordL pri mk) wai frm) (bestS (okS frm too amt flo bnd (fcnQ (ordL pri mk) wai frm) 5 acc net) s9) acc net wai 0).2.2) byp ldr bor due plg clo pap (filC (fcnQ (ordL pri mk) wai frm) cnd i) small price cut proc (nI mk) (nI lm) (nI le)) (by rfl) ?_
              refine z_lveq [(0, .ref (ad 0)), (1, .int (nI (bestS (okS frm too amt flo bnd (fcnQ (ordL pri mk) wai frm) 5 acc net) s9))), (2, .int (nI 0))] (by rfl) ?_
              exact L68_k_11 (5 - 0 + 1) 0 (Nat.lt_succ_self _) (by first | assumption | omega)
            · skip
              have n_26 : ¬ 32 ≤ s9 := fun q => c35_9 ((nI_leI (a := 32) (b := s9) (by omega) (by omega)).mpr q)
              refine z_iload_n C dX4_sendLargestSet_38 rfl 2 rfl ?_
              refine z_callSi C (T := Unit) (As := [.int (nI s9)]) (rest := []) (ws' := fun _ => (wX ad cI cZ acc net ta tn flo bnd frm too amt pri wai byp ldr bor due plg clo pap (filC (fcnQ (ordL pri mk) wai frm) cnd i) small price cut proc (nI mk) (nI lm) (nI le))) (c_bitCount l sa D cI cZ cL  s9 (by first | assumption | omega)) (va_cwS 1 C.2.2.2.2.1 gX4_sendLargestSet_J6_bitCount_0f7a4 rfl rfl rfl (by decide +kernel) ⟨Nat.le_of_ble_eq_true rfl, Nat.le_of_ble_eq_true rfl⟩) (fun _ => zSub.none) zIn.none rfl (Nat.le_of_ble_eq_true rfl) ⟨Nat.le_of_ble_eq_true rfl, Nat.le_of_ble_eq_true rfl⟩ dX4_sendLargestSet_39 (fun r_27 _ h_28 => ?_)
              obtain rfl : r_27 = (nI (pc5 s9)) := h_28
              have := pc5_le s9
              refine z_iload_n C dX4_sendLargestSet_42 rfl 1 rfl ?_
              refine z_callSi C (T := Unit) (As := [.int (nI (bestS (okS frm too amt flo bnd (fcnQ (ordL pri mk) wai frm) 5 acc net) s9))]) (rest := [.int (nI (pc5 s9))]) (ws' := fun _ => (wX ad cI cZ acc net ta tn flo bnd frm too amt pri wai byp ldr bor due plg clo pap (filC (fcnQ (ordL pri mk) wai frm) cnd i) small price cut proc (nI mk) (nI lm) (nI le))) (c_bitCount l sa D cI cZ cL  (bestS (okS frm too amt flo bnd (fcnQ (ordL pri mk) wai frm) 5 acc net) s9) (by first | assumption | omega)) (va_cwS 1 C.2.2.2.2.1 gX4_sendLargestSet_J6_bitCount_0f7a4 rfl rfl rfl (by decide +kernel) ⟨Nat.le_of_ble_eq_true rfl, Nat.le_of_ble_eq_true rfl⟩) (fun _ => zSub.none) zIn.none rfl (Nat.le_of_ble_eq_true rfl) ⟨Nat.le_of_ble_eq_true rfl, Nat.le_of_ble_eq_true rfl⟩ dX4_sendLargestSet_43 (fun r_29 _ h_30 => ?_)
              obtain rfl : r_29 = (nI (pc5 (bestS (okS frm too amt flo bnd (fcnQ (ordL pri mk) wai frm) 5 acc net) s9))) := h_30
              have := pc5_le (bestS (okS frm too amt flo bnd (fcnQ (ordL pri mk) wai frm) 5 acc net) s9)
              refine z_icmp_le C (tgt := 60) dX4_sendLargestSet_46 (by decide) (fun c46_31 => ?_) (fun c46_31 => ?_)
              · skip
                have n_32 : (pc5 s9) ≤ (pc5 (bestS (okS frm too amt flo bnd (fcnQ (ordL pri mk) wai frm) 5 acc net) s9)) := (nI_leI (a := pc5 s9) (b := pc5 (bestS (okS frm too amt flo bnd (fcnQ (ordL pri mk) wai frm) 5 acc net) s9)) (by omega) (by omega)).mp c46_31
                refine z_iinc C (v := (nI (s9 + 1))) dX4_sendLargestSet_60 2 rfl (nI_add s9 1) (by decide) [(0, .ref (ad 0)), (1, .int (nI (bestS (okS frm too amt flo bnd (fcnQ (ordL pri mk) wai frm) 5 acc net) s9))), (2, .int (nI (s9 + 1)))] [1, 2, 0] rfl ?_
                refine z_goto C (tgt := 32) dX4_sendLargestSet_63 (by decide) ?_
                refine z_lveq [(0, .ref (ad 0)), (1, .int (nI (bestS (okS frm too amt flo bnd (fcnQ (ordL pri mk) wai frm) 5 acc net) (s9 + 1)))), (2, .int (nI (s9 + 1)))] (by first | rw [bestS_y (by assumption) (by assumption)] | rw [bestS_n1 (by assumption)] | rw [bestS_n2 (by assumption)]) ?_
                exact ih_7 (s9 + 1) ta tn (by omega) (by first | assumption | omega) (by first | assumption | omega)
              · skip
                have n_33 : ¬ (pc5 s9) ≤ (pc5 (bestS (okS frm too amt flo bnd (fcnQ (ordL pri mk) wai frm) 5 acc net) s9)) := fun q => c46_31 ((nI_leI (a := pc5 s9) (b := pc5 (bestS (okS frm too amt flo bnd (fcnQ (ordL pri mk) wai frm) 5 acc net) s9)) (by omega) (by omega)).mpr q)
                refine z_aload_n C dX4_sendLargestSet_49 rfl 0 rfl ?_
                refine z_iload_n C dX4_sendLargestSet_50 rfl 2 rfl ?_
                refine z_iconst C (v := 5) dX4_sendLargestSet_51 (by decide) ?_
                refine z_case (okS frm too amt flo bnd (fcnQ (ordL pri mk) wai frm) 5 acc net s9 = true) (fun hp_34 => ?_) (fun hp_34 => ?_)
                · skip
                  refine z_callVi C (As := [.int (nI s9), .int 5]) (rest := []) (ws' := fun u_35 => (wX ad cI cZ acc net u_35.1 u_35.2 flo bnd frm too amt pri wai byp ldr bor due plg clo pap (filC (fcnQ (ordL pri mk) wai frm) cnd i) small price cut proc (nI mk) (nI lm) (nI le))) (c_X4_canGoTogether l sa D cI cZ cL ad acc net ta tn flo bnd frm too amt pri wai byp ldr bor due plg clo pap (filC (fcnQ (ordL pri mk) wai frm) cnd i) small price cut proc mk lm le s9 5 (fcnQ (ordL pri mk) wai frm) (by first | assumption | omega) (by first | assumption | omega) (by intro k hk; exact filC_at (by omega)) (by exact fcnQ_lt) (by first | assumption | omega) (by first | assumption | omega) (by first | assumption | omega)) (cwV 2 C.2.2.2.2.1 gX4_sendLargestSet_X4_canGoTogether rfl rfl rfl (by decide +kernel) ⟨Nat.le_of_ble_eq_true rfl, Nat.le_of_ble_eq_true rfl⟩) 0 rfl rfl rfl (fun _ => zSub.full) zIn.full rfl (Nat.le_of_ble_eq_true rfl) ⟨Nat.le_of_ble_eq_true rfl, Nat.le_of_ble_eq_true rfl⟩ dX4_sendLargestSet_52 (fun r_36 u_35 h_37 => ?_)
                  obtain rfl : r_36 = 1 := h_37.trans (if_pos hp_34)
                  refine z_if_eq C (tgt := 60) dX4_sendLargestSet_55 (by decide) (fun h => absurd h (by decide)) (fun _ => ?_)
                  refine z_iload_n C dX4_sendLargestSet_58 rfl 2 rfl ?_
                  refine z_istore_n C dX4_sendLargestSet_59 rfl (by decide) [(0, .ref (ad 0)), (1, .int (nI s9)), (2, .int (nI s9))] [1, 0, 2] rfl ?_
                  refine z_iinc C (v := (nI (s9 + 1))) dX4_sendLargestSet_60 2 rfl (nI_add s9 1) (by decide) [(0, .ref (ad 0)), (1, .int (nI s9)), (2, .int (nI (s9 + 1)))] [1, 2, 0] rfl ?_
                  refine z_goto C (tgt := 32) dX4_sendLargestSet_63 (by decide) ?_
                  refine z_lveq [(0, .ref (ad 0)), (1, .int (nI (bestS (okS frm too amt flo bnd (fcnQ (ordL pri mk) wai frm) 5 acc net) (s9 + 1)))), (2, .int (nI (s9 + 1)))] (by first | rw [bestS_y (by assumption) (by assumption)] | rw [bestS_n1 (by assumption)] | rw [bestS_n2 (by assumption)]) ?_
                  exact ih_7 (s9 + 1) u_35.1 u_35.2 (by omega) (by first | assumption | omega) (by first | assumption | omega)
                · skip
                  refine z_callVi C (As := [.int (nI s9), .int 5]) (rest := []) (ws' := fun u_38 => (wX ad cI cZ acc net u_38.1 u_38.2 flo bnd frm too amt pri wai byp ldr bor due plg clo pap (filC (fcnQ (ordL pri mk) wai frm) cnd i) small price cut proc (nI mk) (nI lm) (nI le))) (c_X4_canGoTogether l sa D cI cZ cL ad acc net ta tn flo bnd frm too amt pri wai byp ldr bor due plg clo pap (filC (fcnQ (ordL pri mk) wai frm) cnd i) small price cut proc mk lm le s9 5 (fcnQ (ordL pri mk) wai frm) (by first | assumption | omega) (by first | assumption | omega) (by intro k hk; exact filC_at (by omega)) (by exact fcnQ_lt) (by first | assumption | omega) (by first | assumption | omega) (by first | assumption | omega)) (cwV 2 C.2.2.2.2.1 gX4_sendLargestSet_X4_canGoTogether rfl rfl rfl (by decide +kernel) ⟨Nat.le_of_ble_eq_true rfl, Nat.le_of_ble_eq_true rfl⟩) 0 rfl rfl rfl (fun _ => zSub.full) zIn.full rfl (Nat.le_of_ble_eq_true rfl) ⟨Nat.le_of_ble_eq_true rfl, Nat.le_of_ble_eq_true rfl⟩ dX4_sendLargestSet_52 (fun r_39 u_38 h_40 => ?_)
                  obtain rfl : r_39 = 0 := h_40.trans (if_neg hp_34)
                  refine z_if_eq C (tgt := 60) dX4_sendLargestSet_55 (by decide) (fun _ => ?_) (fun h => absurd h (by decide))
                  refine z_iinc C (v := (nI (s9 + 1))) dX4_sendLargestSet_60 2 rfl (nI_add s9 1) (by decide) [(0, .ref (ad 0)), (1, .int (nI (bestS (okS frm too amt flo bnd (fcnQ (ordL pri mk) wai frm) 5 acc net) s9))), (2, .int (nI (s9 + 1)))] [1, 2, 0] rfl ?_
                  refine z_goto C (tgt := 32) dX4_sendLargestSet_63 (by decide) ?_
                  refine z_lveq [(0, .ref (ad 0)), (1, .int (nI (bestS (okS frm too amt flo bnd (fcnQ (ordL pri mk) wai frm) 5 acc net) (s9 + 1)))), (2, .int (nI (s9 + 1)))] (by first | rw [bestS_y (by assumption) (by assumption)] | rw [bestS_n1 (by assumption)] | rw [bestS_n2 (by assumption)]) ?_
                  exact ih_7 (s9 + 1) u_38.1 u_38.2 (by omega) (by first | assumption | omega) (by first | assumption | omega)
        refine z_lveq [(0, .ref (ad 0)), (1, .int (nI (bestS (okS frm too amt flo bnd (fcnQ (ordL pri mk) wai frm) 5 acc net) 1))), (2, .int (nI 1))] (by rw [bestS_1]; rfl) ?_
        exact L32_k_6 (32 - 1 + 1) 1 tacc tnet (Nat.lt_succ_self _) (by first | assumption | omega) (by first | assumption | omega)
      · skip
        have n_41 : ¬ 5 ≤ i := fun q => c4_4 ((nI_leI (a := 5) (b := i) (by omega) (by omega)).mpr q)
        refine z_aload_n C dX4_sendLargestSet_7 rfl 0 rfl ?_
        refine z_get C 0 rfl i_X4_sendLargestSet_X4 rfl 7 (by decide) m_X4_sendLargestSet_f48 rfl rfl dX4_sendLargestSet_8 ?_
        refine z_iload_n C dX4_sendLargestSet_11 rfl 1 rfl ?_
        refine z_aload_n C dX4_sendLargestSet_12 rfl 0 rfl ?_
        refine z_get C 0 rfl i_X4_sendLargestSet_X4 rfl 3 (by decide) m_X4_sendLargestSet_f29 rfl rfl dX4_sendLargestSet_13 ?_
        refine z_iload_n C dX4_sendLargestSet_16 rfl 1 rfl ?_
        refine z_iconst C (v := 0) dX4_sendLargestSet_17 (by decide) ?_
        rcases hq_42 : atQ (ordL pri mk) (isq wai frm i) 0 with _ | p_43
        · skip
          refine z_callVi C (T := Unit) (As := [.int (nI i), .int 0]) (rest := [.int (nI i), .ref (ad 24)]) (ws' := fun _ => (wX ad cI cZ acc net tacc tnet flo bnd frm too amt pri wai byp ldr bor due plg clo pap (filC (fcnQ (ordL pri mk) wai frm) cnd i) small price cut proc (nI mk) (nI lm) (nI le))) (c_X2_inQueue l sa D cI cZ cL ad acc net tacc tnet flo bnd frm too amt pri wai byp ldr bor due plg clo pap (filC (fcnQ (ordL pri mk) wai frm) cnd i) small price cut proc mk lm le i 0 (by first | assumption | omega) (by first | assumption | omega) (by first | assumption | omega) (by first | assumption | omega) (by first | assumption | omega) (by first | assumption | omega)) (cwV 2 C.2.2.2.2.1 gX4_sendLargestSet_X2_inQueue rfl rfl rfl (by decide +kernel) ⟨Nat.le_of_ble_eq_true rfl, Nat.le_of_ble_eq_true rfl⟩) 4 rfl rfl rfl (fun _ => zSub.full) zIn.full rfl (Nat.le_of_ble_eq_true rfl) ⟨Nat.le_of_ble_eq_true rfl, Nat.le_of_ble_eq_true rfl⟩ dX4_sendLargestSet_18 (fun r_44 _ h_45 => ?_)
          obtain rfl : r_44 = (-1) := h_45.trans (by rw [hq_42]; rfl)
          refine z_iast C 24 0 rfl rfl i (nI_clamp (by omega)) (vp_in_nI (by omega) (by omega)) (-1) rfl dX4_sendLargestSet_21 (wX ad cI cZ acc net tacc tnet flo bnd frm too amt pri wai byp ldr bor due plg clo pap (upd (filC (fcnQ (ordL pri mk) wai frm) cnd i) i (-1)) small price cut proc (nI mk) (nI lm) (nI le)) rfl ?_
          refine z_iinc C (v := (nI (i + 1))) dX4_sendLargestSet_22 1 rfl (nI_add i 1) (by decide) [(0, .ref (ad 0)), (1, .int (nI (i + 1)))] [1, 0] rfl ?_
          refine z_goto C (tgt := 2) dX4_sendLargestSet_25 (by decide) ?_
          refine z_ws (wX ad cI cZ acc net tacc tnet flo bnd frm too amt pri wai byp ldr bor due plg clo pap (filC (fcnQ (ordL pri mk) wai frm) cnd (i + 1)) small price cut proc (nI mk) (nI lm) (nI le)) (by rw [filC_s (show oI ((fcnQ (ordL pri mk) wai frm) i) = _ by unfold fcnQ; rw [hq_42]; rfl)]) ?_
          exact ih_2 (i + 1) (by omega) (by first | assumption | omega)
        · skip
          have hm_p_43 := atQ_mem hq_42
          have := ordL_mem hm_p_43.1
          refine z_callVi C (T := Unit) (As := [.int (nI i), .int 0]) (rest := [.int (nI i), .ref (ad 24)]) (ws' := fun _ => (wX ad cI cZ acc net tacc tnet flo bnd frm too amt pri wai byp ldr bor due plg clo pap (filC (fcnQ (ordL pri mk) wai frm) cnd i) small price cut proc (nI mk) (nI lm) (nI le))) (c_X2_inQueue l sa D cI cZ cL ad acc net tacc tnet flo bnd frm too amt pri wai byp ldr bor due plg clo pap (filC (fcnQ (ordL pri mk) wai frm) cnd i) small price cut proc mk lm le i 0 (by first | assumption | omega) (by first | assumption | omega) (by first | assumption | omega) (by first | assumption | omega) (by first | assumption | omega) (by first | assumption | omega)) (cwV 2 C.2.2.2.2.1 gX4_sendLargestSet_X2_inQueue rfl rfl rfl (by decide +kernel) ⟨Nat.le_of_ble_eq_true rfl, Nat.le_of_ble_eq_true rfl⟩) 4 rfl rfl rfl (fun _ => zSub.full) zIn.full rfl (Nat.le_of_ble_eq_true rfl) ⟨Nat.le_of_ble_eq_true rfl, Nat.le_of_ble_eq_true rfl⟩ dX4_sendLargestSet_18 (fun r_46 _ h_47 => ?_)
          obtain rfl : r_46 = (nI p_43) := h_47.trans (by rw [hq_42]; rfl)
          refine z_iast C 24 0 rfl rfl i (nI_clamp (by omega)) (vp_in_nI (by omega) (by omega)) (nI p_43) rfl dX4_sendLargestSet_21 (wX ad cI cZ acc net tacc tnet flo bnd frm too amt pri wai byp ldr bor due plg clo pap (upd (filC (fcnQ (ordL pri mk) wai frm) cnd i) i (nI p_43)) small price cut proc (nI mk) (nI lm) (nI le)) rfl ?_
          refine z_iinc C (v := (nI (i + 1))) dX4_sendLargestSet_22 1 rfl (nI_add i 1) (by decide) [(0, .ref (ad 0)), (1, .int (nI (i + 1)))] [1, 0] rfl ?_
          refine z_goto C (tgt := 2) dX4_sendLargestSet_25 (by decide) ?_
          refine z_ws (wX ad cI cZ acc net tacc tnet flo bnd frm too amt pri wai byp ldr bor due plg clo pap (filC (fcnQ (ordL pri mk) wai frm) cnd (i + 1)) small price cut proc (nI mk) (nI lm) (nI le)) (by rw [filC_s (show oI ((fcnQ (ordL pri mk) wai frm) i) = _ by unfold fcnQ; rw [hq_42]; rfl)]) ?_
          exact ih_2 (i + 1) (by omega) (by first | assumption | omega)
  refine z_ws (wX ad cI cZ acc net tacc tnet flo bnd frm too amt pri wai byp ldr bor due plg clo pap (filC (fcnQ (ordL pri mk) wai frm) cnd 0) small price cut proc (nI mk) (nI lm) (nI le)) (by rw [filC_0]) ?_
  refine z_lveq [(0, .ref (ad 0)), (1, .int (nI 0))] (by rfl) ?_
  exact L2_k_1 (5 - 0 + 1) 0 (Nat.lt_succ_self _) (by first | assumption | omega)
set_option maxHeartbeats 4000000 in
set_option maxRecDepth 100000 in
theorem c_X4_run (l : Launch) (sa : Nat → Nat) (D : va_G) (cI cZ cL : ClassId) (ad : Nat → Nat) (acc net tacc tnet flo bnd frm too amt pri wai byp ldr bor due plg clo pap cnd : Nat → Int32) (small price cut proc : Int32) (mk lm le : Nat)  (hmk : mk ≤ 60) (hfrm : wf5 mk frm) (htoo : wf5 mk too) (hbyp : bypOK byp pri mk) : zMi (T := (Nat → Int32) × (Nat → Int32) × (Nat → Int32)) sa D vwCl (zty cI cZ cL) l yX4_run wsX4_run ({ frames := 5, cells := 0, slots := 0, locals := 113 } : Room) [.ref (ad 0)] (wX ad cI cZ acc net tacc tnet flo bnd frm too amt pri wai byp ldr bor due plg clo pap cnd small price cut proc (nI mk) (nI lm) (nI le)) (fun r9 u => r9 = ((runF (ordL pri mk) flo bnd frm too amt small 61 acc net wai 0).2.2.2)) (fun u => (wX ad cI cZ ((runF (ordL pri mk) flo bnd frm too amt small 61 acc net wai 0).1) ((runF (ordL pri mk) flo bnd frm too amt small 61 acc net wai 0).2.1) u.2.1 u.2.2 flo bnd frm too amt pri ((runF (ordL pri mk) flo bnd frm too amt small 61 acc net wai 0).2.2.1) byp ldr bor due plg clo pap u.1 small price cut proc (nI mk) (nI lm) (nI le))) 0 0 := by
  refine zMi.of (ret := (some .int)) (cc := cX4_run) (nL := 4) (own := RX4) (by decide +kernel) rfl [(0, .ref (ad 0))] rfl (Nat.le_of_ble_eq_true rfl) rfl ?_
  intro A p e s m args below meth c C hmn
  refine z_iconst C (v := 0) dX4_run_0 (by decide) ?_
  refine z_istore_n C dX4_run_1 rfl (by decide) [(0, .ref (ad 0)), (1, .int 0)] [1, 0] rfl ?_
  refine z_iconst C (v := 0) dX4_run_2 (by decide) ?_
  refine z_istore_n C dX4_run_3 rfl (by decide) [(0, .ref (ad 0)), (1, .int 0), (2, .int 0)] [1, 2, 0] rfl ?_
  have L4_k_1 : ∀ (n : Nat) (i : Nat) (g9 : Int32) (a9 n9 w9 c9 ta tn : Nat → Int32), 61 - i < n → (i ≤ 61) → (runF (ordL pri mk) flo bnd frm too amt small (61 - i) a9 n9 w9 g9 = (runF (ordL pri mk) flo bnd frm too amt small 61 acc net wai 0)) → zW 0 p l e ({ frames := 5, cells := 0, slots := 0, locals := 113 } : Room) s m args below meth c (MQ below (zQi (T := (Nat → Int32) × (Nat → Int32) × (Nat → Int32)) D vwCl (zty cI cZ cL) A (fun r9 u => r9 = ((runF (ordL pri mk) flo bnd frm too amt small 61 acc net wai 0).2.2.2)) (fun u => (wX ad cI cZ ((runF (ordL pri mk) flo bnd frm too amt small 61 acc net wai 0).1) ((runF (ordL pri mk) flo bnd frm too amt small 61 acc net wai 0).2.1) u.2.1 u.2.2 flo bnd frm too amt pri ((runF (ordL pri mk) flo bnd frm too amt small 61 acc net wai 0).2.2.1) byp ldr bor due plg clo pap u.1 small price cut proc (nI mk) (nI lm) (nI le)))) args s 0 0 A) D vwCl A 4 0 0 (wX ad cI cZ a9 n9 ta tn flo bnd frm too amt pri w9 byp ldr bor due plg clo pap c9 small price cut proc (nI mk) (nI lm) (nI le)) [(0, .ref (ad 0)), (1, .int g9), (2, .int (nI i))] 4 [] := by
    intro n
    induction n with
    | zero => intros; omega
    | succ n ih_2 =>
      intro i g9 a9 n9 w9 c9 ta tn hm_3 hi hR
      refine z_iload_n C dX4_run_4 rfl 2 rfl ?_
      refine z_bipush C (v := 60) dX4_run_5 (by decide) ?_
      refine z_icmp_gt C (tgt := 40) dX4_run_7 (by decide) (fun c7_4 => ?_) (fun c7_4 => ?_)
      · skip
        have n_5 : 60 < i := (nI_ltI (a := 60) (b := i) (by omega) (by omega)).mp c7_4
        refine z_iload_n C dX4_run_40 rfl 1 rfl ?_
        exact z_iret C (c9, ta, tn) (by rw [← hR, show 61 - i = 0 by omega]; rfl) (by rw [← hR, show 61 - i = 0 by omega]; rfl) (by decide) (by decide) dX4_run_41
      · skip
        have n_6 : ¬ 60 < i := fun q => c7_4 ((nI_ltI (a := 60) (b := i) (by omega) (by omega)).mpr q)
        refine z_aload_n C dX4_run_10 rfl 0 rfl ?_
        refine z_callVi C (T := Unit) (As := []) (rest := []) (ws' := fun _ => (wX ad cI cZ ((passF (ordL pri mk) flo bnd frm too amt small a9 n9 w9 5).1) ((passF (ordL pri mk) flo bnd frm too amt small a9 n9 w9 5).2.1) ta tn flo bnd frm too amt pri ((passF (ordL pri mk) flo bnd frm too amt small a9 n9 w9 5).2.2.1) byp ldr bor due plg clo pap c9 small price cut proc (nI mk) (nI lm) (nI le))) (c_X4_goThroughBanks l sa D cI cZ cL ad a9 n9 ta tn flo bnd frm too amt pri w9 byp ldr bor due plg clo pap c9 small price cut proc mk lm le  (by first | assumption | omega) (by first | assumption | omega) (by first | assumption | omega) (by first | assumption | omega)) (cwV 0 C.2.2.2.2.1 gX4_run_X4_goThroughBanks rfl rfl rfl (by decide +kernel) ⟨Nat.le_of_ble_eq_true rfl, Nat.le_of_ble_eq_true rfl⟩) 0 rfl rfl rfl (fun _ => zSub.full) zIn.full rfl (Nat.le_of_ble_eq_true rfl) ⟨Nat.le_of_ble_eq_true rfl, Nat.le_of_ble_eq_true rfl⟩ dX4_run_11 (fun r_7 _ h_8 => ?_)
        obtain rfl : r_7 = (nI ((passF (ordL pri mk) flo bnd frm too amt small a9 n9 w9 5).2.2.2)) := h_8
        have := passF_le (ordL pri mk) flo bnd frm too amt small a9 n9 w9 5
        refine z_istore_n C dX4_run_14 rfl (by decide) [(0, .ref (ad 0)), (1, .int g9), (2, .int (nI i)), (3, .int (nI ((passF (ordL pri mk) flo bnd frm too amt small a9 n9 w9 5).2.2.2)))] [1, 2, 3, 0] rfl ?_
        refine z_iload_n C dX4_run_15 rfl 3 rfl ?_
        refine z_if_ne C (tgt := 24) dX4_run_16 (by decide) (fun c16_9 => ?_) (fun c16_9 => ?_)
        · skip
          have n_10 : ¬ ((passF (ordL pri mk) flo bnd frm too amt small a9 n9 w9 5).2.2.2) = 0 := fun q => c16_9 ((nI_eq (a := (passF (ordL pri mk) flo bnd frm too amt small a9 n9 w9 5).2.2.2) (b := 0) (by omega) (by omega)).mpr q)
          refine z_iload_n C dX4_run_24 rfl 3 rfl ?_
          refine z_if_ne C (tgt := 30) dX4_run_25 (by decide) (fun c25_11 => ?_) (fun c25_11 => ?_)
          · skip
            have n_12 : ¬ ((passF (ordL pri mk) flo bnd frm too amt small a9 n9 w9 5).2.2.2) = 0 := fun q => c25_11 ((nI_eq (a := (passF (ordL pri mk) flo bnd frm too amt small a9 n9 w9 5).2.2.2) (b := 0) (by omega) (by omega)).mpr q)
            refine z_iload_n C dX4_run_30 rfl 1 rfl ?_
            refine z_iload_n C dX4_run_31 rfl 3 rfl ?_
            refine z_iadd C (v := (g9 + (nI ((passF (ordL pri mk) flo bnd frm too amt small a9 n9 w9 5).2.2.2)))) dX4_run_32 rfl ?_
            refine z_istore_n C dX4_run_33 rfl (by decide) [(0, .ref (ad 0)), (1, .int (g9 + (nI ((passF (ordL pri mk) flo bnd frm too amt small a9 n9 w9 5).2.2.2)))), (2, .int (nI i)), (3, .int (nI ((passF (ordL pri mk) flo bnd frm too amt small a9 n9 w9 5).2.2.2)))] [1, 0, 2, 3] rfl ?_
            refine z_iinc C (v := (nI (i + 1))) dX4_run_34 2 rfl (nI_add i 1) (by decide) [(0, .ref (ad 0)), (1, .int (g9 + (nI ((passF (ordL pri mk) flo bnd frm too amt small a9 n9 w9 5).2.2.2)))), (2, .int (nI (i + 1))), (3, .int (nI ((passF (ordL pri mk) flo bnd frm too amt small a9 n9 w9 5).2.2.2)))] [1, 2, 0, 3] rfl ?_
            refine z_goto C (tgt := 4) dX4_run_37 (by decide) ?_
            refine z_lv [(0, .ref (ad 0)), (1, .int (g9 + (nI ((passF (ordL pri mk) flo bnd frm too amt small a9 n9 w9 5).2.2.2)))), (2, .int (nI (i + 1)))] [0, 1, 2] rfl ?_
            exact ih_2 (i + 1) (g9 + (nI ((passF (ordL pri mk) flo bnd frm too amt small a9 n9 w9 5).2.2.2))) ((passF (ordL pri mk) flo bnd frm too amt small a9 n9 w9 5).1) ((passF (ordL pri mk) flo bnd frm too amt small a9 n9 w9 5).2.1) ((passF (ordL pri mk) flo bnd frm too amt small a9 n9 w9 5).2.2.1) c9 ta tn (by omega) (by first | assumption | omega) (by rw [← hR, show 61 - i = (61 - (i + 1)) + 1 by omega]; simp only [runF, rndF, c7_4, n_6, c16_9, n_10, c25_11, n_12, if_true, if_false])
          · skip
            have n_13 : ((passF (ordL pri mk) flo bnd frm too amt small a9 n9 w9 5).2.2.2) = 0 := (nI_eq (a := (passF (ordL pri mk) flo bnd frm too amt small a9 n9 w9 5).2.2.2) (b := 0) (by omega) (by omega)).mp c25_11
            refine z_iload_n C dX4_run_28 rfl 1 rfl ?_
            exact z_iret C (c9, ta, tn) (by first | (exfalso; omega) | (rw [← hR, show 61 - i = (60 - i) + 1 by omega]; simp only [runF, rndF, c7_4, n_6, c16_9, n_10, c25_11, n_13, if_true])) (by first | (exfalso; omega) | (rw [← hR, show 61 - i = (60 - i) + 1 by omega]; simp only [runF, rndF, c7_4, n_6, c16_9, n_10, c25_11, n_13, if_true])) (by decide) (by decide) dX4_run_29
        · skip
          have n_14 : ((passF (ordL pri mk) flo bnd frm too amt small a9 n9 w9 5).2.2.2) = 0 := (nI_eq (a := (passF (ordL pri mk) flo bnd frm too amt small a9 n9 w9 5).2.2.2) (b := 0) (by omega) (by omega)).mp c16_9
          refine z_aload_n C dX4_run_19 rfl 0 rfl ?_
          refine z_callVi C (As := []) (rest := []) (ws' := fun u_15 => (wX ad cI cZ ((togF (ordL pri mk) flo bnd frm too amt ((passF (ordL pri mk) flo bnd frm too amt small a9 n9 w9 5).1) ((passF (ordL pri mk) flo bnd frm too amt small a9 n9 w9 5).2.1) ((passF (ordL pri mk) flo bnd frm too amt small a9 n9 w9 5).2.2.1)).1) ((togF (ordL pri mk) flo bnd frm too amt ((passF (ordL pri mk) flo bnd frm too amt small a9 n9 w9 5).1) ((passF (ordL pri mk) flo bnd frm too amt small a9 n9 w9 5).2.1) ((passF (ordL pri mk) flo bnd frm too amt small a9 n9 w9 5).2.2.1)).2.1) u_15.2.1 u_15.2.2 flo bnd frm too amt pri ((togF (ordL pri mk) flo bnd frm too amt ((passF (ordL pri mk) flo bnd frm too amt small a9 n9 w9 5).1) ((passF (ordL pri mk) flo bnd frm too amt small a9 n9 w9 5).2.1) ((passF (ordL pri mk) flo bnd frm too amt small a9 n9 w9 5).2.2.1)).2.2.1) byp ldr bor due plg clo pap u_15.1 small price cut proc (nI mk) (nI lm) (nI le))) (c_X4_sendLargestSet l sa D cI cZ cL ad ((passF (ordL pri mk) flo bnd frm too amt small a9 n9 w9 5).1) ((passF (ordL pri mk) flo bnd frm too amt small a9 n9 w9 5).2.1) ta tn flo bnd frm too amt pri ((passF (ordL pri mk) flo bnd frm too amt small a9 n9 w9 5).2.2.1) byp ldr bor due plg clo pap c9 small price cut proc mk lm le  (by first | assumption | omega) (by first | assumption | omega) (by first | assumption | omega) (by first | assumption | omega)) (cwV 0 C.2.2.2.2.1 gX4_run_X4_sendLargestSet rfl rfl rfl (by decide +kernel) ⟨Nat.le_of_ble_eq_true rfl, Nat.le_of_ble_eq_true rfl⟩) 0 rfl rfl rfl (fun _ => zSub.full) zIn.full rfl (Nat.le_of_ble_eq_true rfl) ⟨Nat.le_of_ble_eq_true rfl, Nat.le_of_ble_eq_true rfl⟩ dX4_run_20 (fun r_16 u_15 h_17 => ?_)
          obtain rfl : r_16 = (nI ((togF (ordL pri mk) flo bnd frm too amt ((passF (ordL pri mk) flo bnd frm too amt small a9 n9 w9 5).1) ((passF (ordL pri mk) flo bnd frm too amt small a9 n9 w9 5).2.1) ((passF (ordL pri mk) flo bnd frm too amt small a9 n9 w9 5).2.2.1)).2.2.2)) := h_17
          have := togF_le (ordL pri mk) flo bnd frm too amt (passF (ordL pri mk) flo bnd frm too amt small a9 n9 w9 5).1 (passF (ordL pri mk) flo bnd frm too amt small a9 n9 w9 5).2.1 (passF (ordL pri mk) flo bnd frm too amt small a9 n9 w9 5).2.2.1
          refine z_istore_n C dX4_run_23 rfl (by decide) [(0, .ref (ad 0)), (1, .int g9), (2, .int (nI i)), (3, .int (nI ((togF (ordL pri mk) flo bnd frm too amt ((passF (ordL pri mk) flo bnd frm too amt small a9 n9 w9 5).1) ((passF (ordL pri mk) flo bnd frm too amt small a9 n9 w9 5).2.1) ((passF (ordL pri mk) flo bnd frm too amt small a9 n9 w9 5).2.2.1)).2.2.2)))] [1, 2, 3, 0] rfl ?_
          refine z_iload_n C dX4_run_24 rfl 3 rfl ?_
          refine z_if_ne C (tgt := 30) dX4_run_25 (by decide) (fun c25_18 => ?_) (fun c25_18 => ?_)
          · skip
            have n_19 : ¬ ((togF (ordL pri mk) flo bnd frm too amt ((passF (ordL pri mk) flo bnd frm too amt small a9 n9 w9 5).1) ((passF (ordL pri mk) flo bnd frm too amt small a9 n9 w9 5).2.1) ((passF (ordL pri mk) flo bnd frm too amt small a9 n9 w9 5).2.2.1)).2.2.2) = 0 := fun q => c25_18 ((nI_eq (a := (togF (ordL pri mk) flo bnd frm too amt ((passF (ordL pri mk) flo bnd frm too amt small a9 n9 w9 5).1) ((passF (ordL pri mk) flo bnd frm too amt small a9 n9 w9 5).2.1) ((passF (ordL pri mk) flo bnd frm too amt small a9 n9 w9 5).2.2.1)).2.2.2) (b := 0) (by omega) (by omega)).mpr q)
            refine z_iload_n C dX4_run_30 rfl 1 rfl ?_
            refine z_iload_n C dX4_run_31 rfl 3 rfl ?_
            refine z_iadd C (v := (g9 + (nI ((togF (ordL pri mk) flo bnd frm too amt ((passF (ordL pri mk) flo bnd frm too amt small a9 n9 w9 5).1) ((passF (ordL pri mk) flo bnd frm too amt small a9 n9 w9 5).2.1) ((passF (ordL pri mk) flo bnd frm too amt small a9 n9 w9 5).2.2.1)).2.2.2)))) dX4_run_32 rfl ?_
            refine z_istore_n C dX4_run_33 rfl (by decide) [(0, .ref (ad 0)), (1, .int (g9 + (nI ((togF (ordL pri mk) flo bnd frm too amt ((passF (ordL pri mk) flo bnd frm too amt small a9 n9 w9 5).1) ((passF (ordL pri mk) flo bnd frm too amt small a9 n9 w9 5).2.1) ((passF (ordL pri mk) flo bnd frm too amt small a9 n9 w9 5).2.2.1)).2.2.2)))), (2, .int (nI i)), (3, .int (nI ((togF (ordL pri mk) flo bnd frm too amt ((passF (ordL pri mk) flo bnd frm too amt small a9 n9 w9 5).1) ((passF (ordL pri mk) flo bnd frm too amt small a9 n9 w9 5).2.1) ((passF (ordL pri mk) flo bnd frm too amt small a9 n9 w9 5).2.2.1)).2.2.2)))] [1, 0, 2, 3] rfl ?_
            refine z_iinc C (v := (nI (i + 1))) dX4_run_34 2 rfl (nI_add i 1) (by decide) [(0, .ref (ad 0)), (1, .int (g9 + (nI ((togF (ordL pri mk) flo bnd frm too amt ((passF (ordL pri mk) flo bnd frm too amt small a9 n9 w9 5).1) ((passF (ordL pri mk) flo bnd frm too amt small a9 n9 w9 5).2.1) ((passF (ordL pri mk) flo bnd frm too amt small a9 n9 w9 5).2.2.1)).2.2.2)))), (2, .int (nI (i + 1))), (3, .int (nI ((togF (ordL pri mk) flo bnd frm too amt ((passF (ordL pri mk) flo bnd frm too amt small a9 n9 w9 5).1) ((passF (ordL pri mk) flo bnd frm too amt small a9 n9 w9 5).2.1) ((passF (ordL pri mk) flo bnd frm too amt small a9 n9 w9 5).2.2.1)).2.2.2)))] [1, 2, 0, 3] rfl ?_
            refine z_goto C (tgt := 4) dX4_run_37 (by decide) ?_
            refine z_lv [(0, .ref (ad 0)), (1, .int (g9 + (nI ((togF (ordL pri mk) flo bnd frm too amt ((passF (ordL pri mk) flo bnd frm too amt small a9 n9 w9 5).1) ((passF (ordL pri mk) flo bnd frm too amt small a9 n9 w9 5).2.1) ((passF (ordL pri mk) flo bnd frm too amt small a9 n9 w9 5).2.2.1)).2.2.2)))), (2, .int (nI (i + 1)))] [0, 1, 2] rfl ?_
            exact ih_2 (i + 1) (g9 + (nI ((togF (ordL pri mk) flo bnd frm too amt ((passF (ordL pri mk) flo bnd frm too amt small a9 n9 w9 5).1) ((passF (ordL pri mk) flo bnd frm too amt small a9 n9 w9 5).2.1) ((passF (ordL pri mk) flo bnd frm too amt small a9 n9 w9 5).2.2.1)).2.2.2))) ((togF (ordL pri mk) flo bnd frm too amt ((passF (ordL pri mk) flo bnd frm too amt small a9 n9 w9 5).1) ((passF (ordL pri mk) flo bnd frm too amt small a9 n9 w9 5).2.1) ((passF (ordL pri mk) flo bnd frm too amt small a9 n9 w9 5).2.2.1)).1) ((togF (ordL pri mk) flo bnd frm too amt ((passF (ordL pri mk) flo bnd frm too amt small a9 n9 w9 5).1) ((passF (ordL pri mk) flo bnd frm too amt small a9 n9 w9 5).2.1) ((passF (ordL pri mk) flo bnd frm too amt small a9 n9 w9 5).2.2.1)).2.1) ((togF (ordL pri mk) flo bnd frm too amt ((passF (ordL pri mk) flo bnd frm too amt small a9 n9 w9 5).1) ((passF (ordL pri mk) flo bnd frm too amt small a9 n9 w9 5).2.1) ((passF (ordL pri mk) flo bnd frm too amt small a9 n9 w9 5).2.2.1)).2.2.1) u_15.1 u_15.2.1 u_15.2.2 (by omega) (by first | assumption | omega) (by rw [← hR, show 61 - i = (61 - (i + 1)) + 1 by omega]; simp only [runF, rndF, c7_4, n_6, c16_9, n_14, c25_18, n_19, if_true, if_false])
          · skip
            have n_20 : ((togF (ordL pri mk) flo bnd frm too amt ((passF (ordL pri mk) flo bnd frm too amt small a9 n9 w9 5).1) ((passF (ordL pri mk) flo bnd frm too amt small a9 n9 w9 5).2.1) ((passF (ordL pri mk) flo bnd frm too amt small a9 n9 w9 5).2.2.1)).2.2.2) = 0 := (nI_eq (a := (togF (ordL pri mk) flo bnd frm too amt ((passF (ordL pri mk) flo bnd frm too amt small a9 n9 w9 5).1) ((passF (ordL pri mk) flo bnd frm too amt small a9 n9 w9 5).2.1) ((passF (ordL pri mk) flo bnd frm too amt small a9 n9 w9 5).2.2.1)).2.2.2) (b := 0) (by omega) (by omega)).mp c25_18
            refine z_iload_n C dX4_run_28 rfl 1 rfl ?_
            exact z_iret C (u_15.1, u_15.2.1, u_15.2.2) (by first | (exfalso; omega) | (rw [← hR, show 61 - i = (60 - i) + 1 by omega]; simp only [runF, rndF, c7_4, n_6, c16_9, n_14, c25_18, n_20, if_true])) (by first | (exfalso; omega) | (rw [← hR, show 61 - i = (60 - i) + 1 by omega]; simp only [runF, rndF, c7_4, n_6, c16_9, n_14, c25_18, n_20, if_true])) (by decide) (by decide) dX4_run_29
  refine z_lveq [(0, .ref (ad 0)), (1, .int 0), (2, .int (nI 0))] (by rfl) ?_
  exact L4_k_1 (61 - 0 + 1) 0 0 acc net wai cnd tacc tnet (Nat.lt_succ_self _) (by first | assumption | omega) (by rfl)
end
section
theorem m_X4_pledgeWorth_f55 : Cond.fieldLink RX4 55 "Queuefloat" "paperPrice" "I" ∈ wsX4_pledgeWorth := by decide +kernel
theorem i_X4_pledgeWorth_X4 : ∀ w ∈ wsX40, w ∈ wsX4_pledgeWorth := by decide +kernel
theorem m_X4_pledgeWorth_f58 : Cond.fieldLink RX4 58 "Queuefloat" "paperCut" "I" ∈ wsX4_pledgeWorth := by decide +kernel
theorem m_X4_canRepay_f36 : Cond.fieldLink RX4 36 "Queuefloat" "market" "LQueuefloat$Loans;" ∈ wsX4_canRepay := by decide +kernel
theorem i_X4_canRepay_X4 : ∀ w ∈ wsX40, w ∈ wsX4_canRepay := by decide +kernel
theorem m_X4_canRepay_f183 : Cond.fieldLink RX4 183 "Queuefloat$Loans" "borrower" "[I" ∈ wsX4_canRepay := by decide +kernel
theorem i_X4_canRepay_X1 : ∀ w ∈ wsX10, w ∈ wsX4_canRepay := by decide +kernel
theorem m_X4_canRepay_f40 : Cond.fieldLink RX4 40 "Queuefloat" "closed" "[Z" ∈ wsX4_canRepay := by decide +kernel
theorem m_X4_canRepay_f10 : Cond.fieldLink RX4 10 "Queuefloat" "sums" "LQueuefloat$Sums;" ∈ wsX4_canRepay := by decide +kernel
theorem m_X4_canRepay_f73 : Cond.fieldLink RX4 73 "Queuefloat$Sums" "accountOf" "[I" ∈ wsX4_canRepay := by decide +kernel
theorem i_X4_canRepay_X3 : ∀ w ∈ wsX30, w ∈ wsX4_canRepay := by decide +kernel
theorem m_X4_canRepay_f261 : Cond.fieldLink RX4 261 "Queuefloat$Loans" "due" "[I" ∈ wsX4_canRepay := by decide +kernel
theorem m_X4_canRepay_f22 : Cond.fieldLink RX4 22 "Queuefloat" "limits" "LQueuefloat$Limits;" ∈ wsX4_canRepay := by decide +kernel
theorem m_X4_canRepay_f91 : Cond.fieldLink RX4 91 "Queuefloat$Limits" "floorOf" "[I" ∈ wsX4_canRepay := by decide +kernel
theorem i_X4_canRepay_X0 : ∀ w ∈ wsX00, w ∈ wsX4_canRepay := by decide +kernel
theorem m_X4_repay_f36 : Cond.fieldLink RX4 36 "Queuefloat" "market" "LQueuefloat$Loans;" ∈ wsX4_repay := by decide +kernel
theorem i_X4_repay_X4 : ∀ w ∈ wsX40, w ∈ wsX4_repay := by decide +kernel
theorem m_X4_repay_f183 : Cond.fieldLink RX4 183 "Queuefloat$Loans" "borrower" "[I" ∈ wsX4_repay := by decide +kernel
theorem i_X4_repay_X1 : ∀ w ∈ wsX10, w ∈ wsX4_repay := by decide +kernel
theorem m_X4_repay_f10 : Cond.fieldLink RX4 10 "Queuefloat" "sums" "LQueuefloat$Sums;" ∈ wsX4_repay := by decide +kernel
theorem m_X4_repay_f264 : Cond.fieldLink RX4 264 "Queuefloat$Loans" "lender" "[I" ∈ wsX4_repay := by decide +kernel
theorem m_X4_repay_f261 : Cond.fieldLink RX4 261 "Queuefloat$Loans" "due" "[I" ∈ wsX4_repay := by decide +kernel
theorem m_X4_repay_f44 : Cond.fieldLink RX4 44 "Queuefloat" "papersOf" "[I" ∈ wsX4_repay := by decide +kernel
theorem m_X4_repay_f267 : Cond.fieldLink RX4 267 "Queuefloat$Loans" "pledge" "[I" ∈ wsX4_repay := by decide +kernel
theorem m_X4_close_f40 : Cond.fieldLink RX4 40 "Queuefloat" "closed" "[Z" ∈ wsX4_close := by decide +kernel
theorem i_X4_close_X4 : ∀ w ∈ wsX40, w ∈ wsX4_close := by decide +kernel
theorem m_X4_close_f29 : Cond.fieldLink RX4 29 "Queuefloat" "payments" "LQueuefloat$Payments;" ∈ wsX4_close := by decide +kernel
theorem m_X4_sellPledge_f36 : Cond.fieldLink RX4 36 "Queuefloat" "market" "LQueuefloat$Loans;" ∈ wsX4_sellPledge := by decide +kernel
theorem i_X4_sellPledge_X4 : ∀ w ∈ wsX40, w ∈ wsX4_sellPledge := by decide +kernel
theorem m_X4_sellPledge_f267 : Cond.fieldLink RX4 267 "Queuefloat$Loans" "pledge" "[I" ∈ wsX4_sellPledge := by decide +kernel
theorem i_X4_sellPledge_X1 : ∀ w ∈ wsX10, w ∈ wsX4_sellPledge := by decide +kernel
theorem m_X4_sellPledge_f55 : Cond.fieldLink RX4 55 "Queuefloat" "paperPrice" "I" ∈ wsX4_sellPledge := by decide +kernel
theorem m_X4_sellPledge_f261 : Cond.fieldLink RX4 261 "Queuefloat$Loans" "due" "[I" ∈ wsX4_sellPledge := by decide +kernel
theorem m_X4_sellPledge_l85 : Cond.methodLink RX4 85 Lib.Math.min.name ∈ wsX4_sellPledge := by decide +kernel
theorem m_X4_sellPledge_lsmin : Cond.static Lib.Math.min.name ∈ wsX4_sellPledge := by decide +kernel
theorem m_X4_sellPledge_lmath : Cond.initialized "java/lang/Math" ∈ wsX4_sellPledge := by decide +kernel
theorem m_X4_sellPledge_lcmin : Cond.code Lib.Math.min.name Lib.Math.min.code 2 (some .int) ∈ wsX4_sellPledge := by decide +kernel
theorem m_X4_sellPledge_f10 : Cond.fieldLink RX4 10 "Queuefloat" "sums" "LQueuefloat$Sums;" ∈ wsX4_sellPledge := by decide +kernel
theorem m_X4_sellPledge_f73 : Cond.fieldLink RX4 73 "Queuefloat$Sums" "accountOf" "[I" ∈ wsX4_sellPledge := by decide +kernel
theorem i_X4_sellPledge_X3 : ∀ w ∈ wsX30, w ∈ wsX4_sellPledge := by decide +kernel
theorem m_X4_sellPledge_f264 : Cond.fieldLink RX4 264 "Queuefloat$Loans" "lender" "[I" ∈ wsX4_sellPledge := by decide +kernel
theorem m_X4_sellPledge_f183 : Cond.fieldLink RX4 183 "Queuefloat$Loans" "borrower" "[I" ∈ wsX4_sellPledge := by decide +kernel
theorem m_X4_sellPledge_f192 : Cond.fieldLink RX4 192 "Queuefloat" "proceeds" "I" ∈ wsX4_sellPledge := by decide +kernel
theorem m_X4_morning_f10 : Cond.fieldLink RX4 10 "Queuefloat" "sums" "LQueuefloat$Sums;" ∈ wsX4_morning := by decide +kernel
theorem i_X4_morning_X4 : ∀ w ∈ wsX40, w ∈ wsX4_morning := by decide +kernel
theorem m_X4_morning_f36 : Cond.fieldLink RX4 36 "Queuefloat" "market" "LQueuefloat$Loans;" ∈ wsX4_morning := by decide +kernel
theorem m_X4_morning_f170 : Cond.fieldLink RX4 170 "Queuefloat$Loans" "ended" "I" ∈ wsX4_morning := by decide +kernel
theorem i_X4_morning_X1 : ∀ w ∈ wsX10, w ∈ wsX4_morning := by decide +kernel
theorem m_X4_morning_f169 : Cond.fieldLink RX4 169 "Queuefloat$Loans" "made" "I" ∈ wsX4_morning := by decide +kernel
theorem m_X4_morning_f183 : Cond.fieldLink RX4 183 "Queuefloat$Loans" "borrower" "[I" ∈ wsX4_morning := by decide +kernel
theorem m_X4_loans_f36 : Cond.fieldLink RX4 36 "Queuefloat" "market" "LQueuefloat$Loans;" ∈ wsX4_loans := by decide +kernel
theorem i_X4_loans_X4 : ∀ w ∈ wsX40, w ∈ wsX4_loans := by decide +kernel
theorem m_X4_loans_f169 : Cond.fieldLink RX4 169 "Queuefloat$Loans" "made" "I" ∈ wsX4_loans := by decide +kernel
theorem i_X4_loans_X1 : ∀ w ∈ wsX10, w ∈ wsX4_loans := by decide +kernel
theorem m_X4_loans_f170 : Cond.fieldLink RX4 170 "Queuefloat$Loans" "ended" "I" ∈ wsX4_loans := by decide +kernel
theorem m_X4_sold_f192 : Cond.fieldLink RX4 192 "Queuefloat" "proceeds" "I" ∈ wsX4_sold := by decide +kernel
theorem i_X4_sold_X4 : ∀ w ∈ wsX40, w ∈ wsX4_sold := by decide +kernel
theorem x_X4_requireBank_9_1 : ∀ w ∈ (vx_atS RX4 144 "java/lang/IndexOutOfBoundsException" ["java/lang/RuntimeException", "java/lang/Exception"]).filter goodWord, w ∈ wsX4_requireBank := by decide +kernel
theorem x_X4_requireBank_9_2 : ∀ w ∈ (vx_atS RX4 144 "java/lang/IndexOutOfBoundsException" ["java/lang/RuntimeException", "java/lang/Exception"]).filter (fun w => !goodWord w), w = .castable "java/lang/IndexOutOfBoundsException" "java/lang/IndexOutOfBoundsException" ∨ w ∈ zDs.map Cond.declares := by decide +kernel
theorem x_X4_requireBank_9_3 : ∀ w ∈ Cond.classLink RX4 140 "java/lang/IndexOutOfBoundsException" :: Cond.initialized "java/lang/IndexOutOfBoundsException" :: vx_atS RX4 144 "java/lang/IndexOutOfBoundsException" ["java/lang/RuntimeException", "java/lang/Exception"], vx_ot w = true := by decide +kernel
theorem m_X4_requireBank_c140 : Cond.classLink RX4 140 "java/lang/IndexOutOfBoundsException" ∈ wsX4_requireBank := by decide +kernel
theorem m_X4_requireBank_n140 : Cond.initialized "java/lang/IndexOutOfBoundsException" ∈ wsX4_requireBank := by decide +kernel
theorem x_X4_requireTwo_5_1 : ∀ w ∈ (vx_atS RX4 201 "java/lang/IllegalArgumentException" ["java/lang/RuntimeException", "java/lang/Exception"]).filter goodWord, w ∈ wsX4_requireTwo := by decide +kernel
theorem x_X4_requireTwo_5_2 : ∀ w ∈ (vx_atS RX4 201 "java/lang/IllegalArgumentException" ["java/lang/RuntimeException", "java/lang/Exception"]).filter (fun w => !goodWord w), w = .castable "java/lang/IllegalArgumentException" "java/lang/IllegalArgumentException" ∨ w ∈ zDs.map Cond.declares := by decide +kernel
theorem x_X4_requireTwo_5_3 : ∀ w ∈ Cond.classLink RX4 197 "java/lang/IllegalArgumentException" :: Cond.initialized "java/lang/IllegalArgumentException" :: vx_atS RX4 201 "java/lang/IllegalArgumentException" ["java/lang/RuntimeException", "java/lang/Exception"], vx_ot w = true := by decide +kernel
theorem m_X4_requireTwo_c197 : Cond.classLink RX4 197 "java/lang/IllegalArgumentException" ∈ wsX4_requireTwo := by decide +kernel
theorem m_X4_requireTwo_n197 : Cond.initialized "java/lang/IllegalArgumentException" ∈ wsX4_requireTwo := by decide +kernel
theorem x_X4_requireRange_10_1 : ∀ w ∈ (vx_atS RX4 201 "java/lang/IllegalArgumentException" ["java/lang/RuntimeException", "java/lang/Exception"]).filter goodWord, w ∈ wsX4_requireRange := by decide +kernel
theorem x_X4_requireRange_10_2 : ∀ w ∈ (vx_atS RX4 201 "java/lang/IllegalArgumentException" ["java/lang/RuntimeException", "java/lang/Exception"]).filter (fun w => !goodWord w), w = .castable "java/lang/IllegalArgumentException" "java/lang/IllegalArgumentException" ∨ w ∈ zDs.map Cond.declares := by decide +kernel
theorem x_X4_requireRange_10_3 : ∀ w ∈ Cond.classLink RX4 197 "java/lang/IllegalArgumentException" :: Cond.initialized "java/lang/IllegalArgumentException" :: vx_atS RX4 201 "java/lang/IllegalArgumentException" ["java/lang/RuntimeException", "java/lang/Exception"], vx_ot w = true := by decide +kernel
theorem m_X4_requireRange_c197 : Cond.classLink RX4 197 "java/lang/IllegalArgumentException" ∈ wsX4_requireRange := by decide +kernel
theorem m_X4_requireRange_n197 : Cond.initialized "java/lang/IllegalArgumentException" ∈ wsX4_requireRange := by decide +kernel
theorem m_X4_requireOpen_f40 : Cond.fieldLink RX4 40 "Queuefloat" "closed" "[Z" ∈ wsX4_requireOpen := by decide +kernel
theorem i_X4_requireOpen_X4 : ∀ w ∈ wsX40, w ∈ wsX4_requireOpen := by decide +kernel
theorem x_X4_requireOpen_9_1 : ∀ w ∈ (vx_atS RX4 81 "java/lang/IllegalStateException" ["java/lang/RuntimeException", "java/lang/Exception"]).filter goodWord, w ∈ wsX4_requireOpen := by decide +kernel
theorem x_X4_requireOpen_9_2 : ∀ w ∈ (vx_atS RX4 81 "java/lang/IllegalStateException" ["java/lang/RuntimeException", "java/lang/Exception"]).filter (fun w => !goodWord w), w = .castable "java/lang/IllegalStateException" "java/lang/IllegalStateException" ∨ w ∈ zDs.map Cond.declares := by decide +kernel
theorem x_X4_requireOpen_9_3 : ∀ w ∈ Cond.classLink RX4 77 "java/lang/IllegalStateException" :: Cond.initialized "java/lang/IllegalStateException" :: vx_atS RX4 81 "java/lang/IllegalStateException" ["java/lang/RuntimeException", "java/lang/Exception"], vx_ot w = true := by decide +kernel
theorem m_X4_requireOpen_c77 : Cond.classLink RX4 77 "java/lang/IllegalStateException" ∈ wsX4_requireOpen := by decide +kernel
theorem m_X4_requireOpen_n77 : Cond.initialized "java/lang/IllegalStateException" ∈ wsX4_requireOpen := by decide +kernel
theorem m_X4_requirePayment_f29 : Cond.fieldLink RX4 29 "Queuefloat" "payments" "LQueuefloat$Payments;" ∈ wsX4_requirePayment := by decide +kernel
theorem i_X4_requirePayment_X4 : ∀ w ∈ wsX40, w ∈ wsX4_requirePayment := by decide +kernel
theorem m_X4_requirePayment_f113 : Cond.fieldLink RX4 113 "Queuefloat$Payments" "made" "I" ∈ wsX4_requirePayment := by decide +kernel
theorem i_X4_requirePayment_X2 : ∀ w ∈ wsX20, w ∈ wsX4_requirePayment := by decide +kernel
theorem x_X4_requirePayment_15_1 : ∀ w ∈ (vx_atS RX4 144 "java/lang/IndexOutOfBoundsException" ["java/lang/RuntimeException", "java/lang/Exception"]).filter goodWord, w ∈ wsX4_requirePayment := by decide +kernel
theorem x_X4_requirePayment_15_2 : ∀ w ∈ (vx_atS RX4 144 "java/lang/IndexOutOfBoundsException" ["java/lang/RuntimeException", "java/lang/Exception"]).filter (fun w => !goodWord w), w = .castable "java/lang/IndexOutOfBoundsException" "java/lang/IndexOutOfBoundsException" ∨ w ∈ zDs.map Cond.declares := by decide +kernel
theorem x_X4_requirePayment_15_3 : ∀ w ∈ Cond.classLink RX4 140 "java/lang/IndexOutOfBoundsException" :: Cond.initialized "java/lang/IndexOutOfBoundsException" :: vx_atS RX4 144 "java/lang/IndexOutOfBoundsException" ["java/lang/RuntimeException", "java/lang/Exception"], vx_ot w = true := by decide +kernel
theorem m_X4_requirePayment_c140 : Cond.classLink RX4 140 "java/lang/IndexOutOfBoundsException" ∈ wsX4_requirePayment := by decide +kernel
theorem m_X4_requirePayment_n140 : Cond.initialized "java/lang/IndexOutOfBoundsException" ∈ wsX4_requirePayment := by decide +kernel
theorem m_X4_requireLoanable_f36 : Cond.fieldLink RX4 36 "Queuefloat" "market" "LQueuefloat$Loans;" ∈ wsX4_requireLoanable := by decide +kernel
theorem i_X4_requireLoanable_X4 : ∀ w ∈ wsX40, w ∈ wsX4_requireLoanable := by decide +kernel
theorem m_X4_requireLoanable_f169 : Cond.fieldLink RX4 169 "Queuefloat$Loans" "made" "I" ∈ wsX4_requireLoanable := by decide +kernel
theorem i_X4_requireLoanable_X1 : ∀ w ∈ wsX10, w ∈ wsX4_requireLoanable := by decide +kernel
theorem m_X4_requireLoanable_f44 : Cond.fieldLink RX4 44 "Queuefloat" "papersOf" "[I" ∈ wsX4_requireLoanable := by decide +kernel
theorem x_X4_requireLoanable_43_1 : ∀ w ∈ (vx_atS RX4 81 "java/lang/IllegalStateException" ["java/lang/RuntimeException", "java/lang/Exception"]).filter goodWord, w ∈ wsX4_requireLoanable := by decide +kernel
theorem x_X4_requireLoanable_43_2 : ∀ w ∈ (vx_atS RX4 81 "java/lang/IllegalStateException" ["java/lang/RuntimeException", "java/lang/Exception"]).filter (fun w => !goodWord w), w = .castable "java/lang/IllegalStateException" "java/lang/IllegalStateException" ∨ w ∈ zDs.map Cond.declares := by decide +kernel
theorem x_X4_requireLoanable_43_3 : ∀ w ∈ Cond.classLink RX4 77 "java/lang/IllegalStateException" :: Cond.initialized "java/lang/IllegalStateException" :: vx_atS RX4 81 "java/lang/IllegalStateException" ["java/lang/RuntimeException", "java/lang/Exception"], vx_ot w = true := by decide +kernel
theorem m_X4_requireLoanable_f10 : Cond.fieldLink RX4 10 "Queuefloat" "sums" "LQueuefloat$Sums;" ∈ wsX4_requireLoanable := by decide +kernel
theorem m_X4_requireLoanable_f73 : Cond.fieldLink RX4 73 "Queuefloat$Sums" "accountOf" "[I" ∈ wsX4_requireLoanable := by decide +kernel
theorem i_X4_requireLoanable_X3 : ∀ w ∈ wsX30, w ∈ wsX4_requireLoanable := by decide +kernel
theorem m_X4_requireLoanable_f22 : Cond.fieldLink RX4 22 "Queuefloat" "limits" "LQueuefloat$Limits;" ∈ wsX4_requireLoanable := by decide +kernel
theorem m_X4_requireLoanable_f91 : Cond.fieldLink RX4 91 "Queuefloat$Limits" "floorOf" "[I" ∈ wsX4_requireLoanable := by decide +kernel
theorem i_X4_requireLoanable_X0 : ∀ w ∈ wsX00, w ∈ wsX4_requireLoanable := by decide +kernel
theorem x_X4_requireLoanable_76_1 : ∀ w ∈ (vx_atS RX4 81 "java/lang/IllegalStateException" ["java/lang/RuntimeException", "java/lang/Exception"]).filter goodWord, w ∈ wsX4_requireLoanable := by decide +kernel
theorem x_X4_requireLoanable_76_2 : ∀ w ∈ (vx_atS RX4 81 "java/lang/IllegalStateException" ["java/lang/RuntimeException", "java/lang/Exception"]).filter (fun w => !goodWord w), w = .castable "java/lang/IllegalStateException" "java/lang/IllegalStateException" ∨ w ∈ zDs.map Cond.declares := by decide +kernel
theorem x_X4_requireLoanable_76_3 : ∀ w ∈ Cond.classLink RX4 77 "java/lang/IllegalStateException" :: Cond.initialized "java/lang/IllegalStateException" :: vx_atS RX4 81 "java/lang/IllegalStateException" ["java/lang/RuntimeException", "java/lang/Exception"], vx_ot w = true := by decide +kernel
theorem x_X4_requireLoanable_12_1 : ∀ w ∈ (vx_atS RX4 81 "java/lang/IllegalStateException" ["java/lang/RuntimeException", "java/lang/Exception"]).filter goodWord, w ∈ wsX4_requireLoanable := by decide +kernel
theorem x_X4_requireLoanable_12_2 : ∀ w ∈ (vx_atS RX4 81 "java/lang/IllegalStateException" ["java/lang/RuntimeException", "java/lang/Exception"]).filter (fun w => !goodWord w), w = .castable "java/lang/IllegalStateException" "java/lang/IllegalStateException" ∨ w ∈ zDs.map Cond.declares := by decide +kernel
theorem x_X4_requireLoanable_12_3 : ∀ w ∈ Cond.classLink RX4 77 "java/lang/IllegalStateException" :: Cond.initialized "java/lang/IllegalStateException" :: vx_atS RX4 81 "java/lang/IllegalStateException" ["java/lang/RuntimeException", "java/lang/Exception"], vx_ot w = true := by decide +kernel
theorem m_X4_requireLoanable_c77 : Cond.classLink RX4 77 "java/lang/IllegalStateException" ∈ wsX4_requireLoanable := by decide +kernel
theorem m_X4_requireLoanable_n77 : Cond.initialized "java/lang/IllegalStateException" ∈ wsX4_requireLoanable := by decide +kernel
set_option maxHeartbeats 4000000 in
set_option maxRecDepth 100000 in
theorem c_X4_pledgeWorth (l : Launch) (sa : Nat → Nat) (D : va_G) (cI cZ cL : ClassId) (ad : Nat → Nat) (acc net tacc tnet flo bnd frm too amt pri wai byp ldr bor due plg clo pap cnd : Nat → Int32) (small price cut proc : Int32) (mk lm le : Nat) (x : Int32)  : zMi (T := Unit) sa D vwCl (zty cI cZ cL) l yX4_pledgeWorth wsX4_pledgeWorth ({ frames := 0, cells := 0, slots := 0, locals := 0 } : Room) [.ref (ad 0), .int x] (wX ad cI cZ acc net tacc tnet flo bnd frm too amt pri wai byp ldr bor due plg clo pap cnd small price cut proc (nI mk) (nI lm) (nI le)) (fun r9 _ => r9 = (x * price * (1000 - cut) / 1000)) (fun _ => (wX ad cI cZ acc net tacc tnet flo bnd frm too amt pri wai byp ldr bor due plg clo pap cnd small price cut proc (nI mk) (nI lm) (nI le))) 0 0 := by
  refine zMi.of (ret := (some .int)) (cc := cX4_pledgeWorth) (nL := 2) (own := RX4) (by decide +kernel) rfl [(0, .ref (ad 0)), (1, .int x)] rfl (Nat.le_of_ble_eq_true rfl) rfl ?_
  intro A p e s m args below meth c C hmn
  refine z_iload_n C dX4_pledgeWorth_0 rfl 1 rfl ?_
  refine z_aload_n C dX4_pledgeWorth_1 rfl 0 rfl ?_
  refine z_get C 0 rfl i_X4_pledgeWorth_X4 rfl 9 (by decide) m_X4_pledgeWorth_f55 rfl rfl dX4_pledgeWorth_2 ?_
  refine z_imul C (v := (x * price)) dX4_pledgeWorth_5 rfl ?_
  refine z_sipush C (v := 1000) dX4_pledgeWorth_6 (by decide) ?_
  refine z_aload_n C dX4_pledgeWorth_9 rfl 0 rfl ?_
  refine z_get C 0 rfl i_X4_pledgeWorth_X4 rfl 10 (by decide) m_X4_pledgeWorth_f58 rfl rfl dX4_pledgeWorth_10 ?_
  refine z_isub C (v := (1000 - cut)) dX4_pledgeWorth_13 rfl ?_
  refine z_imul C (v := ((x * price) * (1000 - cut))) dX4_pledgeWorth_14 rfl ?_
  refine z_sipush C (v := 1000) dX4_pledgeWorth_15 (by decide) ?_
  refine z_idiv C (v := (((x * price) * (1000 - cut)) / 1000)) dX4_pledgeWorth_18 (by decide) rfl ?_
  exact z_iret C () rfl rfl (by decide) (by decide) dX4_pledgeWorth_19
set_option maxHeartbeats 4000000 in
set_option maxRecDepth 100000 in
theorem c_X4_canRepay (l : Launch) (sa : Nat → Nat) (D : va_G) (cI cZ cL : ClassId) (ad : Nat → Nat) (acc net tacc tnet flo bnd frm too amt pri wai byp ldr bor due plg clo pap cnd : Nat → Int32) (small price cut proc : Int32) (mk lm le : Nat) (l9 : Nat) (hl9 : l9 < lm) (hlm : lm ≤ 40) (hldr : wf5 lm ldr) (hbor : wf5 lm bor) : zMi (T := Unit) sa D vwCl (zty cI cZ cL) l yX4_canRepay wsX4_canRepay ({ frames := 0, cells := 0, slots := 0, locals := 0 } : Room) [.ref (ad 0), .int (nI l9)] (wX ad cI cZ acc net tacc tnet flo bnd frm too amt pri wai byp ldr bor due plg clo pap cnd small price cut proc (nI mk) (nI lm) (nI le)) (fun r9 _ => r9 = if clo (ix (bor l9)) = 0 ∧ flo (ix (bor l9)) ≤ acc (ix (bor l9)) - due l9 then 1 else 0) (fun _ => (wX ad cI cZ acc net tacc tnet flo bnd frm too amt pri wai byp ldr bor due plg clo pap cnd small price cut proc (nI mk) (nI lm) (nI le))) 0 0 := by
  refine zMi.of (ret := (some .boolean)) (cc := cX4_canRepay) (nL := 3) (own := RX4) (by decide +kernel) rfl [(0, .ref (ad 0)), (1, .int (nI l9))] rfl (Nat.le_of_ble_eq_true rfl) rfl ?_
  intro A p e s m args below meth c C hmn
  refine z_aload_n C dX4_canRepay_0 rfl 0 rfl ?_
  refine z_get C 0 rfl i_X4_canRepay_X4 rfl 4 (by decide) m_X4_canRepay_f36 rfl rfl dX4_canRepay_1 ?_
  refine z_get C 5 rfl i_X4_canRepay_X1 rfl 1 (by decide) m_X4_canRepay_f183 rfl rfl dX4_canRepay_4 ?_
  refine z_iload_n C dX4_canRepay_7 rfl 1 rfl ?_
  have := (hbor l9 (by omega)).2
  refine z_iald C 19 0 rfl rfl l9 (nI_clamp (by omega)) (vp_in_nI (by omega) (by omega)) (nI (ix (bor l9))) (hbor l9 (by omega)).1 dX4_canRepay_8 ?_
  refine z_istore_n C dX4_canRepay_9 rfl (by decide) [(0, .ref (ad 0)), (1, .int (nI l9)), (2, .int (nI (ix (bor l9))))] [1, 2, 0] rfl ?_
  refine z_aload_n C dX4_canRepay_10 rfl 0 rfl ?_
  refine z_get C 0 rfl i_X4_canRepay_X4 rfl 5 (by decide) m_X4_canRepay_f40 rfl rfl dX4_canRepay_11 ?_
  refine z_iload_n C dX4_canRepay_14 rfl 2 rfl ?_
  refine z_zald C 22 1 rfl rfl (ix (bor l9)) (nI_clamp (by omega)) (vp_in_nI (by omega) (by omega)) (clo (ix (bor l9))) rfl dX4_canRepay_15 ?_
  refine z_if_ne C (tgt := 54) dX4_canRepay_16 (by decide) (fun c16_1 => ?_) (fun c16_1 => ?_)
  · skip
    refine z_iconst C (v := 0) dX4_canRepay_54 (by decide) ?_
    exact z_zret C () (by first | (rw [if_neg (fun q => absurd q.1 (by assumption))]) | (rw [if_neg (fun q => absurd (by assumption) (Int32.not_lt.mpr q.2))])) rfl (by decide) (by decide) (by decide) dX4_canRepay_55
  · skip
    refine z_aload_n C dX4_canRepay_19 rfl 0 rfl ?_
    refine z_get C 0 rfl i_X4_canRepay_X4 rfl 0 (by decide) m_X4_canRepay_f10 rfl rfl dX4_canRepay_20 ?_
    refine z_get C 1 rfl i_X4_canRepay_X3 rfl 0 (by decide) m_X4_canRepay_f73 rfl rfl dX4_canRepay_23 ?_
    refine z_iload_n C dX4_canRepay_26 rfl 2 rfl ?_
    refine z_iald C 6 0 rfl rfl (ix (bor l9)) (nI_clamp (by omega)) (vp_in_nI (by omega) (by omega)) (acc (ix (bor l9))) rfl dX4_canRepay_27 ?_
    refine z_aload_n C dX4_canRepay_28 rfl 0 rfl ?_
    refine z_get C 0 rfl i_X4_canRepay_X4 rfl 4 (by decide) m_X4_canRepay_f36 rfl rfl dX4_canRepay_29 ?_
    refine z_get C 5 rfl i_X4_canRepay_X1 rfl 2 (by decide) m_X4_canRepay_f261 rfl rfl dX4_canRepay_32 ?_
    refine z_iload_n C dX4_canRepay_35 rfl 1 rfl ?_
    refine z_iald C 20 0 rfl rfl l9 (nI_clamp (by omega)) (vp_in_nI (by omega) (by omega)) (due l9) rfl dX4_canRepay_36 ?_
    refine z_isub C (v := ((acc (ix (bor l9))) - (due l9))) dX4_canRepay_37 rfl ?_
    refine z_aload_n C dX4_canRepay_38 rfl 0 rfl ?_
    refine z_get C 0 rfl i_X4_canRepay_X4 rfl 2 (by decide) m_X4_canRepay_f22 rfl rfl dX4_canRepay_39 ?_
    refine z_get C 3 rfl i_X4_canRepay_X0 rfl 0 (by decide) m_X4_canRepay_f91 rfl rfl dX4_canRepay_42 ?_
    refine z_iload_n C dX4_canRepay_45 rfl 2 rfl ?_
    refine z_iald C 10 0 rfl rfl (ix (bor l9)) (nI_clamp (by omega)) (vp_in_nI (by omega) (by omega)) (flo (ix (bor l9))) rfl dX4_canRepay_46 ?_
    refine z_icmp_lt C (tgt := 54) dX4_canRepay_47 (by decide) (fun c47_2 => ?_) (fun c47_2 => ?_)
    · skip
      refine z_iconst C (v := 0) dX4_canRepay_54 (by decide) ?_
      exact z_zret C () (by first | (rw [if_neg (fun q => absurd q.1 (by assumption))]) | (rw [if_neg (fun q => absurd (by assumption) (Int32.not_lt.mpr q.2))])) rfl (by decide) (by decide) (by decide) dX4_canRepay_55
    · skip
      refine z_iconst C (v := 1) dX4_canRepay_50 (by decide) ?_
      refine z_goto C (tgt := 55) dX4_canRepay_51 (by decide) ?_
      exact z_zret C () (by simp only [c16_1, c47_2, true_and, false_and, Int32.not_lt.mp c47_2, if_true]) rfl (by decide) (by decide) (by decide) dX4_canRepay_55
set_option maxHeartbeats 4000000 in
set_option maxRecDepth 100000 in
theorem c_X4_repay (l : Launch) (sa : Nat → Nat) (D : va_G) (cI cZ cL : ClassId) (ad : Nat → Nat) (acc net tacc tnet flo bnd frm too amt pri wai byp ldr bor due plg clo pap cnd : Nat → Int32) (small price cut proc : Int32) (mk lm le : Nat) (l9 : Nat) (hl9 : l9 < lm) (hlm : lm ≤ 40) (hldr : wf5 lm ldr) (hbor : wf5 lm bor) : zMv (T := Unit) sa D vwCl (zty cI cZ cL) l yX4_repay wsX4_repay ({ frames := 1, cells := 0, slots := 0, locals := 23 } : Room) [.ref (ad 0), .int (nI l9)] (wX ad cI cZ acc net tacc tnet flo bnd frm too amt pri wai byp ldr bor due plg clo pap cnd small price cut proc (nI mk) (nI lm) (nI le)) (fun _ => True) (fun _ => (wX ad cI cZ (mvA (ix (bor l9)) (ix (ldr l9)) (due l9) acc) net tacc tnet flo bnd frm too amt pri wai byp ldr bor due plg clo (upd pap (ix (bor l9)) (pap (ix (bor l9)) + plg l9)) cnd small price cut proc (nI mk) (nI lm) (nI le))) 0 0 := by
  refine zMv.of (ret := none) (cc := cX4_repay) (nL := 3) (own := RX4) (by decide +kernel) rfl [(0, .ref (ad 0)), (1, .int (nI l9))] rfl (Nat.le_of_ble_eq_true rfl) rfl ?_
  intro A p e s m args below meth c C hmn
  refine z_aload_n C dX4_repay_0 rfl 0 rfl ?_
  refine z_get C 0 rfl i_X4_repay_X4 rfl 4 (by decide) m_X4_repay_f36 rfl rfl dX4_repay_1 ?_
  refine z_get C 5 rfl i_X4_repay_X1 rfl 1 (by decide) m_X4_repay_f183 rfl rfl dX4_repay_4 ?_
  refine z_iload_n C dX4_repay_7 rfl 1 rfl ?_
  have := (hbor l9 (by omega)).2
  refine z_iald C 19 0 rfl rfl l9 (nI_clamp (by omega)) (vp_in_nI (by omega) (by omega)) (nI (ix (bor l9))) (hbor l9 (by omega)).1 dX4_repay_8 ?_
  refine z_istore_n C dX4_repay_9 rfl (by decide) [(0, .ref (ad 0)), (1, .int (nI l9)), (2, .int (nI (ix (bor l9))))] [1, 2, 0] rfl ?_
  refine z_aload_n C dX4_repay_10 rfl 0 rfl ?_
  refine z_get C 0 rfl i_X4_repay_X4 rfl 0 (by decide) m_X4_repay_f10 rfl rfl dX4_repay_11 ?_
  refine z_iload_n C dX4_repay_14 rfl 2 rfl ?_
  refine z_aload_n C dX4_repay_15 rfl 0 rfl ?_
  refine z_get C 0 rfl i_X4_repay_X4 rfl 4 (by decide) m_X4_repay_f36 rfl rfl dX4_repay_16 ?_
  refine z_get C 5 rfl i_X4_repay_X1 rfl 0 (by decide) m_X4_repay_f264 rfl rfl dX4_repay_19 ?_
  refine z_iload_n C dX4_repay_22 rfl 1 rfl ?_
  have := (hldr l9 (by omega)).2
  refine z_iald C 18 0 rfl rfl l9 (nI_clamp (by omega)) (vp_in_nI (by omega) (by omega)) (nI (ix (ldr l9))) (hldr l9 (by omega)).1 dX4_repay_23 ?_
  refine z_aload_n C dX4_repay_24 rfl 0 rfl ?_
  refine z_get C 0 rfl i_X4_repay_X4 rfl 4 (by decide) m_X4_repay_f36 rfl rfl dX4_repay_25 ?_
  refine z_get C 5 rfl i_X4_repay_X1 rfl 2 (by decide) m_X4_repay_f261 rfl rfl dX4_repay_28 ?_
  refine z_iload_n C dX4_repay_31 rfl 1 rfl ?_
  refine z_iald C 20 0 rfl rfl l9 (nI_clamp (by omega)) (vp_in_nI (by omega) (by omega)) (due l9) rfl dX4_repay_32 ?_
  refine z_callVv C (T := Unit) (As := [.int (nI (ix (bor l9))), .int (nI (ix (ldr l9))), .int (due l9)]) (rest := []) (ws' := fun _ => (wX ad cI cZ (mvA (ix (bor l9)) (ix (ldr l9)) (due l9) acc) net tacc tnet flo bnd frm too amt pri wai byp ldr bor due plg clo pap cnd small price cut proc (nI mk) (nI lm) (nI le))) (c_X3_move l sa D cI cZ cL (ad 1) (ad 6) (ad 7) acc net (ix (bor l9)) (ix (ldr l9)) (due l9) (by first | assumption | omega) (by first | assumption | omega)) (cwV 3 C.2.2.2.2.1 gX4_repay_X3_move rfl rfl rfl (by decide +kernel) ⟨Nat.le_of_ble_eq_true rfl, Nat.le_of_ble_eq_true rfl⟩) 1 rfl rfl rfl (fun _ => (zSub.of (wr := [((ad 0), .inr (4, [.ref (ad 1), .ref (ad 2), .ref (ad 3), .ref (ad 4), .ref (ad 5), .ref (ad 22), .ref (ad 23), .ref (ad 24), .int small, .int price, .int cut, .int proc])), ((ad 2), .inr (3, [.ref (ad 8), .ref (ad 9)])), ((ad 3), .inr (0, [.ref (ad 10), .ref (ad 11)])), ((ad 4), .inr (2, [.ref (ad 12), .ref (ad 13), .ref (ad 14), .ref (ad 15), .ref (ad 16), .ref (ad 17), .int (nI mk)])), ((ad 5), .inr (1, [.ref (ad 18), .ref (ad 19), .ref (ad 20), .ref (ad 21), .int (nI lm), .int (nI le)])), ((ad 8), .inl (cI, 5, .inl tacc)), ((ad 9), .inl (cI, 25, .inl tnet)), ((ad 10), .inl (cI, 5, .inl flo)), ((ad 11), .inl (cI, 25, .inl bnd)), ((ad 12), .inl (cI, 60, .inl frm)), ((ad 13), .inl (cI, 60, .inl too)), ((ad 14), .inl (cI, 60, .inl amt)), ((ad 15), .inl (cI, 60, .inl pri)), ((ad 16), .inl (cZ, 60, .inl wai)), ((ad 17), .inl (cI, 60, .inl byp)), ((ad 18), .inl (cI, 40, .inl ldr)), ((ad 19), .inl (cI, 40, .inl bor)), ((ad 20), .inl (cI, 40, .inl due)), ((ad 21), .inl (cI, 40, .inl plg)), ((ad 22), .inl (cZ, 5, .inl clo)), ((ad 23), .inl (cI, 5, .inl pap)), ((ad 24), .inl (cI, 10, .inl cnd))]) [1, 6, 7] [0, 2, 3, 4, 5, 8, 9, 10, 11, 12, 13, 14, 15, 16, 17, 18, 19, 20, 21, 22, 23, 24] [0, 22, 1, 2, 3, 4, 23, 24, 5, 6, 7, 8, 9, 10, 11, 12, 13, 14, 15, 16, 17, 18, 19, 20, 21] rfl rfl rfl rfl (by decide) rfl rfl)) (zIn.of [1, 6, 7] rfl rfl) rfl (Nat.le_of_ble_eq_true rfl) ⟨Nat.le_of_ble_eq_true rfl, Nat.le_of_ble_eq_true rfl⟩ dX4_repay_33 (fun _ _ => ?_)
  refine z_aload_n C dX4_repay_36 rfl 0 rfl ?_
  refine z_get C 0 rfl i_X4_repay_X4 rfl 6 (by decide) m_X4_repay_f44 rfl rfl dX4_repay_37 ?_
  refine z_iload_n C dX4_repay_40 rfl 2 rfl ?_
  refine z_dup2 C dX4_repay_41 rfl rfl ?_
  refine z_iald C 23 0 rfl rfl (ix (bor l9)) (nI_clamp (by omega)) (vp_in_nI (by omega) (by omega)) (pap (ix (bor l9))) rfl dX4_repay_42 ?_
  refine z_aload_n C dX4_repay_43 rfl 0 rfl ?_
  refine z_get C 0 rfl i_X4_repay_X4 rfl 4 (by decide) m_X4_repay_f36 rfl rfl dX4_repay_44 ?_
  refine z_get C 5 rfl i_X4_repay_X1 rfl 3 (by decide) m_X4_repay_f267 rfl rfl dX4_repay_47 ?_
  refine z_iload_n C dX4_repay_50 rfl 1 rfl ?_
  refine z_iald C 21 0 rfl rfl l9 (nI_clamp (by omega)) (vp_in_nI (by omega) (by omega)) (plg l9) rfl dX4_repay_51 ?_
  refine z_iadd C (v := ((pap (ix (bor l9))) + (plg l9))) dX4_repay_52 rfl ?_
  refine z_iast C 23 0 rfl rfl (ix (bor l9)) (nI_clamp (by omega)) (vp_in_nI (by omega) (by omega)) ((pap (ix (bor l9))) + (plg l9)) rfl dX4_repay_53 (wX ad cI cZ (mvA (ix (bor l9)) (ix (ldr l9)) (due l9) acc) net tacc tnet flo bnd frm too amt pri wai byp ldr bor due plg clo (upd pap (ix (bor l9)) ((pap (ix (bor l9))) + (plg l9))) cnd small price cut proc (nI mk) (nI lm) (nI le)) rfl ?_
  exact z_vret C () (by exact trivial) rfl (by decide) (by decide) dX4_repay_54
set_option maxHeartbeats 4000000 in
set_option maxRecDepth 100000 in
theorem c_X4_close_y (l : Launch) (sa : Nat → Nat) (D : va_G) (cI cZ cL : ClassId) (ad : Nat → Nat) (acc net tacc tnet flo bnd frm too amt pri wai byp ldr bor due plg clo pap cnd : Nat → Int32) (small price cut proc : Int32) (mk lm le : Nat) (b : Nat) (hb : b < 5) (hcl : clo b = 0) (hmk : mk ≤ 60) (hfrm : wf5 mk frm) (htoo : wf5 mk too) : zMi (T := Unit) sa D vwCl (zty cI cZ cL) l yX4_close wsX4_close ({ frames := 1, cells := 0, slots := 0, locals := 22 } : Room) [.ref (ad 0), .int (nI b)] (wX ad cI cZ acc net tacc tnet flo bnd frm too amt pri wai byp ldr bor due plg clo pap cnd small price cut proc (nI mk) (nI lm) (nI le)) (fun r9 _ => r9 = 1) (fun _ => (wX ad cI cZ acc net tacc tnet flo bnd frm too amt pri (dropW frm too b mk wai) byp ldr bor due plg (upd clo b 1) pap cnd small price cut proc (nI mk) (nI lm) (nI le))) 0 0 := by
  refine zMi.of (ret := (some .int)) (cc := cX4_close) (nL := 2) (own := RX4) (by decide +kernel) rfl [(0, .ref (ad 0)), (1, .int (nI b))] rfl (Nat.le_of_ble_eq_true rfl) rfl ?_
  intro A p e s m args below meth c C hmn
  refine z_aload_n C dX4_close_0 rfl 0 rfl ?_
  refine z_get C 0 rfl i_X4_close_X4 rfl 5 (by decide) m_X4_close_f40 rfl rfl dX4_close_1 ?_
  refine z_iload_n C dX4_close_4 rfl 1 rfl ?_
  refine z_zald C 22 1 rfl rfl b (nI_clamp (by omega)) (vp_in_nI (by omega) (by omega)) (clo b) rfl dX4_close_5 ?_
  refine z_if_eq C (tgt := 11) dX4_close_6 (by decide) (fun c6_1 => ?_) (fun c6_1 => ?_)
  · skip
    refine z_aload_n C dX4_close_11 rfl 0 rfl ?_
    refine z_get C 0 rfl i_X4_close_X4 rfl 5 (by decide) m_X4_close_f40 rfl rfl dX4_close_12 ?_
    refine z_iload_n C dX4_close_15 rfl 1 rfl ?_
    refine z_iconst C (v := 1) dX4_close_16 (by decide) ?_
    refine z_zast C 22 1 rfl rfl b (nI_clamp (by omega)) (vp_in_nI (by omega) (by omega)) 1 (by decide) dX4_close_17 (wX ad cI cZ acc net tacc tnet flo bnd frm too amt pri wai byp ldr bor due plg (upd clo b 1) pap cnd small price cut proc (nI mk) (nI lm) (nI le)) rfl ?_
    refine z_aload_n C dX4_close_18 rfl 0 rfl ?_
    refine z_get C 0 rfl i_X4_close_X4 rfl 3 (by decide) m_X4_close_f29 rfl rfl dX4_close_19 ?_
    refine z_iload_n C dX4_close_22 rfl 1 rfl ?_
    refine z_callVv C (T := Unit) (As := [.int (nI b)]) (rest := []) (ws' := fun _ => (wX ad cI cZ acc net tacc tnet flo bnd frm too amt pri (dropW frm too b mk wai) byp ldr bor due plg (upd clo b 1) pap cnd small price cut proc (nI mk) (nI lm) (nI le))) (c_X2_dropAllOf l sa D cI cZ cL ad acc net tacc tnet flo bnd frm too amt pri wai byp ldr bor due plg (upd clo b 1) pap cnd small price cut proc mk lm le b (by first | assumption | omega) (by first | assumption | omega) (by first | assumption | omega) (by first | assumption | omega)) (cwV 1 C.2.2.2.2.1 gX4_close_X2_dropAllOf rfl rfl rfl (by decide +kernel) ⟨Nat.le_of_ble_eq_true rfl, Nat.le_of_ble_eq_true rfl⟩) 4 rfl rfl rfl (fun _ => zSub.full) zIn.full rfl (Nat.le_of_ble_eq_true rfl) ⟨Nat.le_of_ble_eq_true rfl, Nat.le_of_ble_eq_true rfl⟩ dX4_close_23 (fun _ _ => ?_)
    refine z_iconst C (v := 1) dX4_close_26 (by decide) ?_
    exact z_iret C () rfl (by first | rfl | contradiction) (by decide) (by decide) dX4_close_27
  · skip
    refine z_iconst C (v := 0) dX4_close_9 (by decide) ?_
    exact z_iret C () (by contradiction) (by first | rfl | contradiction) (by decide) (by decide) dX4_close_10
set_option maxHeartbeats 4000000 in
set_option maxRecDepth 100000 in
theorem c_X4_close_n (l : Launch) (sa : Nat → Nat) (D : va_G) (cI cZ cL : ClassId) (ad : Nat → Nat) (acc net tacc tnet flo bnd frm too amt pri wai byp ldr bor due plg clo pap cnd : Nat → Int32) (small price cut proc : Int32) (mk lm le : Nat) (b : Nat) (hb : b < 5) (hcl : ¬ clo b = 0) (hmk : mk ≤ 60) (hfrm : wf5 mk frm) (htoo : wf5 mk too) : zMi (T := Unit) sa D vwCl (zty cI cZ cL) l yX4_close wsX4_close ({ frames := 1, cells := 0, slots := 0, locals := 22 } : Room) [.ref (ad 0), .int (nI b)] (wX ad cI cZ acc net tacc tnet flo bnd frm too amt pri wai byp ldr bor due plg clo pap cnd small price cut proc (nI mk) (nI lm) (nI le)) (fun r9 _ => r9 = 0) (fun _ => (wX ad cI cZ acc net tacc tnet flo bnd frm too amt pri wai byp ldr bor due plg clo pap cnd small price cut proc (nI mk) (nI lm) (nI le))) 0 0 := by
  refine zMi.of (ret := (some .int)) (cc := cX4_close) (nL := 2) (own := RX4) (by decide +kernel) rfl [(0, .ref (ad 0)), (1, .int (nI b))] rfl (Nat.le_of_ble_eq_true rfl) rfl ?_
  intro A p e s m args below meth c C hmn
  refine z_aload_n C dX4_close_0 rfl 0 rfl ?_
  refine z_get C 0 rfl i_X4_close_X4 rfl 5 (by decide) m_X4_close_f40 rfl rfl dX4_close_1 ?_
  refine z_iload_n C dX4_close_4 rfl 1 rfl ?_
  refine z_zald C 22 1 rfl rfl b (nI_clamp (by omega)) (vp_in_nI (by omega) (by omega)) (clo b) rfl dX4_close_5 ?_
  refine z_if_eq C (tgt := 11) dX4_close_6 (by decide) (fun c6_1 => ?_) (fun c6_1 => ?_)
  · skip
    refine z_aload_n C dX4_close_11 rfl 0 rfl ?_
    refine z_get C 0 rfl i_X4_close_X4 rfl 5 (by decide) m_X4_close_f40 rfl rfl dX4_close_12 ?_
    refine z_iload_n C dX4_close_15 rfl 1 rfl ?_
    refine z_iconst C (v := 1) dX4_close_16 (by decide) ?_
    refine z_zast C 22 1 rfl rfl b (nI_clamp (by omega)) (vp_in_nI (by omega) (by omega)) 1 (by decide) dX4_close_17 (wX ad cI cZ acc net tacc tnet flo bnd frm too amt pri wai byp ldr bor due plg (upd clo b 1) pap cnd small price cut proc (nI mk) (nI lm) (nI le)) rfl ?_
    refine z_aload_n C dX4_close_18 rfl 0 rfl ?_
    refine z_get C 0 rfl i_X4_close_X4 rfl 3 (by decide) m_X4_close_f29 rfl rfl dX4_close_19 ?_
    refine z_iload_n C dX4_close_22 rfl 1 rfl ?_
    refine z_callVv C (T := Unit) (As := [.int (nI b)]) (rest := []) (ws' := fun _ => (wX ad cI cZ acc net tacc tnet flo bnd frm too amt pri (dropW frm too b mk wai) byp ldr bor due plg (upd clo b 1) pap cnd small price cut proc (nI mk) (nI lm) (nI le))) (c_X2_dropAllOf l sa D cI cZ cL ad acc net tacc tnet flo bnd frm too amt pri wai byp ldr bor due plg (upd clo b 1) pap cnd small price cut proc mk lm le b (by first | assumption | omega) (by first | assumption | omega) (by first | assumption | omega) (by first | assumption | omega)) (cwV 1 C.2.2.2.2.1 gX4_close_X2_dropAllOf rfl rfl rfl (by decide +kernel) ⟨Nat.le_of_ble_eq_true rfl, Nat.le_of_ble_eq_true rfl⟩) 4 rfl rfl rfl (fun _ => zSub.full) zIn.full rfl (Nat.le_of_ble_eq_true rfl) ⟨Nat.le_of_ble_eq_true rfl, Nat.le_of_ble_eq_true rfl⟩ dX4_close_23 (fun _ _ => ?_)
    refine z_iconst C (v := 1) dX4_close_26 (by decide) ?_
    exact z_iret C () (by contradiction) (by first | rfl | contradiction) (by decide) (by decide) dX4_close_27
  · skip
    refine z_iconst C (v := 0) dX4_close_9 (by decide) ?_
    exact z_iret C () rfl (by first | rfl | contradiction) (by decide) (by decide) dX4_close_10
set_option maxHeartbeats 4000000 in
set_option maxRecDepth 100000 in
theorem c_X4_sellPledge (l : Launch) (sa : Nat → Nat) (D : va_G) (cI cZ cL : ClassId) (ad : Nat → Nat) (acc net tacc tnet flo bnd frm too amt pri wai byp ldr bor due plg clo pap cnd : Nat → Int32) (small price cut proc : Int32) (mk lm le : Nat) (l9 : Nat) (hl9 : l9 < lm) (hlm : lm ≤ 40) (hldr : wf5 lm ldr) (hbor : wf5 lm bor) : zMv (T := Unit) sa D vwCl (zty cI cZ cL) l yX4_sellPledge wsX4_sellPledge ({ frames := 1, cells := 0, slots := 0, locals := 13 } : Room) [.ref (ad 0), .int (nI l9)] (wX ad cI cZ acc net tacc tnet flo bnd frm too amt pri wai byp ldr bor due plg clo pap cnd small price cut proc (nI mk) (nI lm) (nI le)) (fun _ => True) (fun _ => (wX ad cI cZ (selA (ix (bor l9)) (ix (ldr l9)) (due l9) (plg l9 * price) acc) net tacc tnet flo bnd frm too amt pri wai byp ldr bor due plg clo pap cnd small price cut (proc + plg l9 * price) (nI mk) (nI lm) (nI le))) 0 0 := by
  refine zMv.of (ret := none) (cc := cX4_sellPledge) (nL := 4) (own := RX4) (by decide +kernel) rfl [(0, .ref (ad 0)), (1, .int (nI l9))] rfl (Nat.le_of_ble_eq_true rfl) rfl ?_
  intro A p e s m args below meth c C hmn
  refine z_aload_n C dX4_sellPledge_0 rfl 0 rfl ?_
  refine z_get C 0 rfl i_X4_sellPledge_X4 rfl 4 (by decide) m_X4_sellPledge_f36 rfl rfl dX4_sellPledge_1 ?_
  refine z_get C 5 rfl i_X4_sellPledge_X1 rfl 3 (by decide) m_X4_sellPledge_f267 rfl rfl dX4_sellPledge_4 ?_
  refine z_iload_n C dX4_sellPledge_7 rfl 1 rfl ?_
  refine z_iald C 21 0 rfl rfl l9 (nI_clamp (by omega)) (vp_in_nI (by omega) (by omega)) (plg l9) rfl dX4_sellPledge_8 ?_
  refine z_aload_n C dX4_sellPledge_9 rfl 0 rfl ?_
  refine z_get C 0 rfl i_X4_sellPledge_X4 rfl 9 (by decide) m_X4_sellPledge_f55 rfl rfl dX4_sellPledge_10 ?_
  refine z_imul C (v := ((plg l9) * price)) dX4_sellPledge_13 rfl ?_
  refine z_istore_n C dX4_sellPledge_14 rfl (by decide) [(0, .ref (ad 0)), (1, .int (nI l9)), (2, .int ((plg l9) * price))] [1, 2, 0] rfl ?_
  refine z_iload_n C dX4_sellPledge_15 rfl 2 rfl ?_
  refine z_aload_n C dX4_sellPledge_16 rfl 0 rfl ?_
  refine z_get C 0 rfl i_X4_sellPledge_X4 rfl 4 (by decide) m_X4_sellPledge_f36 rfl rfl dX4_sellPledge_17 ?_
  refine z_get C 5 rfl i_X4_sellPledge_X1 rfl 2 (by decide) m_X4_sellPledge_f261 rfl rfl dX4_sellPledge_20 ?_
  refine z_iload_n C dX4_sellPledge_23 rfl 1 rfl ?_
  refine z_iald C 20 0 rfl rfl l9 (nI_clamp (by omega)) (vp_in_nI (by omega) (by omega)) (due l9) rfl dX4_sellPledge_24 ?_
  refine z_mmin C m_X4_sellPledge_l85 m_X4_sellPledge_lsmin m_X4_sellPledge_lmath m_X4_sellPledge_lcmin ⟨Nat.le_of_ble_eq_true rfl, Nat.le_of_ble_eq_true rfl, Nat.le_of_ble_eq_true rfl, Nat.le_of_ble_eq_true rfl⟩ (v := (if (due l9) < ((plg l9) * price) then (due l9) else ((plg l9) * price))) dX4_sellPledge_25 rfl ?_
  refine z_istore_n C dX4_sellPledge_28 rfl (by decide) [(0, .ref (ad 0)), (1, .int (nI l9)), (2, .int ((plg l9) * price)), (3, .int (if (due l9) < ((plg l9) * price) then (due l9) else ((plg l9) * price)))] [1, 2, 3, 0] rfl ?_
  refine z_aload_n C dX4_sellPledge_29 rfl 0 rfl ?_
  refine z_get C 0 rfl i_X4_sellPledge_X4 rfl 0 (by decide) m_X4_sellPledge_f10 rfl rfl dX4_sellPledge_30 ?_
  refine z_get C 1 rfl i_X4_sellPledge_X3 rfl 0 (by decide) m_X4_sellPledge_f73 rfl rfl dX4_sellPledge_33 ?_
  refine z_aload_n C dX4_sellPledge_36 rfl 0 rfl ?_
  refine z_get C 0 rfl i_X4_sellPledge_X4 rfl 4 (by decide) m_X4_sellPledge_f36 rfl rfl dX4_sellPledge_37 ?_
  refine z_get C 5 rfl i_X4_sellPledge_X1 rfl 0 (by decide) m_X4_sellPledge_f264 rfl rfl dX4_sellPledge_40 ?_
  refine z_iload_n C dX4_sellPledge_43 rfl 1 rfl ?_
  have := (hldr l9 (by omega)).2
  refine z_iald C 18 0 rfl rfl l9 (nI_clamp (by omega)) (vp_in_nI (by omega) (by omega)) (nI (ix (ldr l9))) (hldr l9 (by omega)).1 dX4_sellPledge_44 ?_
  refine z_dup2 C dX4_sellPledge_45 rfl rfl ?_
  refine z_iald C 6 0 rfl rfl (ix (ldr l9)) (nI_clamp (by omega)) (vp_in_nI (by omega) (by omega)) (acc (ix (ldr l9))) rfl dX4_sellPledge_46 ?_
  refine z_iload_n C dX4_sellPledge_47 rfl 3 rfl ?_
  refine z_iadd C (v := ((acc (ix (ldr l9))) + (if (due l9) < ((plg l9) * price) then (due l9) else ((plg l9) * price)))) dX4_sellPledge_48 rfl ?_
  refine z_iast C 6 0 rfl rfl (ix (ldr l9)) (nI_clamp (by omega)) (vp_in_nI (by omega) (by omega)) ((acc (ix (ldr l9))) + (if (due l9) < ((plg l9) * price) then (due l9) else ((plg l9) * price))) rfl dX4_sellPledge_49 (wX ad cI cZ (upd acc (ix (ldr l9)) ((acc (ix (ldr l9))) + (if (due l9) < ((plg l9) * price) then (due l9) else ((plg l9) * price)))) net tacc tnet flo bnd frm too amt pri wai byp ldr bor due plg clo pap cnd small price cut proc (nI mk) (nI lm) (nI le)) rfl ?_
  refine z_aload_n C dX4_sellPledge_50 rfl 0 rfl ?_
  refine z_get C 0 rfl i_X4_sellPledge_X4 rfl 0 (by decide) m_X4_sellPledge_f10 rfl rfl dX4_sellPledge_51 ?_
  refine z_get C 1 rfl i_X4_sellPledge_X3 rfl 0 (by decide) m_X4_sellPledge_f73 rfl rfl dX4_sellPledge_54 ?_
  refine z_aload_n C dX4_sellPledge_57 rfl 0 rfl ?_
  refine z_get C 0 rfl i_X4_sellPledge_X4 rfl 4 (by decide) m_X4_sellPledge_f36 rfl rfl dX4_sellPledge_58 ?_
  refine z_get C 5 rfl i_X4_sellPledge_X1 rfl 1 (by decide) m_X4_sellPledge_f183 rfl rfl dX4_sellPledge_61 ?_
  refine z_iload_n C dX4_sellPledge_64 rfl 1 rfl ?_
  have := (hbor l9 (by omega)).2
  refine z_iald C 19 0 rfl rfl l9 (nI_clamp (by omega)) (vp_in_nI (by omega) (by omega)) (nI (ix (bor l9))) (hbor l9 (by omega)).1 dX4_sellPledge_65 ?_
  refine z_dup2 C dX4_sellPledge_66 rfl rfl ?_
  refine z_iald C 6 0 rfl rfl (ix (bor l9)) (nI_clamp (by omega)) (vp_in_nI (by omega) (by omega)) ((upd acc (ix (ldr l9)) ((acc (ix (ldr l9))) + (if (due l9) < ((plg l9) * price) then (due l9) else ((plg l9) * price)))) (ix (bor l9))) rfl dX4_sellPledge_67 ?_
  refine z_iload_n C dX4_sellPledge_68 rfl 2 rfl ?_
  refine z_iload_n C dX4_sellPledge_69 rfl 3 rfl ?_
  refine z_isub C (v := (((plg l9) * price) - (if (due l9) < ((plg l9) * price) then (due l9) else ((plg l9) * price)))) dX4_sellPledge_70 rfl ?_
  refine z_iadd C (v := (((upd acc (ix (ldr l9)) ((acc (ix (ldr l9))) + (if (due l9) < ((plg l9) * price) then (due l9) else ((plg l9) * price)))) (ix (bor l9))) + (((plg l9) * price) - (if (due l9) < ((plg l9) * price) then (due l9) else ((plg l9) * price))))) dX4_sellPledge_71 rfl ?_
  refine z_iast C 6 0 rfl rfl (ix (bor l9)) (nI_clamp (by omega)) (vp_in_nI (by omega) (by omega)) (((upd acc (ix (ldr l9)) ((acc (ix (ldr l9))) + (if (due l9) < ((plg l9) * price) then (due l9) else ((plg l9) * price)))) (ix (bor l9))) + (((plg l9) * price) - (if (due l9) < ((plg l9) * price) then (due l9) else ((plg l9) * price)))) rfl dX4_sellPledge_72 (wX ad cI cZ (upd (upd acc (ix (ldr l9)) ((acc (ix (ldr l9))) + (if (due l9) < ((plg l9) * price) then (due l9) else ((plg l9) * price)))) (ix (bor l9)) (((upd acc (ix (ldr l9)) ((acc (ix (ldr l9))) + (if (due l9) < ((plg l9) * price) then (due l9) else ((plg l9) * price)))) (ix (bor l9))) + (((plg l9) * price) - (if (due l9) < ((plg l9) * price) then (due l9) else ((plg l9) * price))))) net tacc tnet flo bnd frm too amt pri wai byp ldr bor due plg clo pap cnd small price cut proc (nI mk) (nI lm) (nI le)) rfl ?_
  refine z_aload_n C dX4_sellPledge_73 rfl 0 rfl ?_
  refine z_dup C dX4_sellPledge_74 rfl ?_
  refine z_get C 0 rfl i_X4_sellPledge_X4 rfl 11 (by decide) m_X4_sellPledge_f192 rfl rfl dX4_sellPledge_75 ?_
  refine z_iload_n C dX4_sellPledge_78 rfl 2 rfl ?_
  refine z_iadd C (v := (proc + ((plg l9) * price))) dX4_sellPledge_79 rfl ?_
  refine z_put C 0 rfl i_X4_sellPledge_X4 rfl 11 (by decide) m_X4_sellPledge_f192 rfl tyX4 tyX4_ok nmX4 rfl (ty := .int) (by decide +kernel) rfl rfl (Nat.le_of_ble_eq_true rfl) dX4_sellPledge_80 (wX ad cI cZ (upd (upd acc (ix (ldr l9)) ((acc (ix (ldr l9))) + (if (due l9) < ((plg l9) * price) then (due l9) else ((plg l9) * price)))) (ix (bor l9)) (((upd acc (ix (ldr l9)) ((acc (ix (ldr l9))) + (if (due l9) < ((plg l9) * price) then (due l9) else ((plg l9) * price)))) (ix (bor l9))) + (((plg l9) * price) - (if (due l9) < ((plg l9) * price) then (due l9) else ((plg l9) * price))))) net tacc tnet flo bnd frm too amt pri wai byp ldr bor due plg clo pap cnd small price cut (proc + ((plg l9) * price)) (nI mk) (nI lm) (nI le)) rfl ?_
  exact z_vret C () (by exact trivial) rfl (by decide) (by decide) dX4_sellPledge_83
set_option maxHeartbeats 4000000 in
set_option maxRecDepth 100000 in
theorem c_X4_morning (l : Launch) (sa : Nat → Nat) (D : va_G) (cI cZ cL : ClassId) (ad : Nat → Nat) (acc net tacc tnet flo bnd frm too amt pri wai byp ldr bor due plg clo pap cnd : Nat → Int32) (small price cut proc : Int32) (mk lm le : Nat)  (hmk : mk ≤ 60) (hfrm : wf5 mk frm) (htoo : wf5 mk too) (hlm : lm ≤ 40) (hldr : wf5 lm ldr) (hbor : wf5 lm bor) (hle : le ≤ lm) : zMi (T := Unit) sa D vwCl (zty cI cZ cL) l yX4_morning wsX4_morning ({ frames := 2, cells := 0, slots := 0, locals := 45 } : Room) [.ref (ad 0)] (wX ad cI cZ acc net tacc tnet flo bnd frm too amt pri wai byp ldr bor due plg clo pap cnd small price cut proc (nI mk) (nI lm) (nI le)) (fun r9 _ => r9 = (nI ((mnF flo frm too ldr bor due plg price mk (acc, pap, clo, wai, proc, 0) le (lm - le)).2.2.2.2.2))) (fun _ => (wX ad cI cZ ((mnF flo frm too ldr bor due plg price mk (acc, pap, clo, wai, proc, 0) le (lm - le)).1) (clrN net 25) tacc tnet flo bnd frm too amt pri ((mnF flo frm too ldr bor due plg price mk (acc, pap, clo, wai, proc, 0) le (lm - le)).2.2.2.1) byp ldr bor due plg ((mnF flo frm too ldr bor due plg price mk (acc, pap, clo, wai, proc, 0) le (lm - le)).2.2.1) ((mnF flo frm too ldr bor due plg price mk (acc, pap, clo, wai, proc, 0) le (lm - le)).2.1) cnd small price cut ((mnF flo frm too ldr bor due plg price mk (acc, pap, clo, wai, proc, 0) le (lm - le)).2.2.2.2.1) (nI mk) (nI lm) (nI lm))) 0 0 := by
  refine zMi.of (ret := (some .int)) (cc := cX4_morning) (nL := 3) (own := RX4) (by decide +kernel) rfl [(0, .ref (ad 0))] rfl (Nat.le_of_ble_eq_true rfl) rfl ?_
  intro A p e s m args below meth c C hmn
  refine z_aload_n C dX4_morning_0 rfl 0 rfl ?_
  refine z_get C 0 rfl i_X4_morning_X4 rfl 0 (by decide) m_X4_morning_f10 rfl rfl dX4_morning_1 ?_
  refine z_callVv C (T := Unit) (As := []) (rest := []) (ws' := fun _ => (wX ad cI cZ acc (clrN net 25) tacc tnet flo bnd frm too amt pri wai byp ldr bor due plg clo pap cnd small price cut proc (nI mk) (nI lm) (nI le))) (c_X3_forgetPaid l sa D cI cZ cL (ad 1) (ad 6) (ad 7) acc net  ) (cwV 0 C.2.2.2.2.1 gX4_morning_X3_forgetPaid rfl rfl rfl (by decide +kernel) ⟨Nat.le_of_ble_eq_true rfl, Nat.le_of_ble_eq_true rfl⟩) 1 rfl rfl rfl (fun _ => (zSub.of (wr := [((ad 0), .inr (4, [.ref (ad 1), .ref (ad 2), .ref (ad 3), .ref (ad 4), .ref (ad 5), .ref (ad 22), .ref (ad 23), .ref (ad 24), .int small, .int price, .int cut, .int proc])), ((ad 2), .inr (3, [.ref (ad 8), .ref (ad 9)])), ((ad 3), .inr (0, [.ref (ad 10), .ref (ad 11)])), ((ad 4), .inr (2, [.ref (ad 12), .ref (ad 13), .ref (ad 14), .ref (ad 15), .ref (ad 16), .ref (ad 17), .int (nI mk)])), ((ad 5), .inr (1, [.ref (ad 18), .ref (ad 19), .ref (ad 20), .ref (ad 21), .int (nI lm), .int (nI le)])), ((ad 8), .inl (cI, 5, .inl tacc)), ((ad 9), .inl (cI, 25, .inl tnet)), ((ad 10), .inl (cI, 5, .inl flo)), ((ad 11), .inl (cI, 25, .inl bnd)), ((ad 12), .inl (cI, 60, .inl frm)), ((ad 13), .inl (cI, 60, .inl too)), ((ad 14), .inl (cI, 60, .inl amt)), ((ad 15), .inl (cI, 60, .inl pri)), ((ad 16), .inl (cZ, 60, .inl wai)), ((ad 17), .inl (cI, 60, .inl byp)), ((ad 18), .inl (cI, 40, .inl ldr)), ((ad 19), .inl (cI, 40, .inl bor)), ((ad 20), .inl (cI, 40, .inl due)), ((ad 21), .inl (cI, 40, .inl plg)), ((ad 22), .inl (cZ, 5, .inl clo)), ((ad 23), .inl (cI, 5, .inl pap)), ((ad 24), .inl (cI, 10, .inl cnd))]) [1, 6, 7] [0, 2, 3, 4, 5, 8, 9, 10, 11, 12, 13, 14, 15, 16, 17, 18, 19, 20, 21, 22, 23, 24] [0, 22, 1, 2, 3, 4, 23, 24, 5, 6, 7, 8, 9, 10, 11, 12, 13, 14, 15, 16, 17, 18, 19, 20, 21] rfl rfl rfl rfl (by decide) rfl rfl)) (zIn.of [1, 6, 7] rfl rfl) rfl (Nat.le_of_ble_eq_true rfl) ⟨Nat.le_of_ble_eq_true rfl, Nat.le_of_ble_eq_true rfl⟩ dX4_morning_4 (fun _ _ => ?_)
  refine z_iconst C (v := 0) dX4_morning_7 (by decide) ?_
  refine z_istore_n C dX4_morning_8 rfl (by decide) [(0, .ref (ad 0)), (1, .int 0)] [1, 0] rfl ?_
  refine z_aload_n C dX4_morning_9 rfl 0 rfl ?_
  refine z_get C 0 rfl i_X4_morning_X4 rfl 4 (by decide) m_X4_morning_f36 rfl rfl dX4_morning_10 ?_
  refine z_get C 5 rfl i_X4_morning_X1 rfl 5 (by decide) m_X4_morning_f170 rfl rfl dX4_morning_13 ?_
  refine z_istore_n C dX4_morning_16 rfl (by decide) [(0, .ref (ad 0)), (1, .int 0), (2, .int (nI le))] [1, 2, 0] rfl ?_
  have L17_k_1 : ∀ (n : Nat) (k : Nat), lm - (le + k) < n → (le + k ≤ lm) → zW 0 p l e ({ frames := 2, cells := 0, slots := 0, locals := 45 } : Room) s m args below meth c (MQ below (zQi (T := Unit) D vwCl (zty cI cZ cL) A (fun r9 _ => r9 = (nI ((mnF flo frm too ldr bor due plg price mk (acc, pap, clo, wai, proc, 0) le (lm - le)).2.2.2.2.2))) (fun _ => (wX ad cI cZ ((mnF flo frm too ldr bor due plg price mk (acc, pap, clo, wai, proc, 0) le (lm - le)).1) (clrN net 25) tacc tnet flo bnd frm too amt pri ((mnF flo frm too ldr bor due plg price mk (acc, pap, clo, wai, proc, 0) le (lm - le)).2.2.2.1) byp ldr bor due plg ((mnF flo frm too ldr bor due plg price mk (acc, pap, clo, wai, proc, 0) le (lm - le)).2.2.1) ((mnF flo frm too ldr bor due plg price mk (acc, pap, clo, wai, proc, 0) le (lm - le)).2.1) cnd small price cut ((mnF flo frm too ldr bor due plg price mk (acc, pap, clo, wai, proc, 0) le (lm - le)).2.2.2.2.1) (nI mk) (nI lm) (nI lm)))) args s 0 0 A) D vwCl A 3 0 0 (wX ad cI cZ ((mnF flo frm too ldr bor due plg price mk (acc, pap, clo, wai, proc, 0) le k).1) (clrN net 25) tacc tnet flo bnd frm too amt pri ((mnF flo frm too ldr bor due plg price mk (acc, pap, clo, wai, proc, 0) le k).2.2.2.1) byp ldr bor due plg ((mnF flo frm too ldr bor due plg price mk (acc, pap, clo, wai, proc, 0) le k).2.2.1) ((mnF flo frm too ldr bor due plg price mk (acc, pap, clo, wai, proc, 0) le k).2.1) cnd small price cut ((mnF flo frm too ldr bor due plg price mk (acc, pap, clo, wai, proc, 0) le k).2.2.2.2.1) (nI mk) (nI lm) (nI le)) [(0, .ref (ad 0)), (1, .int (nI ((mnF flo frm too ldr bor due plg price mk (acc, pap, clo, wai, proc, 0) le k).2.2.2.2.2))), (2, .int (nI (le + k)))] 17 [] := by
    intro n
    induction n with
    | zero => intros; omega
    | succ n ih_2 =>
      intro k hm_3 hi
      refine z_iload_n C dX4_morning_17 rfl 2 rfl ?_
      refine z_aload_n C dX4_morning_18 rfl 0 rfl ?_
      refine z_get C 0 rfl i_X4_morning_X4 rfl 4 (by decide) m_X4_morning_f36 rfl rfl dX4_morning_19 ?_
      refine z_get C 5 rfl i_X4_morning_X1 rfl 4 (by decide) m_X4_morning_f169 rfl rfl dX4_morning_22 ?_
      refine z_icmp_ge C (tgt := 71) dX4_morning_25 (by decide) (fun c25_4 => ?_) (fun c25_4 => ?_)
      · skip
        have n_5 : lm ≤ (le + k) := (nI_leI (a := lm) (b := le + k) (by omega) (by omega)).mp c25_4
        refine z_aload_n C dX4_morning_71 rfl 0 rfl ?_
        refine z_get C 0 rfl i_X4_morning_X4 rfl 4 (by decide) m_X4_morning_f36 rfl rfl dX4_morning_72 ?_
        refine z_aload_n C dX4_morning_75 rfl 0 rfl ?_
        refine z_get C 0 rfl i_X4_morning_X4 rfl 4 (by decide) m_X4_morning_f36 rfl rfl dX4_morning_76 ?_
        refine z_get C 5 rfl i_X4_morning_X1 rfl 4 (by decide) m_X4_morning_f169 rfl rfl dX4_morning_79 ?_
        refine z_put C 5 rfl i_X4_morning_X1 rfl 5 (by decide) m_X4_morning_f170 rfl tyX1 tyX1_ok nmX1 rfl (ty := .int) (by decide +kernel) rfl rfl (Nat.le_of_ble_eq_true rfl) dX4_morning_82 (wX ad cI cZ ((mnF flo frm too ldr bor due plg price mk (acc, pap, clo, wai, proc, 0) le k).1) (clrN net 25) tacc tnet flo bnd frm too amt pri ((mnF flo frm too ldr bor due plg price mk (acc, pap, clo, wai, proc, 0) le k).2.2.2.1) byp ldr bor due plg ((mnF flo frm too ldr bor due plg price mk (acc, pap, clo, wai, proc, 0) le k).2.2.1) ((mnF flo frm too ldr bor due plg price mk (acc, pap, clo, wai, proc, 0) le k).2.1) cnd small price cut ((mnF flo frm too ldr bor due plg price mk (acc, pap, clo, wai, proc, 0) le k).2.2.2.2.1) (nI mk) (nI lm) (nI lm)) rfl ?_
        refine z_iload_n C dX4_morning_85 rfl 1 rfl ?_
        exact z_iret C () (by obtain rfl : k = lm - le := (by omega); rfl) (by obtain rfl : k = lm - le := (by omega); rfl) (by decide) (by decide) dX4_morning_86
      · skip
        have n_6 : ¬ lm ≤ (le + k) := fun q => c25_4 ((nI_leI (a := lm) (b := le + k) (by omega) (by omega)).mpr q)
        refine z_aload_n C dX4_morning_28 rfl 0 rfl ?_
        refine z_iload_n C dX4_morning_29 rfl 2 rfl ?_
        refine z_case (((mnF flo frm too ldr bor due plg price mk (acc, pap, clo, wai, proc, 0) le k).2.2.1) (ix (bor (le + k))) = 0 ∧ flo (ix (bor (le + k))) ≤ ((mnF flo frm too ldr bor due plg price mk (acc, pap, clo, wai, proc, 0) le k).1) (ix (bor (le + k))) - due (le + k)) (fun hp_7 => ?_) (fun hp_7 => ?_)
        · skip
          refine z_callVi C (T := Unit) (As := [.int (nI (le + k))]) (rest := []) (ws' := fun _ => (wX ad cI cZ ((mnF flo frm too ldr bor due plg price mk (acc, pap, clo, wai, proc, 0) le k).1) (clrN net 25) tacc tnet flo bnd frm too amt pri ((mnF flo frm too ldr bor due plg price mk (acc, pap, clo, wai, proc, 0) le k).2.2.2.1) byp ldr bor due plg ((mnF flo frm too ldr bor due plg price mk (acc, pap, clo, wai, proc, 0) le k).2.2.1) ((mnF flo frm too ldr bor due plg price mk (acc, pap, clo, wai, proc, 0) le k).2.1) cnd small price cut ((mnF flo frm too ldr bor due plg price mk (acc, pap, clo, wai, proc, 0) le k).2.2.2.2.1) (nI mk) (nI lm) (nI le))) (c_X4_canRepay l sa D cI cZ cL ad ((mnF flo frm too ldr bor due plg price mk (acc, pap, clo, wai, proc, 0) le k).1) (clrN net 25) tacc tnet flo bnd frm too amt pri ((mnF flo frm too ldr bor due plg price mk (acc, pap, clo, wai, proc, 0) le k).2.2.2.1) byp ldr bor due plg ((mnF flo frm too ldr bor due plg price mk (acc, pap, clo, wai, proc, 0) le k).2.2.1) ((mnF flo frm too ldr bor due plg price mk (acc, pap, clo, wai, proc, 0) le k).2.1) cnd small price cut ((mnF flo frm too ldr bor due plg price mk (acc, pap, clo, wai, proc, 0) le k).2.2.2.2.1) mk lm le (le + k) (by first | assumption | omega) (by first | assumption | omega) (by first | assumption | omega) (by first | assumption | omega)) (cwV 1 C.2.2.2.2.1 gX4_morning_X4_canRepay rfl rfl rfl (by decide +kernel) ⟨Nat.le_of_ble_eq_true rfl, Nat.le_of_ble_eq_true rfl⟩) 0 rfl rfl rfl (fun _ => zSub.full) zIn.full rfl (Nat.le_of_ble_eq_true rfl) ⟨Nat.le_of_ble_eq_true rfl, Nat.le_of_ble_eq_true rfl⟩ dX4_morning_30 (fun r_8 _ h_9 => ?_)
          obtain rfl : r_8 = 1 := h_9.trans (if_pos hp_7)
          refine z_if_eq C (tgt := 44) dX4_morning_33 (by decide) (fun h => absurd h (by decide)) (fun _ => ?_)
          refine z_aload_n C dX4_morning_36 rfl 0 rfl ?_
          refine z_iload_n C dX4_morning_37 rfl 2 rfl ?_
          refine z_callVv C (T := Unit) (As := [.int (nI (le + k))]) (rest := []) (ws' := fun _ => (wX ad cI cZ (mvA (ix (bor (le + k))) (ix (ldr (le + k))) (due (le + k)) ((mnF flo frm too ldr bor due plg price mk (acc, pap, clo, wai, proc, 0) le k).1)) (clrN net 25) tacc tnet flo bnd frm too amt pri ((mnF flo frm too ldr bor due plg price mk (acc, pap, clo, wai, proc, 0) le k).2.2.2.1) byp ldr bor due plg ((mnF flo frm too ldr bor due plg price mk (acc, pap, clo, wai, proc, 0) le k).2.2.1) (upd ((mnF flo frm too ldr bor due plg price mk (acc, pap, clo, wai, proc, 0) le k).2.1) (ix (bor (le + k))) (((mnF flo frm too ldr bor due plg price mk (acc, pap, clo, wai, proc, 0) le k).2.1) (ix (bor (le + k))) + plg (le + k))) cnd small price cut ((mnF flo frm too ldr bor due plg price mk (acc, pap, clo, wai, proc, 0) le k).2.2.2.2.1) (nI mk) (nI lm) (nI le))) (c_X4_repay l sa D cI cZ cL ad ((mnF flo frm too ldr bor due plg price mk (acc, pap, clo, wai, proc, 0) le k).1) (clrN net 25) tacc tnet flo bnd frm too amt pri ((mnF flo frm too ldr bor due plg price mk (acc, pap, clo, wai, proc, 0) le k).2.2.2.1) byp ldr bor due plg ((mnF flo frm too ldr bor due plg price mk (acc, pap, clo, wai, proc, 0) le k).2.2.1) ((mnF flo frm too ldr bor due plg price mk (acc, pap, clo, wai, proc, 0) le k).2.1) cnd small price cut ((mnF flo frm too ldr bor due plg price mk (acc, pap, clo, wai, proc, 0) le k).2.2.2.2.1) mk lm le (le + k) (by first | assumption | omega) (by first | assumption | omega) (by first | assumption | omega) (by first | assumption | omega)) (cwV 1 C.2.2.2.2.1 gX4_morning_X4_repay rfl rfl rfl (by decide +kernel) ⟨Nat.le_of_ble_eq_true rfl, Nat.le_of_ble_eq_true rfl⟩) 0 rfl rfl rfl (fun _ => zSub.full) zIn.full rfl (Nat.le_of_ble_eq_true rfl) ⟨Nat.le_of_ble_eq_true rfl, Nat.le_of_ble_eq_true rfl⟩ dX4_morning_38 (fun _ _ => ?_)
          refine z_goto C (tgt := 65) dX4_morning_41 (by decide) ?_
          refine z_iinc C (v := (nI ((le + k) + 1))) dX4_morning_65 2 rfl (nI_add (le + k) 1) (by decide) [(0, .ref (ad 0)), (1, .int (nI ((mnF flo frm too ldr bor due plg price mk (acc, pap, clo, wai, proc, 0) le k).2.2.2.2.2))), (2, .int (nI ((le + k) + 1)))] [1, 2, 0] rfl ?_
          refine z_goto C (tgt := 17) dX4_morning_68 (by decide) ?_
          refine z_ws (wX ad cI cZ ((mnF flo frm too ldr bor due plg price mk (acc, pap, clo, wai, proc, 0) le (k + 1)).1) (clrN net 25) tacc tnet flo bnd frm too amt pri ((mnF flo frm too ldr bor due plg price mk (acc, pap, clo, wai, proc, 0) le (k + 1)).2.2.2.1) byp ldr bor due plg ((mnF flo frm too ldr bor due plg price mk (acc, pap, clo, wai, proc, 0) le (k + 1)).2.2.1) ((mnF flo frm too ldr bor due plg price mk (acc, pap, clo, wai, proc, 0) le (k + 1)).2.1) cnd small price cut ((mnF flo frm too ldr bor due plg price mk (acc, pap, clo, wai, proc, 0) le (k + 1)).2.2.2.2.1) (nI mk) (nI lm) (nI le)) (by simp only [mnF]; (first | (rw [mnS_r (by assumption)]) | (rw [mnS_c (by assumption) (by assumption)]) | (rw [mnS_o (by assumption) (by assumption)])); try rfl) ?_
          refine z_lveq [(0, .ref (ad 0)), (1, .int (nI ((mnF flo frm too ldr bor due plg price mk (acc, pap, clo, wai, proc, 0) le (k + 1)).2.2.2.2.2))), (2, .int (nI (le + (k + 1))))] (by simp only [mnF]; (first | (rw [mnS_r (by assumption)]) | (rw [mnS_c (by assumption) (by assumption)]) | (rw [mnS_o (by assumption) (by assumption)])); try rfl) ?_
          exact ih_2 (k + 1) (by omega) (by first | assumption | omega)
        · skip
          refine z_callVi C (T := Unit) (As := [.int (nI (le + k))]) (rest := []) (ws' := fun _ => (wX ad cI cZ ((mnF flo frm too ldr bor due plg price mk (acc, pap, clo, wai, proc, 0) le k).1) (clrN net 25) tacc tnet flo bnd frm too amt pri ((mnF flo frm too ldr bor due plg price mk (acc, pap, clo, wai, proc, 0) le k).2.2.2.1) byp ldr bor due plg ((mnF flo frm too ldr bor due plg price mk (acc, pap, clo, wai, proc, 0) le k).2.2.1) ((mnF flo frm too ldr bor due plg price mk (acc, pap, clo, wai, proc, 0) le k).2.1) cnd small price cut ((mnF flo frm too ldr bor due plg price mk (acc, pap, clo, wai, proc, 0) le k).2.2.2.2.1) (nI mk) (nI lm) (nI le))) (c_X4_canRepay l sa D cI cZ cL ad ((mnF flo frm too ldr bor due plg price mk (acc, pap, clo, wai, proc, 0) le k).1) (clrN net 25) tacc tnet flo bnd frm too amt pri ((mnF flo frm too ldr bor due plg price mk (acc, pap, clo, wai, proc, 0) le k).2.2.2.1) byp ldr bor due plg ((mnF flo frm too ldr bor due plg price mk (acc, pap, clo, wai, proc, 0) le k).2.2.1) ((mnF flo frm too ldr bor due plg price mk (acc, pap, clo, wai, proc, 0) le k).2.1) cnd small price cut ((mnF flo frm too ldr bor due plg price mk (acc, pap, clo, wai, proc, 0) le k).2.2.2.2.1) mk lm le (le + k) (by first | assumption | omega) (by first | assumption | omega) (by first | assumption | omega) (by first | assumption | omega)) (cwV 1 C.2.2.2.2.1 gX4_morning_X4_canRepay rfl rfl rfl (by decide +kernel) ⟨Nat.le_of_ble_eq_true rfl, Nat.le_of_ble_eq_true rfl⟩) 0 rfl rfl rfl (fun _ => zSub.full) zIn.full rfl (Nat.le_of_ble_eq_true rfl) ⟨Nat.le_of_ble_eq_true rfl, Nat.le_of_ble_eq_true rfl⟩ dX4_morning_30 (fun r_10 _ h_11 => ?_)
          obtain rfl : r_10 = 0 := h_11.trans (if_neg hp_7)
          refine z_if_eq C (tgt := 44) dX4_morning_33 (by decide) (fun _ => ?_) (fun h => absurd h (by decide))
          refine z_iload_n C dX4_morning_44 rfl 1 rfl ?_
          refine z_aload_n C dX4_morning_45 rfl 0 rfl ?_
          refine z_aload_n C dX4_morning_46 rfl 0 rfl ?_
          refine z_get C 0 rfl i_X4_morning_X4 rfl 4 (by decide) m_X4_morning_f36 rfl rfl dX4_morning_47 ?_
          refine z_get C 5 rfl i_X4_morning_X1 rfl 1 (by decide) m_X4_morning_f183 rfl rfl dX4_morning_50 ?_
          refine z_iload_n C dX4_morning_53 rfl 2 rfl ?_
          have := (hbor (le + k) (by omega)).2
          refine z_iald C 19 0 rfl rfl (le + k) (nI_clamp (by omega)) (vp_in_nI (by omega) (by omega)) (nI (ix (bor (le + k)))) (hbor (le + k) (by omega)).1 dX4_morning_54 ?_
          refine z_case (((mnF flo frm too ldr bor due plg price mk (acc, pap, clo, wai, proc, 0) le k).2.2.1) (ix (bor (le + k))) = 0) (fun hp_12 => ?_) (fun hp_12 => ?_)
          · skip
            refine z_callVi C (T := Unit) (As := [.int (nI (ix (bor (le + k))))]) (rest := [.int (nI ((mnF flo frm too ldr bor due plg price mk (acc, pap, clo, wai, proc, 0) le k).2.2.2.2.2))]) (ws' := fun _ => (wX ad cI cZ ((mnF flo frm too ldr bor due plg price mk (acc, pap, clo, wai, proc, 0) le k).1) (clrN net 25) tacc tnet flo bnd frm too amt pri (dropW frm too (ix (bor (le + k))) mk ((mnF flo frm too ldr bor due plg price mk (acc, pap, clo, wai, proc, 0) le k).2.2.2.1)) byp ldr bor due plg (upd ((mnF flo frm too ldr bor due plg price mk (acc, pap, clo, wai, proc, 0) le k).2.2.1) (ix (bor (le + k))) 1) ((mnF flo frm too ldr bor due plg price mk (acc, pap, clo, wai, proc, 0) le k).2.1) cnd small price cut ((mnF flo frm too ldr bor due plg price mk (acc, pap, clo, wai, proc, 0) le k).2.2.2.2.1) (nI mk) (nI lm) (nI le))) (c_X4_close_y l sa D cI cZ cL ad ((mnF flo frm too ldr bor due plg price mk (acc, pap, clo, wai, proc, 0) le k).1) (clrN net 25) tacc tnet flo bnd frm too amt pri ((mnF flo frm too ldr bor due plg price mk (acc, pap, clo, wai, proc, 0) le k).2.2.2.1) byp ldr bor due plg ((mnF flo frm too ldr bor due plg price mk (acc, pap, clo, wai, proc, 0) le k).2.2.1) ((mnF flo frm too ldr bor due plg price mk (acc, pap, clo, wai, proc, 0) le k).2.1) cnd small price cut ((mnF flo frm too ldr bor due plg price mk (acc, pap, clo, wai, proc, 0) le k).2.2.2.2.1) mk lm le (ix (bor (le + k))) (by first | assumption | omega) (by first | assumption | omega) (by first | assumption | omega) (by first | assumption | omega) (by first | assumption | omega)) (cwV 1 C.2.2.2.2.1 gX4_morning_X4_close rfl rfl rfl (by decide +kernel) ⟨Nat.le_of_ble_eq_true rfl, Nat.le_of_ble_eq_true rfl⟩) 0 rfl rfl rfl (fun _ => zSub.full) zIn.full rfl (Nat.le_of_ble_eq_true rfl) ⟨Nat.le_of_ble_eq_true rfl, Nat.le_of_ble_eq_true rfl⟩ dX4_morning_55 (fun r_13 _ h_14 => ?_)
            obtain rfl : r_13 = 1 := h_14
            refine z_iadd C (v := (nI (((mnF flo frm too ldr bor due plg price mk (acc, pap, clo, wai, proc, 0) le k).2.2.2.2.2) + 1))) dX4_morning_58 (nI_add ((mnF flo frm too ldr bor due plg price mk (acc, pap, clo, wai, proc, 0) le k).2.2.2.2.2) 1) ?_
            refine z_istore_n C dX4_morning_59 rfl (by decide) [(0, .ref (ad 0)), (1, .int (nI (((mnF flo frm too ldr bor due plg price mk (acc, pap, clo, wai, proc, 0) le k).2.2.2.2.2) + 1))), (2, .int (nI (le + k)))] [1, 0, 2] rfl ?_
            refine z_aload_n C dX4_morning_60 rfl 0 rfl ?_
            refine z_iload_n C dX4_morning_61 rfl 2 rfl ?_
            refine z_callVv C (T := Unit) (As := [.int (nI (le + k))]) (rest := []) (ws' := fun _ => (wX ad cI cZ (selA (ix (bor (le + k))) (ix (ldr (le + k))) (due (le + k)) (plg (le + k) * price) ((mnF flo frm too ldr bor due plg price mk (acc, pap, clo, wai, proc, 0) le k).1)) (clrN net 25) tacc tnet flo bnd frm too amt pri (dropW frm too (ix (bor (le + k))) mk ((mnF flo frm too ldr bor due plg price mk (acc, pap, clo, wai, proc, 0) le k).2.2.2.1)) byp ldr bor due plg (upd ((mnF flo frm too ldr bor due plg price mk (acc, pap, clo, wai, proc, 0) le k).2.2.1) (ix (bor (le + k))) 1) ((mnF flo frm too ldr bor due plg price mk (acc, pap, clo, wai, proc, 0) le k).2.1) cnd small price cut (((mnF flo frm too ldr bor due plg price mk (acc, pap, clo, wai, proc, 0) le k).2.2.2.2.1) + plg (le + k) * price) (nI mk) (nI lm) (nI le))) (c_X4_sellPledge l sa D cI cZ cL ad ((mnF flo frm too ldr bor due plg price mk (acc, pap, clo, wai, proc, 0) le k).1) (clrN net 25) tacc tnet flo bnd frm too amt pri (dropW frm too (ix (bor (le + k))) mk ((mnF flo frm too ldr bor due plg price mk (acc, pap, clo, wai, proc, 0) le k).2.2.2.1)) byp ldr bor due plg (upd ((mnF flo frm too ldr bor due plg price mk (acc, pap, clo, wai, proc, 0) le k).2.2.1) (ix (bor (le + k))) 1) ((mnF flo frm too ldr bor due plg price mk (acc, pap, clo, wai, proc, 0) le k).2.1) cnd small price cut ((mnF flo frm too ldr bor due plg price mk (acc, pap, clo, wai, proc, 0) le k).2.2.2.2.1) mk lm le (le + k) (by first | assumption | omega) (by first | assumption | omega) (by first | assumption | omega) (by first | assumption | omega)) (cwV 1 C.2.2.2.2.1 gX4_morning_X4_sellPledge rfl rfl rfl (by decide +kernel) ⟨Nat.le_of_ble_eq_true rfl, Nat.le_of_ble_eq_true rfl⟩) 0 rfl rfl rfl (fun _ => zSub.full) zIn.full rfl (Nat.le_of_ble_eq_true rfl) ⟨Nat.le_of_ble_eq_true rfl, Nat.le_of_ble_eq_true rfl⟩ dX4_morning_62 (fun _ _ => ?_)
            refine z_iinc C (v := (nI ((le + k) + 1))) dX4_morning_65 2 rfl (nI_add (le + k) 1) (by decide) [(0, .ref (ad 0)), (1, .int (nI (((mnF flo frm too ldr bor due plg price mk (acc, pap, clo, wai, proc, 0) le k).2.2.2.2.2) + 1))), (2, .int (nI ((le + k) + 1)))] [1, 2, 0] rfl ?_
            refine z_goto C (tgt := 17) dX4_morning_68 (by decide) ?_
            refine z_ws (wX ad cI cZ ((mnF flo frm too ldr bor due plg price mk (acc, pap, clo, wai, proc, 0) le (k + 1)).1) (clrN net 25) tacc tnet flo bnd frm too amt pri ((mnF flo frm too ldr bor due plg price mk (acc, pap, clo, wai, proc, 0) le (k + 1)).2.2.2.1) byp ldr bor due plg ((mnF flo frm too ldr bor due plg price mk (acc, pap, clo, wai, proc, 0) le (k + 1)).2.2.1) ((mnF flo frm too ldr bor due plg price mk (acc, pap, clo, wai, proc, 0) le (k + 1)).2.1) cnd small price cut ((mnF flo frm too ldr bor due plg price mk (acc, pap, clo, wai, proc, 0) le (k + 1)).2.2.2.2.1) (nI mk) (nI lm) (nI le)) (by simp only [mnF]; (first | (rw [mnS_r (by assumption)]) | (rw [mnS_c (by assumption) (by assumption)]) | (rw [mnS_o (by assumption) (by assumption)])); try rfl) ?_
            refine z_lveq [(0, .ref (ad 0)), (1, .int (nI ((mnF flo frm too ldr bor due plg price mk (acc, pap, clo, wai, proc, 0) le (k + 1)).2.2.2.2.2))), (2, .int (nI (le + (k + 1))))] (by simp only [mnF]; (first | (rw [mnS_r (by assumption)]) | (rw [mnS_c (by assumption) (by assumption)]) | (rw [mnS_o (by assumption) (by assumption)])); try rfl) ?_
            exact ih_2 (k + 1) (by omega) (by first | assumption | omega)
          · skip
            refine z_callVi C (T := Unit) (As := [.int (nI (ix (bor (le + k))))]) (rest := [.int (nI ((mnF flo frm too ldr bor due plg price mk (acc, pap, clo, wai, proc, 0) le k).2.2.2.2.2))]) (ws' := fun _ => (wX ad cI cZ ((mnF flo frm too ldr bor due plg price mk (acc, pap, clo, wai, proc, 0) le k).1) (clrN net 25) tacc tnet flo bnd frm too amt pri ((mnF flo frm too ldr bor due plg price mk (acc, pap, clo, wai, proc, 0) le k).2.2.2.1) byp ldr bor due plg ((mnF flo frm too ldr bor due plg price mk (acc, pap, clo, wai, proc, 0) le k).2.2.1) ((mnF flo frm too ldr bor due plg price mk (acc, pap, clo, wai, proc, 0) le k).2.1) cnd small price cut ((mnF flo frm too ldr bor due plg price mk (acc, pap, clo, wai, proc, 0) le k).2.2.2.2.1) (nI mk) (nI lm) (nI le))) (c_X4_close_n l sa D cI cZ cL ad ((mnF flo frm too ldr bor due plg price mk (acc, pap, clo, wai, proc, 0) le k).1) (clrN net 25) tacc tnet flo bnd frm too amt pri ((mnF flo frm too ldr bor due plg price mk (acc, pap, clo, wai, proc, 0) le k).2.2.2.1) byp ldr bor due plg ((mnF flo frm too ldr bor due plg price mk (acc, pap, clo, wai, proc, 0) le k).2.2.1) ((mnF flo frm too ldr bor due plg price mk (acc, pap, clo, wai, proc, 0) le k).2.1) cnd small price cut ((mnF flo frm too ldr bor due plg price mk (acc, pap, clo, wai, proc, 0) le k).2.2.2.2.1) mk lm le (ix (bor (le + k))) (by first | assumption | omega) (by first | assumption | omega) (by first | assumption | omega) (by first | assumption | omega) (by first | assumption | omega)) (cwV 1 C.2.2.2.2.1 gX4_morning_X4_close rfl rfl rfl (by decide +kernel) ⟨Nat.le_of_ble_eq_true rfl, Nat.le_of_ble_eq_true rfl⟩) 0 rfl rfl rfl (fun _ => zSub.full) zIn.full rfl (Nat.le_of_ble_eq_true rfl) ⟨Nat.le_of_ble_eq_true rfl, Nat.le_of_ble_eq_true rfl⟩ dX4_morning_55 (fun r_15 _ h_16 => ?_)
            obtain rfl : r_15 = 0 := h_16
            refine z_iadd C (v := (nI ((mnF flo frm too ldr bor due plg price mk (acc, pap, clo, wai, proc, 0) le k).2.2.2.2.2))) dX4_morning_58 (z_add0 _) ?_
            refine z_istore_n C dX4_morning_59 rfl (by decide) [(0, .ref (ad 0)), (1, .int (nI ((mnF flo frm too ldr bor due plg price mk (acc, pap, clo, wai, proc, 0) le k).2.2.2.2.2))), (2, .int (nI (le + k)))] [1, 0, 2] rfl ?_
            refine z_aload_n C dX4_morning_60 rfl 0 rfl ?_
            refine z_iload_n C dX4_morning_61 rfl 2 rfl ?_
            refine z_callVv C (T := Unit) (As := [.int (nI (le + k))]) (rest := []) (ws' := fun _ => (wX ad cI cZ (selA (ix (bor (le + k))) (ix (ldr (le + k))) (due (le + k)) (plg (le + k) * price) ((mnF flo frm too ldr bor due plg price mk (acc, pap, clo, wai, proc, 0) le k).1)) (clrN net 25) tacc tnet flo bnd frm too amt pri ((mnF flo frm too ldr bor due plg price mk (acc, pap, clo, wai, proc, 0) le k).2.2.2.1) byp ldr bor due plg ((mnF flo frm too ldr bor due plg price mk (acc, pap, clo, wai, proc, 0) le k).2.2.1) ((mnF flo frm too ldr bor due plg price mk (acc, pap, clo, wai, proc, 0) le k).2.1) cnd small price cut (((mnF flo frm too ldr bor due plg price mk (acc, pap, clo, wai, proc, 0) le k).2.2.2.2.1) + plg (le + k) * price) (nI mk) (nI lm) (nI le))) (c_X4_sellPledge l sa D cI cZ cL ad ((mnF flo frm too ldr bor due plg price mk (acc, pap, clo, wai, proc, 0) le k).1) (clrN net 25) tacc tnet flo bnd frm too amt pri ((mnF flo frm too ldr bor due plg price mk (acc, pap, clo, wai, proc, 0) le k).2.2.2.1) byp ldr bor due plg ((mnF flo frm too ldr bor due plg price mk (acc, pap, clo, wai, proc, 0) le k).2.2.1) ((mnF flo frm too ldr bor due plg price mk (acc, pap, clo, wai, proc, 0) le k).2.1) cnd small price cut ((mnF flo frm too ldr bor due plg price mk (acc, pap, clo, wai, proc, 0) le k).2.2.2.2.1) mk lm le (le + k) (by first | assumption | omega) (by first | assumption | omega) (by first | assumption | omega) (by first | assumption | omega)) (cwV 1 C.2.2.2.2.1 gX4_morning_X4_sellPledge rfl rfl rfl (by decide +kernel) ⟨Nat.le_of_ble_eq_true rfl, Nat.le_of_ble_eq_true rfl⟩) 0 rfl rfl rfl (fun _ => zSub.full) zIn.full rfl (Nat.le_of_ble_eq_true rfl) ⟨Nat.le_of_ble_eq_true rfl, Nat.le_of_ble_eq_true rfl⟩ dX4_morning_62 (fun _ _ => ?_)
            refine z_iinc C (v := (nI ((le + k) + 1))) dX4_morning_65 2 rfl (nI_add (le + k) 1) (by decide) [(0, .ref (ad 0)), (1, .int (nI ((mnF flo frm too ldr bor due plg price mk (acc, pap, clo, wai, proc, 0) le k).2.2.2.2.2))), (2, .int (nI ((le + k) + 1)))] [1, 2, 0] rfl ?_
            refine z_goto C (tgt := 17) dX4_morning_68 (by decide) ?_
            refine z_ws (wX ad cI cZ ((mnF flo frm too ldr bor due plg price mk (acc, pap, clo, wai, proc, 0) le (k + 1)).1) (clrN net 25) tacc tnet flo bnd frm too amt pri ((mnF flo frm too ldr bor due plg price mk (acc, pap, clo, wai, proc, 0) le (k + 1)).2.2.2.1) byp ldr bor due plg ((mnF flo frm too ldr bor due plg price mk (acc, pap, clo, wai, proc, 0) le (k + 1)).2.2.1) ((mnF flo frm too ldr bor due plg price mk (acc, pap, clo, wai, proc, 0) le (k + 1)).2.1) cnd small price cut ((mnF flo frm too ldr bor due plg price mk (acc, pap, clo, wai, proc, 0) le (k + 1)).2.2.2.2.1) (nI mk) (nI lm) (nI le)) (by simp only [mnF]; (first | (rw [mnS_r (by assumption)]) | (rw [mnS_c (by assumption) (by assumption)]) | (rw [mnS_o (by assumption) (by assumption)])); try rfl) ?_
            refine z_lveq [(0, .ref (ad 0)), (1, .int (nI ((mnF flo frm too ldr bor due plg price mk (acc, pap, clo, wai, proc, 0) le (k + 1)).2.2.2.2.2))), (2, .int (nI (le + (k + 1))))] (by simp only [mnF]; (first | (rw [mnS_r (by assumption)]) | (rw [mnS_c (by assumption) (by assumption)]) | (rw [mnS_o (by assumption) (by assumption)])); try rfl) ?_
            exact ih_2 (k + 1) (by omega) (by first | assumption | omega)
  refine z_ws (wX ad cI cZ ((mnF flo frm too ldr bor due plg price mk (acc, pap, clo, wai, proc, 0) le 0).1) (clrN net 25) tacc tnet flo bnd frm too amt pri ((mnF flo frm too ldr bor due plg price mk (acc, pap, clo, wai, proc, 0) le 0).2.2.2.1) byp ldr bor due plg ((mnF flo frm too ldr bor due plg price mk (acc, pap, clo, wai, proc, 0) le 0).2.2.1) ((mnF flo frm too ldr bor due plg price mk (acc, pap, clo, wai, proc, 0) le 0).2.1) cnd small price cut ((mnF flo frm too ldr bor due plg price mk (acc, pap, clo, wai, proc, 0) le 0).2.2.2.2.1) (nI mk) (nI lm) (nI le)) (by rfl) ?_
  refine z_lveq [(0, .ref (ad 0)), (1, .int (nI ((mnF flo frm too ldr bor due plg price mk (acc, pap, clo, wai, proc, 0) le 0).2.2.2.2.2))), (2, .int (nI (le + 0)))] (by rfl) ?_
  exact L17_k_1 (lm - (le + 0) + 1) 0 (Nat.lt_succ_self _) (by first | assumption | omega)
set_option maxHeartbeats 4000000 in
set_option maxRecDepth 100000 in
theorem c_X4_loans (l : Launch) (sa : Nat → Nat) (D : va_G) (cI cZ cL : ClassId) (ad : Nat → Nat) (acc net tacc tnet flo bnd frm too amt pri wai byp ldr bor due plg clo pap cnd : Nat → Int32) (small price cut proc : Int32) (mk lm le : Nat)  (hle : le ≤ lm) (hlm : lm ≤ 40) : zMi (T := Unit) sa D vwCl (zty cI cZ cL) l yX4_loans wsX4_loans ({ frames := 0, cells := 0, slots := 0, locals := 0 } : Room) [.ref (ad 0)] (wX ad cI cZ acc net tacc tnet flo bnd frm too amt pri wai byp ldr bor due plg clo pap cnd small price cut proc (nI mk) (nI lm) (nI le)) (fun r9 _ => r9 = (nI (lm - le))) (fun _ => (wX ad cI cZ acc net tacc tnet flo bnd frm too amt pri wai byp ldr bor due plg clo pap cnd small price cut proc (nI mk) (nI lm) (nI le))) 0 0 := by
  refine zMi.of (ret := (some .int)) (cc := cX4_loans) (nL := 1) (own := RX4) (by decide +kernel) rfl [(0, .ref (ad 0))] rfl (Nat.le_of_ble_eq_true rfl) rfl ?_
  intro A p e s m args below meth c C hmn
  refine z_aload_n C dX4_loans_0 rfl 0 rfl ?_
  refine z_get C 0 rfl i_X4_loans_X4 rfl 4 (by decide) m_X4_loans_f36 rfl rfl dX4_loans_1 ?_
  refine z_get C 5 rfl i_X4_loans_X1 rfl 4 (by decide) m_X4_loans_f169 rfl rfl dX4_loans_4 ?_
  refine z_aload_n C dX4_loans_7 rfl 0 rfl ?_
  refine z_get C 0 rfl i_X4_loans_X4 rfl 4 (by decide) m_X4_loans_f36 rfl rfl dX4_loans_8 ?_
  refine z_get C 5 rfl i_X4_loans_X1 rfl 5 (by decide) m_X4_loans_f170 rfl rfl dX4_loans_11 ?_
  refine z_isub C (v := (nI (lm - le))) dX4_loans_14 (pk_sub (a := lm) (b := le) (by omega)) ?_
  exact z_iret C () rfl rfl (by decide) (by decide) dX4_loans_15
set_option maxHeartbeats 4000000 in
set_option maxRecDepth 100000 in
theorem c_X4_sold (l : Launch) (sa : Nat → Nat) (D : va_G) (cI cZ cL : ClassId) (ad : Nat → Nat) (acc net tacc tnet flo bnd frm too amt pri wai byp ldr bor due plg clo pap cnd : Nat → Int32) (small price cut proc : Int32) (mk lm le : Nat)   : zMi (T := Unit) sa D vwCl (zty cI cZ cL) l yX4_sold wsX4_sold ({ frames := 0, cells := 0, slots := 0, locals := 0 } : Room) [.ref (ad 0)] (wX ad cI cZ acc net tacc tnet flo bnd frm too amt pri wai byp ldr bor due plg clo pap cnd small price cut proc (nI mk) (nI lm) (nI le)) (fun r9 _ => r9 = proc) (fun _ => (wX ad cI cZ acc net tacc tnet flo bnd frm too amt pri wai byp ldr bor due plg clo pap cnd small price cut proc (nI mk) (nI lm) (nI le))) 0 0 := by
  refine zMi.of (ret := (some .int)) (cc := cX4_sold) (nL := 1) (own := RX4) (by decide +kernel) rfl [(0, .ref (ad 0))] rfl (Nat.le_of_ble_eq_true rfl) rfl ?_
  intro A p e s m args below meth c C hmn
  refine z_aload_n C dX4_sold_0 rfl 0 rfl ?_
  refine z_get C 0 rfl i_X4_sold_X4 rfl 11 (by decide) m_X4_sold_f192 rfl rfl dX4_sold_1 ?_
  exact z_iret C () rfl rfl (by decide) (by decide) dX4_sold_4
set_option maxHeartbeats 4000000 in
set_option maxRecDepth 100000 in
theorem ok_requireBank (l : Launch) (sa : Nat → Nat) (D : va_G) (cI cZ cL : ClassId)  (b : Nat) (hb : b < 5) : zMv (T := Unit) sa D vwCl (zty cI cZ cL) l yX4_requireBank wsX4_requireBank ({ frames := 6, cells := 0, slots := 0, locals := 82 } : Room) [.int (nI b)] [] (fun _ => True) (fun _ => []) 0 0 := by
  refine zMv.of (ret := none) (cc := cX4_requireBank) (nL := 1) (own := RX4) (by decide +kernel) rfl [(0, .int (nI b))] rfl (Nat.le_of_ble_eq_true rfl) rfl ?_
  intro A p e s m args below meth c C hmn
  refine z_iload_n C dX4_requireBank_0 rfl 0 rfl ?_
  refine z_if_lt C (tgt := 9) dX4_requireBank_1 (by decide) (fun h => absurd h (nI_pos (by omega))) (fun _ => ?_)
  refine z_iload_n C dX4_requireBank_4 rfl 0 rfl ?_
  refine z_iconst C (v := 5) dX4_requireBank_5 (by decide) ?_
  refine z_icmp_lt C (tgt := 19) dX4_requireBank_6 (by decide) (fun c6_1 => ?_) (fun c6_1 => ?_)
  · skip
    have n_2 : b < 5 := (nI_ltI (a := b) (b := 5) (by omega) (by omega)).mp c6_1
    exact z_vret C () (by exact trivial) rfl (by decide) (by decide) dX4_requireBank_19
  · skip
    have n_3 : ¬ b < 5 := fun q => c6_1 ((nI_ltI (a := b) (b := 5) (by omega) (by omega)).mpr q)
    exfalso
    first | omega | contradiction | exact absurd (by assumption) (Int32.not_le.mpr (by assumption))
set_option maxHeartbeats 4000000 in
set_option maxRecDepth 100000 in
theorem bad_requireBank (l : Launch) (hfl : l.stackTraces = false) (sa : Nat → Nat) (D : va_G) (cI cZ cL : ClassId)  (b : Int32) (hb : b < 0 ∨ 5 ≤ b) : zX sa D vwCl (zty cI cZ cL) l yX4_requireBank wsX4_requireBank ({ frames := 6, cells := 1, slots := 6, locals := 82 } : Room) [.int b] [] "java/lang/IndexOutOfBoundsException" 1 6 := by
  refine zX.of (ret := none) (cc := cX4_requireBank) (nL := 1) (own := RX4) (by decide +kernel) rfl [(0, .int b)] rfl (Nat.le_of_ble_eq_true rfl) rfl ?_
  intro A p e s m args below meth c C hmn ht
  refine z_iload_n C dX4_requireBank_0 rfl 0 rfl ?_
  refine z_if_lt C (tgt := 9) dX4_requireBank_1 (by decide) (fun c1_1 => ?_) (fun c1_1 => ?_)
  · skip
    exact z_throwS C (names := ["java/lang/RuntimeException", "java/lang/Exception"]) ht hfl rfl (by decide +kernel) (by decide +kernel) m_X4_requireBank_c140 m_X4_requireBank_n140 (is := 195) (text := "there is no such bank") (by decide +kernel) (by decide +kernel) x_X4_requireBank_9_1 x_X4_requireBank_9_2 x_X4_requireBank_9_3 dX4_requireBank_9 dX4_requireBank_12 dX4_requireBank_13 dX4_requireBank_15 dX4_requireBank_18 ⟨Nat.le_of_ble_eq_true rfl, Nat.le_of_ble_eq_true rfl, Nat.le_of_ble_eq_true rfl, Nat.le_of_ble_eq_true rfl⟩ (by decide) (by decide)
  · skip
    refine z_iload_n C dX4_requireBank_4 rfl 0 rfl ?_
    refine z_iconst C (v := 5) dX4_requireBank_5 (by decide) ?_
    refine z_icmp_lt C (tgt := 19) dX4_requireBank_6 (by decide) (fun c6_2 => ?_) (fun c6_2 => ?_)
    · skip
      exfalso
      exact hb.elim (fun h => c1_1 h) (fun h => absurd c6_2 (Int32.not_lt.mpr h))
    · skip
      exact z_throwS C (names := ["java/lang/RuntimeException", "java/lang/Exception"]) ht hfl rfl (by decide +kernel) (by decide +kernel) m_X4_requireBank_c140 m_X4_requireBank_n140 (is := 195) (text := "there is no such bank") (by decide +kernel) (by decide +kernel) x_X4_requireBank_9_1 x_X4_requireBank_9_2 x_X4_requireBank_9_3 dX4_requireBank_9 dX4_requireBank_12 dX4_requireBank_13 dX4_requireBank_15 dX4_requireBank_18 ⟨Nat.le_of_ble_eq_true rfl, Nat.le_of_ble_eq_true rfl, Nat.le_of_ble_eq_true rfl, Nat.le_of_ble_eq_true rfl⟩ (by decide) (by decide)
set_option maxHeartbeats 4000000 in
set_option maxRecDepth 100000 in
theorem ok_requireTwo (l : Launch) (sa : Nat → Nat) (D : va_G) (cI cZ cL : ClassId)  (f : Nat) (t : Nat) (hf : f < 5) (ht : t < 5) (hft : f ≠ t) : zMv (T := Unit) sa D vwCl (zty cI cZ cL) l yX4_requireTwo wsX4_requireTwo ({ frames := 6, cells := 0, slots := 0, locals := 82 } : Room) [.int (nI f), .int (nI t)] [] (fun _ => True) (fun _ => []) 0 0 := by
  refine zMv.of (ret := none) (cc := cX4_requireTwo) (nL := 2) (own := RX4) (by decide +kernel) rfl [(0, .int (nI f)), (1, .int (nI t))] rfl (Nat.le_of_ble_eq_true rfl) rfl ?_
  intro A p e s m args below meth c C hmn
  refine z_iload_n C dX4_requireTwo_0 rfl 0 rfl ?_
  refine z_iload_n C dX4_requireTwo_1 rfl 1 rfl ?_
  refine z_icmp_ne C (tgt := 15) dX4_requireTwo_2 (by decide) (fun c2_1 => ?_) (fun c2_1 => ?_)
  · skip
    have n_2 : ¬ f = t := fun q => c2_1 ((nI_eq (a := f) (b := t) (by omega) (by omega)).mpr q)
    exact z_vret C () (by exact trivial) rfl (by decide) (by decide) dX4_requireTwo_15
  · skip
    have n_3 : f = t := (nI_eq (a := f) (b := t) (by omega) (by omega)).mp c2_1
    exfalso
    first | omega | contradiction | exact absurd (by assumption) (Int32.not_le.mpr (by assumption))
set_option maxHeartbeats 4000000 in
set_option maxRecDepth 100000 in
theorem bad_requireTwo (l : Launch) (hfl : l.stackTraces = false) (sa : Nat → Nat) (D : va_G) (cI cZ cL : ClassId)  (f : Nat) (t : Nat) (hf : f < 5) (ht9 : t < 5) (hft : f = t) : zX sa D vwCl (zty cI cZ cL) l yX4_requireTwo wsX4_requireTwo ({ frames := 6, cells := 1, slots := 6, locals := 82 } : Room) [.int (nI f), .int (nI t)] [] "java/lang/IllegalArgumentException" 1 6 := by
  refine zX.of (ret := none) (cc := cX4_requireTwo) (nL := 2) (own := RX4) (by decide +kernel) rfl [(0, .int (nI f)), (1, .int (nI t))] rfl (Nat.le_of_ble_eq_true rfl) rfl ?_
  intro A p e s m args below meth c C hmn ht
  refine z_iload_n C dX4_requireTwo_0 rfl 0 rfl ?_
  refine z_iload_n C dX4_requireTwo_1 rfl 1 rfl ?_
  refine z_icmp_ne C (tgt := 15) dX4_requireTwo_2 (by decide) (fun c2_1 => ?_) (fun c2_1 => ?_)
  · skip
    have n_2 : ¬ f = t := fun q => c2_1 ((nI_eq (a := f) (b := t) (by omega) (by omega)).mpr q)
    exfalso
    first | omega | contradiction
  · skip
    have n_3 : f = t := (nI_eq (a := f) (b := t) (by omega) (by omega)).mp c2_1
    exact z_throwS C (names := ["java/lang/RuntimeException", "java/lang/Exception"]) ht hfl rfl (by decide +kernel) (by decide +kernel) m_X4_requireTwo_c197 m_X4_requireTwo_n197 (is := 199) (text := "both banks are the same") (by decide +kernel) (by decide +kernel) x_X4_requireTwo_5_1 x_X4_requireTwo_5_2 x_X4_requireTwo_5_3 dX4_requireTwo_5 dX4_requireTwo_8 dX4_requireTwo_9 dX4_requireTwo_11 dX4_requireTwo_14 ⟨Nat.le_of_ble_eq_true rfl, Nat.le_of_ble_eq_true rfl, Nat.le_of_ble_eq_true rfl, Nat.le_of_ble_eq_true rfl⟩ (by decide) (by decide)
set_option maxHeartbeats 4000000 in
set_option maxRecDepth 100000 in
theorem ok_requireRange (l : Launch) (sa : Nat → Nat) (D : va_G) (cI cZ cL : ClassId)  (v : Int32) (lo : Int32) (hi : Int32) (h1 : ¬ v < lo) (h2 : ¬ hi < v) : zMv (T := Unit) sa D vwCl (zty cI cZ cL) l yX4_requireRange wsX4_requireRange ({ frames := 6, cells := 0, slots := 0, locals := 82 } : Room) [.int v, .int lo, .int hi] [] (fun _ => True) (fun _ => []) 0 0 := by
  refine zMv.of (ret := none) (cc := cX4_requireRange) (nL := 3) (own := RX4) (by decide +kernel) rfl [(0, .int v), (1, .int lo), (2, .int hi)] rfl (Nat.le_of_ble_eq_true rfl) rfl ?_
  intro A p e s m args below meth c C hmn
  refine z_iload_n C dX4_requireRange_0 rfl 0 rfl ?_
  refine z_iload_n C dX4_requireRange_1 rfl 1 rfl ?_
  refine z_icmp_lt C (tgt := 10) dX4_requireRange_2 (by decide) (fun c2_1 => ?_) (fun c2_1 => ?_)
  · skip
    exfalso
    first | contradiction | exact h2 (Int32.not_le.mp (by assumption))
  · skip
    refine z_iload_n C dX4_requireRange_5 rfl 0 rfl ?_
    refine z_iload_n C dX4_requireRange_6 rfl 2 rfl ?_
    refine z_icmp_le C (tgt := 20) dX4_requireRange_7 (by decide) (fun c7_2 => ?_) (fun c7_2 => ?_)
    · skip
      exact z_vret C () (by exact trivial) rfl (by decide) (by decide) dX4_requireRange_20
    · skip
      exfalso
      first | contradiction | exact h2 (Int32.not_le.mp (by assumption))
set_option maxHeartbeats 4000000 in
set_option maxRecDepth 100000 in
theorem bad_requireRange (l : Launch) (hfl : l.stackTraces = false) (sa : Nat → Nat) (D : va_G) (cI cZ cL : ClassId)  (v : Int32) (lo : Int32) (hi : Int32) (hv : v < lo ∨ hi < v) : zX sa D vwCl (zty cI cZ cL) l yX4_requireRange wsX4_requireRange ({ frames := 6, cells := 1, slots := 6, locals := 82 } : Room) [.int v, .int lo, .int hi] [] "java/lang/IllegalArgumentException" 1 6 := by
  refine zX.of (ret := none) (cc := cX4_requireRange) (nL := 3) (own := RX4) (by decide +kernel) rfl [(0, .int v), (1, .int lo), (2, .int hi)] rfl (Nat.le_of_ble_eq_true rfl) rfl ?_
  intro A p e s m args below meth c C hmn ht
  refine z_iload_n C dX4_requireRange_0 rfl 0 rfl ?_
  refine z_iload_n C dX4_requireRange_1 rfl 1 rfl ?_
  refine z_icmp_lt C (tgt := 10) dX4_requireRange_2 (by decide) (fun c2_1 => ?_) (fun c2_1 => ?_)
  · skip
    exact z_throwS C (names := ["java/lang/RuntimeException", "java/lang/Exception"]) ht hfl rfl (by decide +kernel) (by decide +kernel) m_X4_requireRange_c197 m_X4_requireRange_n197 (is := 202) (text := "a value is out of range") (by decide +kernel) (by decide +kernel) x_X4_requireRange_10_1 x_X4_requireRange_10_2 x_X4_requireRange_10_3 dX4_requireRange_10 dX4_requireRange_13 dX4_requireRange_14 dX4_requireRange_16 dX4_requireRange_19 ⟨Nat.le_of_ble_eq_true rfl, Nat.le_of_ble_eq_true rfl, Nat.le_of_ble_eq_true rfl, Nat.le_of_ble_eq_true rfl⟩ (by decide) (by decide)
  · skip
    refine z_iload_n C dX4_requireRange_5 rfl 0 rfl ?_
    refine z_iload_n C dX4_requireRange_6 rfl 2 rfl ?_
    refine z_icmp_le C (tgt := 20) dX4_requireRange_7 (by decide) (fun c7_2 => ?_) (fun c7_2 => ?_)
    · skip
      exfalso
      exact hv.elim (fun h => c2_1 h) (fun h => absurd c7_2 (Int32.not_le.mpr h))
    · skip
      exact z_throwS C (names := ["java/lang/RuntimeException", "java/lang/Exception"]) ht hfl rfl (by decide +kernel) (by decide +kernel) m_X4_requireRange_c197 m_X4_requireRange_n197 (is := 202) (text := "a value is out of range") (by decide +kernel) (by decide +kernel) x_X4_requireRange_10_1 x_X4_requireRange_10_2 x_X4_requireRange_10_3 dX4_requireRange_10 dX4_requireRange_13 dX4_requireRange_14 dX4_requireRange_16 dX4_requireRange_19 ⟨Nat.le_of_ble_eq_true rfl, Nat.le_of_ble_eq_true rfl, Nat.le_of_ble_eq_true rfl, Nat.le_of_ble_eq_true rfl⟩ (by decide) (by decide)
set_option maxHeartbeats 4000000 in
set_option maxRecDepth 100000 in
theorem ok_requireOpen (l : Launch) (sa : Nat → Nat) (D : va_G) (cI cZ cL : ClassId) (ad : Nat → Nat) (acc net tacc tnet flo bnd frm too amt pri wai byp ldr bor due plg clo pap cnd : Nat → Int32) (small price cut proc : Int32) (mk lm le : Nat) (b : Nat) (hb : b < 5) (hcl : clo b = 0) : zMv (T := Unit) sa D vwCl (zty cI cZ cL) l yX4_requireOpen wsX4_requireOpen ({ frames := 6, cells := 0, slots := 0, locals := 82 } : Room) [.ref (ad 0), .int (nI b)] (wX ad cI cZ acc net tacc tnet flo bnd frm too amt pri wai byp ldr bor due plg clo pap cnd small price cut proc (nI mk) (nI lm) (nI le)) (fun _ => True) (fun _ => (wX ad cI cZ acc net tacc tnet flo bnd frm too amt pri wai byp ldr bor due plg clo pap cnd small price cut proc (nI mk) (nI lm) (nI le))) 0 0 := by
  refine zMv.of (ret := none) (cc := cX4_requireOpen) (nL := 2) (own := RX4) (by decide +kernel) rfl [(0, .ref (ad 0)), (1, .int (nI b))] rfl (Nat.le_of_ble_eq_true rfl) rfl ?_
  intro A p e s m args below meth c C hmn
  refine z_aload_n C dX4_requireOpen_0 rfl 0 rfl ?_
  refine z_get C 0 rfl i_X4_requireOpen_X4 rfl 5 (by decide) m_X4_requireOpen_f40 rfl rfl dX4_requireOpen_1 ?_
  refine z_iload_n C dX4_requireOpen_4 rfl 1 rfl ?_
  refine z_zald C 22 1 rfl rfl b (nI_clamp (by omega)) (vp_in_nI (by omega) (by omega)) (clo b) rfl dX4_requireOpen_5 ?_
  refine z_if_eq C (tgt := 19) dX4_requireOpen_6 (by decide) (fun c6_1 => ?_) (fun c6_1 => ?_)
  · skip
    exact z_vret C () (by exact trivial) rfl (by decide) (by decide) dX4_requireOpen_19
  · skip
    exfalso
    first | omega | contradiction | exact absurd (by assumption) (Int32.not_le.mpr (by assumption))
set_option maxHeartbeats 4000000 in
set_option maxRecDepth 100000 in
theorem bad_requireOpen (l : Launch) (hfl : l.stackTraces = false) (sa : Nat → Nat) (D : va_G) (cI cZ cL : ClassId) (ad : Nat → Nat) (acc net tacc tnet flo bnd frm too amt pri wai byp ldr bor due plg clo pap cnd : Nat → Int32) (small price cut proc : Int32) (mk lm le : Nat) (b : Nat) (hb : b < 5) (hcl : ¬ clo b = 0) : zX sa D vwCl (zty cI cZ cL) l yX4_requireOpen wsX4_requireOpen ({ frames := 6, cells := 1, slots := 6, locals := 82 } : Room) [.ref (ad 0), .int (nI b)] (wX ad cI cZ acc net tacc tnet flo bnd frm too amt pri wai byp ldr bor due plg clo pap cnd small price cut proc (nI mk) (nI lm) (nI le)) "java/lang/IllegalStateException" 1 6 := by
  refine zX.of (ret := none) (cc := cX4_requireOpen) (nL := 2) (own := RX4) (by decide +kernel) rfl [(0, .ref (ad 0)), (1, .int (nI b))] rfl (Nat.le_of_ble_eq_true rfl) rfl ?_
  intro A p e s m args below meth c C hmn ht
  refine z_aload_n C dX4_requireOpen_0 rfl 0 rfl ?_
  refine z_get C 0 rfl i_X4_requireOpen_X4 rfl 5 (by decide) m_X4_requireOpen_f40 rfl rfl dX4_requireOpen_1 ?_
  refine z_iload_n C dX4_requireOpen_4 rfl 1 rfl ?_
  refine z_zald C 22 1 rfl rfl b (nI_clamp (by omega)) (vp_in_nI (by omega) (by omega)) (clo b) rfl dX4_requireOpen_5 ?_
  refine z_if_eq C (tgt := 19) dX4_requireOpen_6 (by decide) (fun c6_1 => ?_) (fun c6_1 => ?_)
  · skip
    exfalso
    first | omega | contradiction
  · skip
    exact z_throwS C (names := ["java/lang/RuntimeException", "java/lang/Exception"]) ht hfl rfl (by decide +kernel) (by decide +kernel) m_X4_requireOpen_c77 m_X4_requireOpen_n77 (is := 204) (text := "the bank is closed") (by decide +kernel) (by decide +kernel) x_X4_requireOpen_9_1 x_X4_requireOpen_9_2 x_X4_requireOpen_9_3 dX4_requireOpen_9 dX4_requireOpen_12 dX4_requireOpen_13 dX4_requireOpen_15 dX4_requireOpen_18 ⟨Nat.le_of_ble_eq_true rfl, Nat.le_of_ble_eq_true rfl, Nat.le_of_ble_eq_true rfl, Nat.le_of_ble_eq_true rfl⟩ (by decide) (by decide)
set_option maxHeartbeats 4000000 in
set_option maxRecDepth 100000 in
theorem ok_requirePayment (l : Launch) (sa : Nat → Nat) (D : va_G) (cI cZ cL : ClassId) (ad : Nat → Nat) (acc net tacc tnet flo bnd frm too amt pri wai byp ldr bor due plg clo pap cnd : Nat → Int32) (small price cut proc : Int32) (mk lm le : Nat) (p9 : Nat) (hp : p9 < mk) (hmk : mk ≤ 60) : zMv (T := Unit) sa D vwCl (zty cI cZ cL) l yX4_requirePayment wsX4_requirePayment ({ frames := 6, cells := 0, slots := 0, locals := 82 } : Room) [.ref (ad 0), .int (nI p9)] (wX ad cI cZ acc net tacc tnet flo bnd frm too amt pri wai byp ldr bor due plg clo pap cnd small price cut proc (nI mk) (nI lm) (nI le)) (fun _ => True) (fun _ => (wX ad cI cZ acc net tacc tnet flo bnd frm too amt pri wai byp ldr bor due plg clo pap cnd small price cut proc (nI mk) (nI lm) (nI le))) 0 0 := by
  refine zMv.of (ret := none) (cc := cX4_requirePayment) (nL := 2) (own := RX4) (by decide +kernel) rfl [(0, .ref (ad 0)), (1, .int (nI p9))] rfl (Nat.le_of_ble_eq_true rfl) rfl ?_
  intro A p e s m args below meth c C hmn
  refine z_iload_n C dX4_requirePayment_0 rfl 1 rfl ?_
  refine z_if_lt C (tgt := 15) dX4_requirePayment_1 (by decide) (fun h => absurd h (nI_pos (by omega))) (fun _ => ?_)
  refine z_iload_n C dX4_requirePayment_4 rfl 1 rfl ?_
  refine z_aload_n C dX4_requirePayment_5 rfl 0 rfl ?_
  refine z_get C 0 rfl i_X4_requirePayment_X4 rfl 3 (by decide) m_X4_requirePayment_f29 rfl rfl dX4_requirePayment_6 ?_
  refine z_get C 4 rfl i_X4_requirePayment_X2 rfl 6 (by decide) m_X4_requirePayment_f113 rfl rfl dX4_requirePayment_9 ?_
  refine z_icmp_lt C (tgt := 25) dX4_requirePayment_12 (by decide) (fun c12_1 => ?_) (fun c12_1 => ?_)
  · skip
    have n_2 : p9 < mk := (nI_ltI (a := p9) (b := mk) (by omega) (by omega)).mp c12_1
    exact z_vret C () (by exact trivial) rfl (by decide) (by decide) dX4_requirePayment_25
  · skip
    have n_3 : ¬ p9 < mk := fun q => c12_1 ((nI_ltI (a := p9) (b := mk) (by omega) (by omega)).mpr q)
    exfalso
    first | omega | contradiction | exact absurd (by assumption) (Int32.not_le.mpr (by assumption))
set_option maxHeartbeats 4000000 in
set_option maxRecDepth 100000 in
theorem bad_requirePayment (l : Launch) (hfl : l.stackTraces = false) (sa : Nat → Nat) (D : va_G) (cI cZ cL : ClassId) (ad : Nat → Nat) (acc net tacc tnet flo bnd frm too amt pri wai byp ldr bor due plg clo pap cnd : Nat → Int32) (small price cut proc : Int32) (mk lm le : Nat) (p9 : Int32) (hp : p9 < 0 ∨ nI mk ≤ p9) : zX sa D vwCl (zty cI cZ cL) l yX4_requirePayment wsX4_requirePayment ({ frames := 6, cells := 1, slots := 6, locals := 82 } : Room) [.ref (ad 0), .int p9] (wX ad cI cZ acc net tacc tnet flo bnd frm too amt pri wai byp ldr bor due plg clo pap cnd small price cut proc (nI mk) (nI lm) (nI le)) "java/lang/IndexOutOfBoundsException" 1 6 := by
  refine zX.of (ret := none) (cc := cX4_requirePayment) (nL := 2) (own := RX4) (by decide +kernel) rfl [(0, .ref (ad 0)), (1, .int p9)] rfl (Nat.le_of_ble_eq_true rfl) rfl ?_
  intro A p e s m args below meth c C hmn ht
  refine z_iload_n C dX4_requirePayment_0 rfl 1 rfl ?_
  refine z_if_lt C (tgt := 15) dX4_requirePayment_1 (by decide) (fun c1_1 => ?_) (fun c1_1 => ?_)
  · skip
    exact z_throwS C (names := ["java/lang/RuntimeException", "java/lang/Exception"]) ht hfl rfl (by decide +kernel) (by decide +kernel) m_X4_requirePayment_c140 m_X4_requirePayment_n140 (is := 206) (text := "there is no such payment") (by decide +kernel) (by decide +kernel) x_X4_requirePayment_15_1 x_X4_requirePayment_15_2 x_X4_requirePayment_15_3 dX4_requirePayment_15 dX4_requirePayment_18 dX4_requirePayment_19 dX4_requirePayment_21 dX4_requirePayment_24 ⟨Nat.le_of_ble_eq_true rfl, Nat.le_of_ble_eq_true rfl, Nat.le_of_ble_eq_true rfl, Nat.le_of_ble_eq_true rfl⟩ (by decide) (by decide)
  · skip
    refine z_iload_n C dX4_requirePayment_4 rfl 1 rfl ?_
    refine z_aload_n C dX4_requirePayment_5 rfl 0 rfl ?_
    refine z_get C 0 rfl i_X4_requirePayment_X4 rfl 3 (by decide) m_X4_requirePayment_f29 rfl rfl dX4_requirePayment_6 ?_
    refine z_get C 4 rfl i_X4_requirePayment_X2 rfl 6 (by decide) m_X4_requirePayment_f113 rfl rfl dX4_requirePayment_9 ?_
    refine z_icmp_lt C (tgt := 25) dX4_requirePayment_12 (by decide) (fun c12_2 => ?_) (fun c12_2 => ?_)
    · skip
      exfalso
      exact hp.elim (fun h => c1_1 h) (fun h => absurd c12_2 (Int32.not_lt.mpr h))
    · skip
      exact z_throwS C (names := ["java/lang/RuntimeException", "java/lang/Exception"]) ht hfl rfl (by decide +kernel) (by decide +kernel) m_X4_requirePayment_c140 m_X4_requirePayment_n140 (is := 206) (text := "there is no such payment") (by decide +kernel) (by decide +kernel) x_X4_requirePayment_15_1 x_X4_requirePayment_15_2 x_X4_requirePayment_15_3 dX4_requirePayment_15 dX4_requirePayment_18 dX4_requirePayment_19 dX4_requirePayment_21 dX4_requirePayment_24 ⟨Nat.le_of_ble_eq_true rfl, Nat.le_of_ble_eq_true rfl, Nat.le_of_ble_eq_true rfl, Nat.le_of_ble_eq_true rfl⟩ (by decide) (by decide)
set_option maxHeartbeats 4000000 in
set_option maxRecDepth 100000 in
theorem ok_requireLoanable (l : Launch) (sa : Nat → Nat) (D : va_G) (cI cZ cL : ClassId) (ad : Nat → Nat) (acc net tacc tnet flo bnd frm too amt pri wai byp ldr bor due plg clo pap cnd : Nat → Int32) (small price cut proc : Int32) (mk lm le : Nat) (d : Nat) (b : Nat) (am : Int32) (x : Int32) (hd : d < 5) (hb : b < 5) (hlm : lm < 40) (h1 : ¬ pap b < x) (h2 : ¬ x * price * (1000 - cut) / 1000 < am) (h3 : ¬ acc d - am < flo d) : zMv (T := Unit) sa D vwCl (zty cI cZ cL) l yX4_requireLoanable wsX4_requireLoanable ({ frames := 6, cells := 0, slots := 0, locals := 82 } : Room) [.ref (ad 0), .int (nI d), .int (nI b), .int am, .int x] (wX ad cI cZ acc net tacc tnet flo bnd frm too amt pri wai byp ldr bor due plg clo pap cnd small price cut proc (nI mk) (nI lm) (nI le)) (fun _ => True) (fun _ => (wX ad cI cZ acc net tacc tnet flo bnd frm too amt pri wai byp ldr bor due plg clo pap cnd small price cut proc (nI mk) (nI lm) (nI le))) 0 0 := by
  refine zMv.of (ret := none) (cc := cX4_requireLoanable) (nL := 5) (own := RX4) (by decide +kernel) rfl [(0, .ref (ad 0)), (1, .int (nI d)), (2, .int (nI b)), (3, .int am), (4, .int x)] rfl (Nat.le_of_ble_eq_true rfl) rfl ?_
  intro A p e s m args below meth c C hmn
  refine z_aload_n C dX4_requireLoanable_0 rfl 0 rfl ?_
  refine z_get C 0 rfl i_X4_requireLoanable_X4 rfl 4 (by decide) m_X4_requireLoanable_f36 rfl rfl dX4_requireLoanable_1 ?_
  refine z_get C 5 rfl i_X4_requireLoanable_X1 rfl 4 (by decide) m_X4_requireLoanable_f169 rfl rfl dX4_requireLoanable_4 ?_
  refine z_bipush C (v := 40) dX4_requireLoanable_7 (by decide) ?_
  refine z_icmp_lt C (tgt := 22) dX4_requireLoanable_9 (by decide) (fun c9_1 => ?_) (fun c9_1 => ?_)
  · skip
    have n_2 : lm < 40 := (nI_ltI (a := lm) (b := 40) (by omega) (by omega)).mp c9_1
    refine z_aload_n C dX4_requireLoanable_22 rfl 0 rfl ?_
    refine z_get C 0 rfl i_X4_requireLoanable_X4 rfl 6 (by decide) m_X4_requireLoanable_f44 rfl rfl dX4_requireLoanable_23 ?_
    refine z_iload_n C dX4_requireLoanable_26 rfl 2 rfl ?_
    refine z_iald C 23 0 rfl rfl b (nI_clamp (by omega)) (vp_in_nI (by omega) (by omega)) (pap b) rfl dX4_requireLoanable_27 ?_
    refine z_iload C dX4_requireLoanable_28 4 rfl ?_
    refine z_icmp_lt C (tgt := 43) dX4_requireLoanable_30 (by decide) (fun c30_3 => ?_) (fun c30_3 => ?_)
    · skip
      exfalso
      first | omega | contradiction | exact h2 (Int32.not_le.mp (by assumption)) | exact h3 (Int32.not_le.mp (by assumption))
    · skip
      refine z_aload_n C dX4_requireLoanable_33 rfl 0 rfl ?_
      refine z_iload C dX4_requireLoanable_34 4 rfl ?_
      refine z_callVi C (T := Unit) (As := [.int x]) (rest := []) (ws' := fun _ => (wX ad cI cZ acc net tacc tnet flo bnd frm too amt pri wai byp ldr bor due plg clo pap cnd small price cut proc (nI mk) (nI lm) (nI le))) (c_X4_pledgeWorth l sa D cI cZ cL ad acc net tacc tnet flo bnd frm too amt pri wai byp ldr bor due plg clo pap cnd small price cut proc mk lm le x ) (cwV 1 C.2.2.2.2.1 gX4_requireLoanable_X4_pledgeWorth rfl rfl rfl (by decide +kernel) ⟨Nat.le_of_ble_eq_true rfl, Nat.le_of_ble_eq_true rfl⟩) 0 rfl rfl rfl (fun _ => zSub.full) zIn.full rfl (Nat.le_of_ble_eq_true rfl) ⟨Nat.le_of_ble_eq_true rfl, Nat.le_of_ble_eq_true rfl⟩ dX4_requireLoanable_36 (fun r_4 _ h_5 => ?_)
      obtain rfl : r_4 = (x * price * (1000 - cut) / 1000) := h_5
      refine z_iload_n C dX4_requireLoanable_39 rfl 3 rfl ?_
      refine z_icmp_ge C (tgt := 53) dX4_requireLoanable_40 (by decide) (fun c40_6 => ?_) (fun c40_6 => ?_)
      · skip
        refine z_aload_n C dX4_requireLoanable_53 rfl 0 rfl ?_
        refine z_get C 0 rfl i_X4_requireLoanable_X4 rfl 0 (by decide) m_X4_requireLoanable_f10 rfl rfl dX4_requireLoanable_54 ?_
        refine z_get C 1 rfl i_X4_requireLoanable_X3 rfl 0 (by decide) m_X4_requireLoanable_f73 rfl rfl dX4_requireLoanable_57 ?_
        refine z_iload_n C dX4_requireLoanable_60 rfl 1 rfl ?_
        refine z_iald C 6 0 rfl rfl d (nI_clamp (by omega)) (vp_in_nI (by omega) (by omega)) (acc d) rfl dX4_requireLoanable_61 ?_
        refine z_iload_n C dX4_requireLoanable_62 rfl 3 rfl ?_
        refine z_isub C (v := ((acc d) - am)) dX4_requireLoanable_63 rfl ?_
        refine z_aload_n C dX4_requireLoanable_64 rfl 0 rfl ?_
        refine z_get C 0 rfl i_X4_requireLoanable_X4 rfl 2 (by decide) m_X4_requireLoanable_f22 rfl rfl dX4_requireLoanable_65 ?_
        refine z_get C 3 rfl i_X4_requireLoanable_X0 rfl 0 (by decide) m_X4_requireLoanable_f91 rfl rfl dX4_requireLoanable_68 ?_
        refine z_iload_n C dX4_requireLoanable_71 rfl 1 rfl ?_
        refine z_iald C 10 0 rfl rfl d (nI_clamp (by omega)) (vp_in_nI (by omega) (by omega)) (flo d) rfl dX4_requireLoanable_72 ?_
        refine z_icmp_ge C (tgt := 86) dX4_requireLoanable_73 (by decide) (fun c73_7 => ?_) (fun c73_7 => ?_)
        · skip
          exact z_vret C () (by exact trivial) rfl (by decide) (by decide) dX4_requireLoanable_86
        · skip
          exfalso
          first | omega | contradiction | exact h2 (Int32.not_le.mp (by assumption)) | exact h3 (Int32.not_le.mp (by assumption))
      · skip
        exfalso
        first | omega | contradiction | exact h2 (Int32.not_le.mp (by assumption)) | exact h3 (Int32.not_le.mp (by assumption))
  · skip
    have n_8 : ¬ lm < 40 := fun q => c9_1 ((nI_ltI (a := lm) (b := 40) (by omega) (by omega)).mpr q)
    exfalso
    first | omega | contradiction | exact h2 (Int32.not_le.mp (by assumption)) | exact h3 (Int32.not_le.mp (by assumption))
set_option maxHeartbeats 4000000 in
set_option maxRecDepth 100000 in
theorem bad_requireLoanable (l : Launch) (hfl : l.stackTraces = false) (sa : Nat → Nat) (D : va_G) (cI cZ cL : ClassId) (ad : Nat → Nat) (acc net tacc tnet flo bnd frm too amt pri wai byp ldr bor due plg clo pap cnd : Nat → Int32) (small price cut proc : Int32) (mk lm le : Nat) (d : Nat) (b : Nat) (am : Int32) (x : Int32) (hd : d < 5) (hb : b < 5) (hlm : lm ≤ 40) (hbad : ¬ lm < 40 ∨ pap b < x ∨ x * price * (1000 - cut) / 1000 < am ∨ acc d - am < flo d) : zX sa D vwCl (zty cI cZ cL) l yX4_requireLoanable wsX4_requireLoanable ({ frames := 6, cells := 1, slots := 6, locals := 82 } : Room) [.ref (ad 0), .int (nI d), .int (nI b), .int am, .int x] (wX ad cI cZ acc net tacc tnet flo bnd frm too amt pri wai byp ldr bor due plg clo pap cnd small price cut proc (nI mk) (nI lm) (nI le)) "java/lang/IllegalStateException" 1 6 := by
  refine zX.of (ret := none) (cc := cX4_requireLoanable) (nL := 5) (own := RX4) (by decide +kernel) rfl [(0, .ref (ad 0)), (1, .int (nI d)), (2, .int (nI b)), (3, .int am), (4, .int x)] rfl (Nat.le_of_ble_eq_true rfl) rfl ?_
  intro A p e s m args below meth c C hmn ht
  refine z_aload_n C dX4_requireLoanable_0 rfl 0 rfl ?_
  refine z_get C 0 rfl i_X4_requireLoanable_X4 rfl 4 (by decide) m_X4_requireLoanable_f36 rfl rfl dX4_requireLoanable_1 ?_
  refine z_get C 5 rfl i_X4_requireLoanable_X1 rfl 4 (by decide) m_X4_requireLoanable_f169 rfl rfl dX4_requireLoanable_4 ?_
  refine z_bipush C (v := 40) dX4_requireLoanable_7 (by decide) ?_
  refine z_icmp_lt C (tgt := 22) dX4_requireLoanable_9 (by decide) (fun c9_1 => ?_) (fun c9_1 => ?_)
  · skip
    have n_2 : lm < 40 := (nI_ltI (a := lm) (b := 40) (by omega) (by omega)).mp c9_1
    refine z_aload_n C dX4_requireLoanable_22 rfl 0 rfl ?_
    refine z_get C 0 rfl i_X4_requireLoanable_X4 rfl 6 (by decide) m_X4_requireLoanable_f44 rfl rfl dX4_requireLoanable_23 ?_
    refine z_iload_n C dX4_requireLoanable_26 rfl 2 rfl ?_
    refine z_iald C 23 0 rfl rfl b (nI_clamp (by omega)) (vp_in_nI (by omega) (by omega)) (pap b) rfl dX4_requireLoanable_27 ?_
    refine z_iload C dX4_requireLoanable_28 4 rfl ?_
    refine z_icmp_lt C (tgt := 43) dX4_requireLoanable_30 (by decide) (fun c30_3 => ?_) (fun c30_3 => ?_)
    · skip
      exact z_throwS C (names := ["java/lang/RuntimeException", "java/lang/Exception"]) ht hfl rfl (by decide +kernel) (by decide +kernel) m_X4_requireLoanable_c77 m_X4_requireLoanable_n77 (is := 213) (text := "the pledge does not cover the loan") (by decide +kernel) (by decide +kernel) x_X4_requireLoanable_43_1 x_X4_requireLoanable_43_2 x_X4_requireLoanable_43_3 dX4_requireLoanable_43 dX4_requireLoanable_46 dX4_requireLoanable_47 dX4_requireLoanable_49 dX4_requireLoanable_52 ⟨Nat.le_of_ble_eq_true rfl, Nat.le_of_ble_eq_true rfl, Nat.le_of_ble_eq_true rfl, Nat.le_of_ble_eq_true rfl⟩ (by decide) (by decide)
    · skip
      refine z_aload_n C dX4_requireLoanable_33 rfl 0 rfl ?_
      refine z_iload C dX4_requireLoanable_34 4 rfl ?_
      refine z_callVi C (T := Unit) (As := [.int x]) (rest := []) (ws' := fun _ => (wX ad cI cZ acc net tacc tnet flo bnd frm too amt pri wai byp ldr bor due plg clo pap cnd small price cut proc (nI mk) (nI lm) (nI le))) (c_X4_pledgeWorth l sa D cI cZ cL ad acc net tacc tnet flo bnd frm too amt pri wai byp ldr bor due plg clo pap cnd small price cut proc mk lm le x ) (cwV 1 C.2.2.2.2.1 gX4_requireLoanable_X4_pledgeWorth rfl rfl rfl (by decide +kernel) ⟨Nat.le_of_ble_eq_true rfl, Nat.le_of_ble_eq_true rfl⟩) 0 rfl rfl rfl (fun _ => zSub.full) zIn.full rfl (Nat.le_of_ble_eq_true rfl) ⟨Nat.le_of_ble_eq_true rfl, Nat.le_of_ble_eq_true rfl⟩ dX4_requireLoanable_36 (fun r_4 _ h_5 => ?_)
      obtain rfl : r_4 = (x * price * (1000 - cut) / 1000) := h_5
      refine z_iload_n C dX4_requireLoanable_39 rfl 3 rfl ?_
      refine z_icmp_ge C (tgt := 53) dX4_requireLoanable_40 (by decide) (fun c40_6 => ?_) (fun c40_6 => ?_)
      · skip
        refine z_aload_n C dX4_requireLoanable_53 rfl 0 rfl ?_
        refine z_get C 0 rfl i_X4_requireLoanable_X4 rfl 0 (by decide) m_X4_requireLoanable_f10 rfl rfl dX4_requireLoanable_54 ?_
        refine z_get C 1 rfl i_X4_requireLoanable_X3 rfl 0 (by decide) m_X4_requireLoanable_f73 rfl rfl dX4_requireLoanable_57 ?_
        refine z_iload_n C dX4_requireLoanable_60 rfl 1 rfl ?_
        refine z_iald C 6 0 rfl rfl d (nI_clamp (by omega)) (vp_in_nI (by omega) (by omega)) (acc d) rfl dX4_requireLoanable_61 ?_
        refine z_iload_n C dX4_requireLoanable_62 rfl 3 rfl ?_
        refine z_isub C (v := ((acc d) - am)) dX4_requireLoanable_63 rfl ?_
        refine z_aload_n C dX4_requireLoanable_64 rfl 0 rfl ?_
        refine z_get C 0 rfl i_X4_requireLoanable_X4 rfl 2 (by decide) m_X4_requireLoanable_f22 rfl rfl dX4_requireLoanable_65 ?_
        refine z_get C 3 rfl i_X4_requireLoanable_X0 rfl 0 (by decide) m_X4_requireLoanable_f91 rfl rfl dX4_requireLoanable_68 ?_
        refine z_iload_n C dX4_requireLoanable_71 rfl 1 rfl ?_
        refine z_iald C 10 0 rfl rfl d (nI_clamp (by omega)) (vp_in_nI (by omega) (by omega)) (flo d) rfl dX4_requireLoanable_72 ?_
        refine z_icmp_ge C (tgt := 86) dX4_requireLoanable_73 (by decide) (fun c73_7 => ?_) (fun c73_7 => ?_)
        · skip
          exfalso
          exact hbad.elim (fun h => h (by omega)) (fun h => h.elim (fun h => c30_3 h) (fun h => h.elim (fun h => absurd c40_6 (Int32.not_le.mpr h)) (fun h => absurd c73_7 (Int32.not_le.mpr h))))
        · skip
          exact z_throwS C (names := ["java/lang/RuntimeException", "java/lang/Exception"]) ht hfl rfl (by decide +kernel) (by decide +kernel) m_X4_requireLoanable_c77 m_X4_requireLoanable_n77 (is := 215) (text := "the lender would be below its floor") (by decide +kernel) (by decide +kernel) x_X4_requireLoanable_76_1 x_X4_requireLoanable_76_2 x_X4_requireLoanable_76_3 dX4_requireLoanable_76 dX4_requireLoanable_79 dX4_requireLoanable_80 dX4_requireLoanable_82 dX4_requireLoanable_85 ⟨Nat.le_of_ble_eq_true rfl, Nat.le_of_ble_eq_true rfl, Nat.le_of_ble_eq_true rfl, Nat.le_of_ble_eq_true rfl⟩ (by decide) (by decide)
      · skip
        exact z_throwS C (names := ["java/lang/RuntimeException", "java/lang/Exception"]) ht hfl rfl (by decide +kernel) (by decide +kernel) m_X4_requireLoanable_c77 m_X4_requireLoanable_n77 (is := 213) (text := "the pledge does not cover the loan") (by decide +kernel) (by decide +kernel) x_X4_requireLoanable_43_1 x_X4_requireLoanable_43_2 x_X4_requireLoanable_43_3 dX4_requireLoanable_43 dX4_requireLoanable_46 dX4_requireLoanable_47 dX4_requireLoanable_49 dX4_requireLoanable_52 ⟨Nat.le_of_ble_eq_true rfl, Nat.le_of_ble_eq_true rfl, Nat.le_of_ble_eq_true rfl, Nat.le_of_ble_eq_true rfl⟩ (by decide) (by decide)
  · skip
    have n_8 : ¬ lm < 40 := fun q => c9_1 ((nI_ltI (a := lm) (b := 40) (by omega) (by omega)).mpr q)
    exact z_throwS C (names := ["java/lang/RuntimeException", "java/lang/Exception"]) ht hfl rfl (by decide +kernel) (by decide +kernel) m_X4_requireLoanable_c77 m_X4_requireLoanable_n77 (is := 208) (text := "there are no more loans to be had") (by decide +kernel) (by decide +kernel) x_X4_requireLoanable_12_1 x_X4_requireLoanable_12_2 x_X4_requireLoanable_12_3 dX4_requireLoanable_12 dX4_requireLoanable_15 dX4_requireLoanable_16 dX4_requireLoanable_18 dX4_requireLoanable_21 ⟨Nat.le_of_ble_eq_true rfl, Nat.le_of_ble_eq_true rfl, Nat.le_of_ble_eq_true rfl, Nat.le_of_ble_eq_true rfl⟩ (by decide) (by decide)
end
section
theorem m_X4_account_f10 : Cond.fieldLink RX4 10 "Queuefloat" "sums" "LQueuefloat$Sums;" ∈ wsX4_account := by decide +kernel
theorem i_X4_account_X4 : ∀ w ∈ wsX40, w ∈ wsX4_account := by decide +kernel
theorem m_X4_account_f73 : Cond.fieldLink RX4 73 "Queuefloat$Sums" "accountOf" "[I" ∈ wsX4_account := by decide +kernel
theorem i_X4_account_X3 : ∀ w ∈ wsX30, w ∈ wsX4_account := by decide +kernel
theorem m_X4_papers_f44 : Cond.fieldLink RX4 44 "Queuefloat" "papersOf" "[I" ∈ wsX4_papers := by decide +kernel
theorem i_X4_papers_X4 : ∀ w ∈ wsX40, w ∈ wsX4_papers := by decide +kernel
theorem m_X4_isOpen_f40 : Cond.fieldLink RX4 40 "Queuefloat" "closed" "[Z" ∈ wsX4_isOpen := by decide +kernel
theorem i_X4_isOpen_X4 : ∀ w ∈ wsX40, w ∈ wsX4_isOpen := by decide +kernel
theorem m_X4_paid_f10 : Cond.fieldLink RX4 10 "Queuefloat" "sums" "LQueuefloat$Sums;" ∈ wsX4_paid := by decide +kernel
theorem i_X4_paid_X4 : ∀ w ∈ wsX40, w ∈ wsX4_paid := by decide +kernel
theorem m_X4_paid_f101 : Cond.fieldLink RX4 101 "Queuefloat$Sums" "netPaid" "[I" ∈ wsX4_paid := by decide +kernel
theorem i_X4_paid_X3 : ∀ w ∈ wsX30, w ∈ wsX4_paid := by decide +kernel
theorem m_X4_queued_f29 : Cond.fieldLink RX4 29 "Queuefloat" "payments" "LQueuefloat$Payments;" ∈ wsX4_queued := by decide +kernel
theorem i_X4_queued_X4 : ∀ w ∈ wsX40, w ∈ wsX4_queued := by decide +kernel
theorem x_X4_queued_8_1 : ∀ w ∈ (vx_atS RX4 144 "java/lang/IndexOutOfBoundsException" ["java/lang/RuntimeException", "java/lang/Exception"]).filter goodWord, w ∈ wsX4_queued := by decide +kernel
theorem x_X4_queued_8_2 : ∀ w ∈ (vx_atS RX4 144 "java/lang/IndexOutOfBoundsException" ["java/lang/RuntimeException", "java/lang/Exception"]).filter (fun w => !goodWord w), w = .castable "java/lang/IndexOutOfBoundsException" "java/lang/IndexOutOfBoundsException" ∨ w ∈ zDs.map Cond.declares := by decide +kernel
theorem x_X4_queued_8_3 : ∀ w ∈ Cond.classLink RX4 140 "java/lang/IndexOutOfBoundsException" :: Cond.initialized "java/lang/IndexOutOfBoundsException" :: vx_atS RX4 144 "java/lang/IndexOutOfBoundsException" ["java/lang/RuntimeException", "java/lang/Exception"], vx_ot w = true := by decide +kernel
theorem m_X4_queued_c140 : Cond.classLink RX4 140 "java/lang/IndexOutOfBoundsException" ∈ wsX4_queued := by decide +kernel
theorem m_X4_queued_n140 : Cond.initialized "java/lang/IndexOutOfBoundsException" ∈ wsX4_queued := by decide +kernel
theorem m_X4_canAny_f29 : Cond.fieldLink RX4 29 "Queuefloat" "payments" "LQueuefloat$Payments;" ∈ wsX4_canAny := by decide +kernel
theorem i_X4_canAny_X4 : ∀ w ∈ wsX40, w ∈ wsX4_canAny := by decide +kernel
theorem x_X4_canAny_12_1 : ∀ w ∈ (vx_atS RX4 81 "java/lang/IllegalStateException" ["java/lang/RuntimeException", "java/lang/Exception"]).filter goodWord, w ∈ wsX4_canAny := by decide +kernel
theorem x_X4_canAny_12_2 : ∀ w ∈ (vx_atS RX4 81 "java/lang/IllegalStateException" ["java/lang/RuntimeException", "java/lang/Exception"]).filter (fun w => !goodWord w), w = .castable "java/lang/IllegalStateException" "java/lang/IllegalStateException" ∨ w ∈ zDs.map Cond.declares := by decide +kernel
theorem x_X4_canAny_12_3 : ∀ w ∈ Cond.classLink RX4 77 "java/lang/IllegalStateException" :: Cond.initialized "java/lang/IllegalStateException" :: vx_atS RX4 81 "java/lang/IllegalStateException" ["java/lang/RuntimeException", "java/lang/Exception"], vx_ot w = true := by decide +kernel
set_option maxHeartbeats 4000000 in
set_option maxRecDepth 100000 in
theorem c_X4_fund_b1 (l : Launch) (hfl : l.stackTraces = false) (sa : Nat → Nat) (D : va_G) (cI cZ cL : ClassId) (ad : Nat → Nat) (acc net tacc tnet flo bnd frm too amt pri wai byp ldr bor due plg clo pap cnd : Nat → Int32) (small price cut proc : Int32) (mk lm le : Nat) (b : Int32) (c9 : Int32) (hb : b < 0 ∨ 5 ≤ b) : zX sa D vwCl (zty cI cZ cL) l yX4_fund wsX4_fund ({ frames := 7, cells := 1, slots := 6, locals := 102 } : Room) [.ref (ad 0), .int b, .int c9] (wX ad cI cZ acc net tacc tnet flo bnd frm too amt pri wai byp ldr bor due plg clo pap cnd small price cut proc (nI mk) (nI lm) (nI le)) "java/lang/IndexOutOfBoundsException" 1 6 := by
  refine zX.of (ret := (some .int)) (cc := cX4_fund) (nL := 3) (own := RX4) (by decide +kernel) rfl [(0, .ref (ad 0)), (1, .int b), (2, .int c9)] rfl (Nat.le_of_ble_eq_true rfl) rfl ?_
  intro A p e s m args below meth c C hmn ht
  refine z_iload_n C dX4_fund_0 rfl 1 rfl ?_
  refine z_callSx C (As := [.int b]) (rest := []) (bad_requireBank l hfl sa D cI cZ cL  b (by first | assumption | omega)) (va_cwS 1 C.2.2.2.2.1 gX4_fund_X4_requireBank rfl rfl rfl (by decide +kernel) ⟨Nat.le_of_ble_eq_true rfl, Nat.le_of_ble_eq_true rfl⟩) zSub.none rfl (Nat.le_of_ble_eq_true rfl) ⟨Nat.le_of_ble_eq_true rfl, Nat.le_of_ble_eq_true rfl⟩ dX4_fund_1 ?_
  exact z_out C ht (by decide) (by decide)
set_option maxHeartbeats 4000000 in
set_option maxRecDepth 100000 in
theorem c_X4_account_ok (l : Launch) (sa : Nat → Nat) (D : va_G) (cI cZ cL : ClassId) (ad : Nat → Nat) (acc net tacc tnet flo bnd frm too amt pri wai byp ldr bor due plg clo pap cnd : Nat → Int32) (small price cut proc : Int32) (mk lm le : Nat) (b : Nat) (hb : b < 5) : zMi (T := Unit) sa D vwCl (zty cI cZ cL) l yX4_account wsX4_account ({ frames := 7, cells := 0, slots := 0, locals := 102 } : Room) [.ref (ad 0), .int (nI b)] (wX ad cI cZ acc net tacc tnet flo bnd frm too amt pri wai byp ldr bor due plg clo pap cnd small price cut proc (nI mk) (nI lm) (nI le)) (fun r9 _ => r9 = (acc b)) (fun _ => (wX ad cI cZ acc net tacc tnet flo bnd frm too amt pri wai byp ldr bor due plg clo pap cnd small price cut proc (nI mk) (nI lm) (nI le))) 0 0 := by
  refine zMi.of (ret := (some .int)) (cc := cX4_account) (nL := 2) (own := RX4) (by decide +kernel) rfl [(0, .ref (ad 0)), (1, .int (nI b))] rfl (Nat.le_of_ble_eq_true rfl) rfl ?_
  intro A p e s m args below meth c C hmn
  refine z_iload_n C dX4_account_0 rfl 1 rfl ?_
  refine z_callSv C (T := Unit) (As := [.int (nI b)]) (rest := []) (ws' := fun _ => (wX ad cI cZ acc net tacc tnet flo bnd frm too amt pri wai byp ldr bor due plg clo pap cnd small price cut proc (nI mk) (nI lm) (nI le))) (ok_requireBank l sa D cI cZ cL  b (by first | assumption | omega)) (va_cwS 1 C.2.2.2.2.1 gX4_account_X4_requireBank rfl rfl rfl (by decide +kernel) ⟨Nat.le_of_ble_eq_true rfl, Nat.le_of_ble_eq_true rfl⟩) (fun _ => zSub.none) zIn.none rfl (Nat.le_of_ble_eq_true rfl) ⟨Nat.le_of_ble_eq_true rfl, Nat.le_of_ble_eq_true rfl⟩ dX4_account_1 (fun _ _ => ?_)
  refine z_aload_n C dX4_account_4 rfl 0 rfl ?_
  refine z_get C 0 rfl i_X4_account_X4 rfl 0 (by decide) m_X4_account_f10 rfl rfl dX4_account_5 ?_
  refine z_get C 1 rfl i_X4_account_X3 rfl 0 (by decide) m_X4_account_f73 rfl rfl dX4_account_8 ?_
  refine z_iload_n C dX4_account_11 rfl 1 rfl ?_
  refine z_iald C 6 0 rfl rfl b (nI_clamp (by omega)) (vp_in_nI (by omega) (by omega)) (acc b) rfl dX4_account_12 ?_
  exact z_iret C () rfl rfl (by decide) (by decide) dX4_account_13
set_option maxHeartbeats 4000000 in
set_option maxRecDepth 100000 in
theorem c_X4_account_b1 (l : Launch) (hfl : l.stackTraces = false) (sa : Nat → Nat) (D : va_G) (cI cZ cL : ClassId) (ad : Nat → Nat) (acc net tacc tnet flo bnd frm too amt pri wai byp ldr bor due plg clo pap cnd : Nat → Int32) (small price cut proc : Int32) (mk lm le : Nat) (b : Int32) (hb : b < 0 ∨ 5 ≤ b) : zX sa D vwCl (zty cI cZ cL) l yX4_account wsX4_account ({ frames := 7, cells := 1, slots := 6, locals := 102 } : Room) [.ref (ad 0), .int b] (wX ad cI cZ acc net tacc tnet flo bnd frm too amt pri wai byp ldr bor due plg clo pap cnd small price cut proc (nI mk) (nI lm) (nI le)) "java/lang/IndexOutOfBoundsException" 1 6 := by
  refine zX.of (ret := (some .int)) (cc := cX4_account) (nL := 2) (own := RX4) (by decide +kernel) rfl [(0, .ref (ad 0)), (1, .int b)] rfl (Nat.le_of_ble_eq_true rfl) rfl ?_
  intro A p e s m args below meth c C hmn ht
  refine z_iload_n C dX4_account_0 rfl 1 rfl ?_
  refine z_callSx C (As := [.int b]) (rest := []) (bad_requireBank l hfl sa D cI cZ cL  b (by first | assumption | omega)) (va_cwS 1 C.2.2.2.2.1 gX4_account_X4_requireBank rfl rfl rfl (by decide +kernel) ⟨Nat.le_of_ble_eq_true rfl, Nat.le_of_ble_eq_true rfl⟩) zSub.none rfl (Nat.le_of_ble_eq_true rfl) ⟨Nat.le_of_ble_eq_true rfl, Nat.le_of_ble_eq_true rfl⟩ dX4_account_1 ?_
  exact z_out C ht (by decide) (by decide)
set_option maxHeartbeats 4000000 in
set_option maxRecDepth 100000 in
theorem c_X4_papers_ok (l : Launch) (sa : Nat → Nat) (D : va_G) (cI cZ cL : ClassId) (ad : Nat → Nat) (acc net tacc tnet flo bnd frm too amt pri wai byp ldr bor due plg clo pap cnd : Nat → Int32) (small price cut proc : Int32) (mk lm le : Nat) (b : Nat) (hb : b < 5) : zMi (T := Unit) sa D vwCl (zty cI cZ cL) l yX4_papers wsX4_papers ({ frames := 7, cells := 0, slots := 0, locals := 102 } : Room) [.ref (ad 0), .int (nI b)] (wX ad cI cZ acc net tacc tnet flo bnd frm too amt pri wai byp ldr bor due plg clo pap cnd small price cut proc (nI mk) (nI lm) (nI le)) (fun r9 _ => r9 = (pap b)) (fun _ => (wX ad cI cZ acc net tacc tnet flo bnd frm too amt pri wai byp ldr bor due plg clo pap cnd small price cut proc (nI mk) (nI lm) (nI le))) 0 0 := by
  refine zMi.of (ret := (some .int)) (cc := cX4_papers) (nL := 2) (own := RX4) (by decide +kernel) rfl [(0, .ref (ad 0)), (1, .int (nI b))] rfl (Nat.le_of_ble_eq_true rfl) rfl ?_
  intro A p e s m args below meth c C hmn
  refine z_iload_n C dX4_papers_0 rfl 1 rfl ?_
  refine z_callSv C (T := Unit) (As := [.int (nI b)]) (rest := []) (ws' := fun _ => (wX ad cI cZ acc net tacc tnet flo bnd frm too amt pri wai byp ldr bor due plg clo pap cnd small price cut proc (nI mk) (nI lm) (nI le))) (ok_requireBank l sa D cI cZ cL  b (by first | assumption | omega)) (va_cwS 1 C.2.2.2.2.1 gX4_papers_X4_requireBank rfl rfl rfl (by decide +kernel) ⟨Nat.le_of_ble_eq_true rfl, Nat.le_of_ble_eq_true rfl⟩) (fun _ => zSub.none) zIn.none rfl (Nat.le_of_ble_eq_true rfl) ⟨Nat.le_of_ble_eq_true rfl, Nat.le_of_ble_eq_true rfl⟩ dX4_papers_1 (fun _ _ => ?_)
  refine z_aload_n C dX4_papers_4 rfl 0 rfl ?_
  refine z_get C 0 rfl i_X4_papers_X4 rfl 6 (by decide) m_X4_papers_f44 rfl rfl dX4_papers_5 ?_
  refine z_iload_n C dX4_papers_8 rfl 1 rfl ?_
  refine z_iald C 23 0 rfl rfl b (nI_clamp (by omega)) (vp_in_nI (by omega) (by omega)) (pap b) rfl dX4_papers_9 ?_
  exact z_iret C () rfl rfl (by decide) (by decide) dX4_papers_10
set_option maxHeartbeats 4000000 in
set_option maxRecDepth 100000 in
theorem c_X4_papers_b1 (l : Launch) (hfl : l.stackTraces = false) (sa : Nat → Nat) (D : va_G) (cI cZ cL : ClassId) (ad : Nat → Nat) (acc net tacc tnet flo bnd frm too amt pri wai byp ldr bor due plg clo pap cnd : Nat → Int32) (small price cut proc : Int32) (mk lm le : Nat) (b : Int32) (hb : b < 0 ∨ 5 ≤ b) : zX sa D vwCl (zty cI cZ cL) l yX4_papers wsX4_papers ({ frames := 7, cells := 1, slots := 6, locals := 102 } : Room) [.ref (ad 0), .int b] (wX ad cI cZ acc net tacc tnet flo bnd frm too amt pri wai byp ldr bor due plg clo pap cnd small price cut proc (nI mk) (nI lm) (nI le)) "java/lang/IndexOutOfBoundsException" 1 6 := by
  refine zX.of (ret := (some .int)) (cc := cX4_papers) (nL := 2) (own := RX4) (by decide +kernel) rfl [(0, .ref (ad 0)), (1, .int b)] rfl (Nat.le_of_ble_eq_true rfl) rfl ?_
  intro A p e s m args below meth c C hmn ht
  refine z_iload_n C dX4_papers_0 rfl 1 rfl ?_
  refine z_callSx C (As := [.int b]) (rest := []) (bad_requireBank l hfl sa D cI cZ cL  b (by first | assumption | omega)) (va_cwS 1 C.2.2.2.2.1 gX4_papers_X4_requireBank rfl rfl rfl (by decide +kernel) ⟨Nat.le_of_ble_eq_true rfl, Nat.le_of_ble_eq_true rfl⟩) zSub.none rfl (Nat.le_of_ble_eq_true rfl) ⟨Nat.le_of_ble_eq_true rfl, Nat.le_of_ble_eq_true rfl⟩ dX4_papers_1 ?_
  exact z_out C ht (by decide) (by decide)
set_option maxHeartbeats 4000000 in
set_option maxRecDepth 100000 in
theorem c_X4_isOpen_ok (l : Launch) (sa : Nat → Nat) (D : va_G) (cI cZ cL : ClassId) (ad : Nat → Nat) (acc net tacc tnet flo bnd frm too amt pri wai byp ldr bor due plg clo pap cnd : Nat → Int32) (small price cut proc : Int32) (mk lm le : Nat) (b : Nat) (hb : b < 5) : zMi (T := Unit) sa D vwCl (zty cI cZ cL) l yX4_isOpen wsX4_isOpen ({ frames := 7, cells := 0, slots := 0, locals := 102 } : Room) [.ref (ad 0), .int (nI b)] (wX ad cI cZ acc net tacc tnet flo bnd frm too amt pri wai byp ldr bor due plg clo pap cnd small price cut proc (nI mk) (nI lm) (nI le)) (fun r9 _ => r9 = if clo b = 0 then 1 else 0) (fun _ => (wX ad cI cZ acc net tacc tnet flo bnd frm too amt pri wai byp ldr bor due plg clo pap cnd small price cut proc (nI mk) (nI lm) (nI le))) 0 0 := by
  refine zMi.of (ret := (some .boolean)) (cc := cX4_isOpen) (nL := 2) (own := RX4) (by decide +kernel) rfl [(0, .ref (ad 0)), (1, .int (nI b))] rfl (Nat.le_of_ble_eq_true rfl) rfl ?_
  intro A p e s m args below meth c C hmn
  refine z_iload_n C dX4_isOpen_0 rfl 1 rfl ?_
  refine z_callSv C (T := Unit) (As := [.int (nI b)]) (rest := []) (ws' := fun _ => (wX ad cI cZ acc net tacc tnet flo bnd frm too amt pri wai byp ldr bor due plg clo pap cnd small price cut proc (nI mk) (nI lm) (nI le))) (ok_requireBank l sa D cI cZ cL  b (by first | assumption | omega)) (va_cwS 1 C.2.2.2.2.1 gX4_isOpen_X4_requireBank rfl rfl rfl (by decide +kernel) ⟨Nat.le_of_ble_eq_true rfl, Nat.le_of_ble_eq_true rfl⟩) (fun _ => zSub.none) zIn.none rfl (Nat.le_of_ble_eq_true rfl) ⟨Nat.le_of_ble_eq_true rfl, Nat.le_of_ble_eq_true rfl⟩ dX4_isOpen_1 (fun _ _ => ?_)
  refine z_aload_n C dX4_isOpen_4 rfl 0 rfl ?_
  refine z_get C 0 rfl i_X4_isOpen_X4 rfl 5 (by decide) m_X4_isOpen_f40 rfl rfl dX4_isOpen_5 ?_
  refine z_iload_n C dX4_isOpen_8 rfl 1 rfl ?_
  refine z_zald C 22 1 rfl rfl b (nI_clamp (by omega)) (vp_in_nI (by omega) (by omega)) (clo b) rfl dX4_isOpen_9 ?_
  refine z_if_ne C (tgt := 17) dX4_isOpen_10 (by decide) (fun c10_1 => ?_) (fun c10_1 => ?_)
  · skip
    refine z_iconst C (v := 0) dX4_isOpen_17 (by decide) ?_
    exact z_zret C () (by simp [c10_1]) rfl (by decide) (by decide) (by decide) dX4_isOpen_18
  · skip
    refine z_iconst C (v := 1) dX4_isOpen_13 (by decide) ?_
    refine z_goto C (tgt := 18) dX4_isOpen_14 (by decide) ?_
    exact z_zret C () (by simp [c10_1]) rfl (by decide) (by decide) (by decide) dX4_isOpen_18
set_option maxHeartbeats 4000000 in
set_option maxRecDepth 100000 in
theorem c_X4_isOpen_b1 (l : Launch) (hfl : l.stackTraces = false) (sa : Nat → Nat) (D : va_G) (cI cZ cL : ClassId) (ad : Nat → Nat) (acc net tacc tnet flo bnd frm too amt pri wai byp ldr bor due plg clo pap cnd : Nat → Int32) (small price cut proc : Int32) (mk lm le : Nat) (b : Int32) (hb : b < 0 ∨ 5 ≤ b) : zX sa D vwCl (zty cI cZ cL) l yX4_isOpen wsX4_isOpen ({ frames := 7, cells := 1, slots := 6, locals := 102 } : Room) [.ref (ad 0), .int b] (wX ad cI cZ acc net tacc tnet flo bnd frm too amt pri wai byp ldr bor due plg clo pap cnd small price cut proc (nI mk) (nI lm) (nI le)) "java/lang/IndexOutOfBoundsException" 1 6 := by
  refine zX.of (ret := (some .boolean)) (cc := cX4_isOpen) (nL := 2) (own := RX4) (by decide +kernel) rfl [(0, .ref (ad 0)), (1, .int b)] rfl (Nat.le_of_ble_eq_true rfl) rfl ?_
  intro A p e s m args below meth c C hmn ht
  refine z_iload_n C dX4_isOpen_0 rfl 1 rfl ?_
  refine z_callSx C (As := [.int b]) (rest := []) (bad_requireBank l hfl sa D cI cZ cL  b (by first | assumption | omega)) (va_cwS 1 C.2.2.2.2.1 gX4_isOpen_X4_requireBank rfl rfl rfl (by decide +kernel) ⟨Nat.le_of_ble_eq_true rfl, Nat.le_of_ble_eq_true rfl⟩) zSub.none rfl (Nat.le_of_ble_eq_true rfl) ⟨Nat.le_of_ble_eq_true rfl, Nat.le_of_ble_eq_true rfl⟩ dX4_isOpen_1 ?_
  exact z_out C ht (by decide) (by decide)
set_option maxHeartbeats 4000000 in
set_option maxRecDepth 100000 in
theorem c_X4_paid_ok (l : Launch) (sa : Nat → Nat) (D : va_G) (cI cZ cL : ClassId) (ad : Nat → Nat) (acc net tacc tnet flo bnd frm too amt pri wai byp ldr bor due plg clo pap cnd : Nat → Int32) (small price cut proc : Int32) (mk lm le : Nat) (b : Nat) (o : Nat) (hb : b < 5) (ho : o < 5) : zMi (T := Unit) sa D vwCl (zty cI cZ cL) l yX4_paid wsX4_paid ({ frames := 7, cells := 0, slots := 0, locals := 102 } : Room) [.ref (ad 0), .int (nI b), .int (nI o)] (wX ad cI cZ acc net tacc tnet flo bnd frm too amt pri wai byp ldr bor due plg clo pap cnd small price cut proc (nI mk) (nI lm) (nI le)) (fun r9 _ => r9 = (net (b * 5 + o))) (fun _ => (wX ad cI cZ acc net tacc tnet flo bnd frm too amt pri wai byp ldr bor due plg clo pap cnd small price cut proc (nI mk) (nI lm) (nI le))) 0 0 := by
  refine zMi.of (ret := (some .int)) (cc := cX4_paid) (nL := 3) (own := RX4) (by decide +kernel) rfl [(0, .ref (ad 0)), (1, .int (nI b)), (2, .int (nI o))] rfl (Nat.le_of_ble_eq_true rfl) rfl ?_
  intro A p e s m args below meth c C hmn
  refine z_iload_n C dX4_paid_0 rfl 1 rfl ?_
  refine z_callSv C (T := Unit) (As := [.int (nI b)]) (rest := []) (ws' := fun _ => (wX ad cI cZ acc net tacc tnet flo bnd frm too amt pri wai byp ldr bor due plg clo pap cnd small price cut proc (nI mk) (nI lm) (nI le))) (ok_requireBank l sa D cI cZ cL  b (by first | assumption | omega)) (va_cwS 1 C.2.2.2.2.1 gX4_paid_X4_requireBank rfl rfl rfl (by decide +kernel) ⟨Nat.le_of_ble_eq_true rfl, Nat.le_of_ble_eq_true rfl⟩) (fun _ => zSub.none) zIn.none rfl (Nat.le_of_ble_eq_true rfl) ⟨Nat.le_of_ble_eq_true rfl, Nat.le_of_ble_eq_true rfl⟩ dX4_paid_1 (fun _ _ => ?_)
  refine z_iload_n C dX4_paid_4 rfl 2 rfl ?_
  refine z_callSv C (T := Unit) (As := [.int (nI o)]) (rest := []) (ws' := fun _ => (wX ad cI cZ acc net tacc tnet flo bnd frm too amt pri wai byp ldr bor due plg clo pap cnd small price cut proc (nI mk) (nI lm) (nI le))) (ok_requireBank l sa D cI cZ cL  o (by first | assumption | omega)) (va_cwS 1 C.2.2.2.2.1 gX4_paid_X4_requireBank rfl rfl rfl (by decide +kernel) ⟨Nat.le_of_ble_eq_true rfl, Nat.le_of_ble_eq_true rfl⟩) (fun _ => zSub.none) zIn.none rfl (Nat.le_of_ble_eq_true rfl) ⟨Nat.le_of_ble_eq_true rfl, Nat.le_of_ble_eq_true rfl⟩ dX4_paid_5 (fun _ _ => ?_)
  refine z_aload_n C dX4_paid_8 rfl 0 rfl ?_
  refine z_get C 0 rfl i_X4_paid_X4 rfl 0 (by decide) m_X4_paid_f10 rfl rfl dX4_paid_9 ?_
  refine z_get C 1 rfl i_X4_paid_X3 rfl 1 (by decide) m_X4_paid_f101 rfl rfl dX4_paid_12 ?_
  refine z_iload_n C dX4_paid_15 rfl 1 rfl ?_
  refine z_iload_n C dX4_paid_16 rfl 2 rfl ?_
  refine z_callSi C (T := Unit) (As := [.int (nI b), .int (nI o)]) (rest := [.ref (ad 7)]) (ws' := fun _ => (wX ad cI cZ acc net tacc tnet flo bnd frm too amt pri wai byp ldr bor due plg clo pap cnd small price cut proc (nI mk) (nI lm) (nI le))) (c_X4_pairOf l sa D cI cZ cL  b o ) (va_cwS 2 C.2.2.2.2.1 gX4_paid_X4_pairOf rfl rfl rfl (by decide +kernel) ⟨Nat.le_of_ble_eq_true rfl, Nat.le_of_ble_eq_true rfl⟩) (fun _ => zSub.none) zIn.none rfl (Nat.le_of_ble_eq_true rfl) ⟨Nat.le_of_ble_eq_true rfl, Nat.le_of_ble_eq_true rfl⟩ dX4_paid_17 (fun r_1 _ h_2 => ?_)
  obtain rfl : r_1 = (nI (b * 5 + o)) := h_2
  refine z_iald C 7 0 rfl rfl (b * 5 + o) (nI_clamp (by omega)) (vp_in_nI (by omega) (by omega)) (net (b * 5 + o)) rfl dX4_paid_20 ?_
  exact z_iret C () rfl rfl (by decide) (by decide) dX4_paid_21
set_option maxHeartbeats 4000000 in
set_option maxRecDepth 100000 in
theorem c_X4_paid_b1 (l : Launch) (hfl : l.stackTraces = false) (sa : Nat → Nat) (D : va_G) (cI cZ cL : ClassId) (ad : Nat → Nat) (acc net tacc tnet flo bnd frm too amt pri wai byp ldr bor due plg clo pap cnd : Nat → Int32) (small price cut proc : Int32) (mk lm le : Nat) (b : Int32) (o : Int32) (hb : b < 0 ∨ 5 ≤ b) : zX sa D vwCl (zty cI cZ cL) l yX4_paid wsX4_paid ({ frames := 7, cells := 1, slots := 6, locals := 102 } : Room) [.ref (ad 0), .int b, .int o] (wX ad cI cZ acc net tacc tnet flo bnd frm too amt pri wai byp ldr bor due plg clo pap cnd small price cut proc (nI mk) (nI lm) (nI le)) "java/lang/IndexOutOfBoundsException" 1 6 := by
  refine zX.of (ret := (some .int)) (cc := cX4_paid) (nL := 3) (own := RX4) (by decide +kernel) rfl [(0, .ref (ad 0)), (1, .int b), (2, .int o)] rfl (Nat.le_of_ble_eq_true rfl) rfl ?_
  intro A p e s m args below meth c C hmn ht
  refine z_iload_n C dX4_paid_0 rfl 1 rfl ?_
  refine z_callSx C (As := [.int b]) (rest := []) (bad_requireBank l hfl sa D cI cZ cL  b (by first | assumption | omega)) (va_cwS 1 C.2.2.2.2.1 gX4_paid_X4_requireBank rfl rfl rfl (by decide +kernel) ⟨Nat.le_of_ble_eq_true rfl, Nat.le_of_ble_eq_true rfl⟩) zSub.none rfl (Nat.le_of_ble_eq_true rfl) ⟨Nat.le_of_ble_eq_true rfl, Nat.le_of_ble_eq_true rfl⟩ dX4_paid_1 ?_
  exact z_out C ht (by decide) (by decide)
set_option maxHeartbeats 4000000 in
set_option maxRecDepth 100000 in
theorem c_X4_paid_b1b (l : Launch) (hfl : l.stackTraces = false) (sa : Nat → Nat) (D : va_G) (cI cZ cL : ClassId) (ad : Nat → Nat) (acc net tacc tnet flo bnd frm too amt pri wai byp ldr bor due plg clo pap cnd : Nat → Int32) (small price cut proc : Int32) (mk lm le : Nat) (b : Nat) (o : Int32) (hb : b < 5) (ho : o < 0 ∨ 5 ≤ o) : zX sa D vwCl (zty cI cZ cL) l yX4_paid wsX4_paid ({ frames := 7, cells := 1, slots := 6, locals := 102 } : Room) [.ref (ad 0), .int (nI b), .int o] (wX ad cI cZ acc net tacc tnet flo bnd frm too amt pri wai byp ldr bor due plg clo pap cnd small price cut proc (nI mk) (nI lm) (nI le)) "java/lang/IndexOutOfBoundsException" 1 6 := by
  refine zX.of (ret := (some .int)) (cc := cX4_paid) (nL := 3) (own := RX4) (by decide +kernel) rfl [(0, .ref (ad 0)), (1, .int (nI b)), (2, .int o)] rfl (Nat.le_of_ble_eq_true rfl) rfl ?_
  intro A p e s m args below meth c C hmn ht
  refine z_iload_n C dX4_paid_0 rfl 1 rfl ?_
  refine z_callSv C (T := Unit) (As := [.int (nI b)]) (rest := []) (ws' := fun _ => (wX ad cI cZ acc net tacc tnet flo bnd frm too amt pri wai byp ldr bor due plg clo pap cnd small price cut proc (nI mk) (nI lm) (nI le))) (ok_requireBank l sa D cI cZ cL  b (by first | assumption | omega)) (va_cwS 1 C.2.2.2.2.1 gX4_paid_X4_requireBank rfl rfl rfl (by decide +kernel) ⟨Nat.le_of_ble_eq_true rfl, Nat.le_of_ble_eq_true rfl⟩) (fun _ => zSub.none) zIn.none rfl (Nat.le_of_ble_eq_true rfl) ⟨Nat.le_of_ble_eq_true rfl, Nat.le_of_ble_eq_true rfl⟩ dX4_paid_1 (fun _ _ => ?_)
  refine z_iload_n C dX4_paid_4 rfl 2 rfl ?_
  refine z_callSx C (As := [.int o]) (rest := []) (bad_requireBank l hfl sa D cI cZ cL  o (by first | assumption | omega)) (va_cwS 1 C.2.2.2.2.1 gX4_paid_X4_requireBank rfl rfl rfl (by decide +kernel) ⟨Nat.le_of_ble_eq_true rfl, Nat.le_of_ble_eq_true rfl⟩) zSub.none rfl (Nat.le_of_ble_eq_true rfl) ⟨Nat.le_of_ble_eq_true rfl, Nat.le_of_ble_eq_true rfl⟩ dX4_paid_5 ?_
  exact z_out C ht (by decide) (by decide)
set_option maxHeartbeats 4000000 in
set_option maxRecDepth 100000 in
theorem c_X4_drop_b1 (l : Launch) (hfl : l.stackTraces = false) (sa : Nat → Nat) (D : va_G) (cI cZ cL : ClassId) (ad : Nat → Nat) (acc net tacc tnet flo bnd frm too amt pri wai byp ldr bor due plg clo pap cnd : Nat → Int32) (small price cut proc : Int32) (mk lm le : Nat) (p9 : Int32) (hp : p9 < 0 ∨ nI mk ≤ p9) : zX sa D vwCl (zty cI cZ cL) l yX4_drop wsX4_drop ({ frames := 7, cells := 1, slots := 6, locals := 103 } : Room) [.ref (ad 0), .int p9] (wX ad cI cZ acc net tacc tnet flo bnd frm too amt pri wai byp ldr bor due plg clo pap cnd small price cut proc (nI mk) (nI lm) (nI le)) "java/lang/IndexOutOfBoundsException" 1 6 := by
  refine zX.of (ret := (some .int)) (cc := cX4_drop) (nL := 2) (own := RX4) (by decide +kernel) rfl [(0, .ref (ad 0)), (1, .int p9)] rfl (Nat.le_of_ble_eq_true rfl) rfl ?_
  intro A p e s m args below meth c C hmn ht
  refine z_aload_n C dX4_drop_0 rfl 0 rfl ?_
  refine z_iload_n C dX4_drop_1 rfl 1 rfl ?_
  refine z_callVx C (As := [.int p9]) (rest := []) (bad_requirePayment l hfl sa D cI cZ cL ad acc net tacc tnet flo bnd frm too amt pri wai byp ldr bor due plg clo pap cnd small price cut proc mk lm le p9 (by first | assumption | omega)) (cwV 1 C.2.2.2.2.1 gX4_drop_X4_requirePayment rfl rfl rfl (by decide +kernel) ⟨Nat.le_of_ble_eq_true rfl, Nat.le_of_ble_eq_true rfl⟩) 0 rfl rfl rfl zSub.full rfl (Nat.le_of_ble_eq_true rfl) ⟨Nat.le_of_ble_eq_true rfl, Nat.le_of_ble_eq_true rfl⟩ dX4_drop_2 ?_
  exact z_out C ht (by decide) (by decide)
set_option maxHeartbeats 4000000 in
set_option maxRecDepth 100000 in
theorem c_X4_queued_ok (l : Launch) (sa : Nat → Nat) (D : va_G) (cI cZ cL : ClassId) (ad : Nat → Nat) (acc net tacc tnet flo bnd frm too amt pri wai byp ldr bor due plg clo pap cnd : Nat → Int32) (small price cut proc : Int32) (mk lm le : Nat) (b : Nat) (k : Nat) (hb : b < 5) (hk : k < 2147483648) (hmk : mk ≤ 60) (hfrm : wf5 mk frm) (htoo : wf5 mk too) (hbyp : bypOK byp pri mk) : zMi (T := Unit) sa D vwCl (zty cI cZ cL) l yX4_queued wsX4_queued ({ frames := 7, cells := 0, slots := 0, locals := 102 } : Room) [.ref (ad 0), .int (nI b), .int (nI k)] (wX ad cI cZ acc net tacc tnet flo bnd frm too amt pri wai byp ldr bor due plg clo pap cnd small price cut proc (nI mk) (nI lm) (nI le)) (fun r9 _ => r9 = oI (atQ (ordL pri mk) (isq wai frm b) k)) (fun _ => (wX ad cI cZ acc net tacc tnet flo bnd frm too amt pri wai byp ldr bor due plg clo pap cnd small price cut proc (nI mk) (nI lm) (nI le))) 0 0 := by
  refine zMi.of (ret := (some .int)) (cc := cX4_queued) (nL := 3) (own := RX4) (by decide +kernel) rfl [(0, .ref (ad 0)), (1, .int (nI b)), (2, .int (nI k))] rfl (Nat.le_of_ble_eq_true rfl) rfl ?_
  intro A p e s m args below meth c C hmn
  refine z_iload_n C dX4_queued_0 rfl 1 rfl ?_
  refine z_callSv C (T := Unit) (As := [.int (nI b)]) (rest := []) (ws' := fun _ => (wX ad cI cZ acc net tacc tnet flo bnd frm too amt pri wai byp ldr bor due plg clo pap cnd small price cut proc (nI mk) (nI lm) (nI le))) (ok_requireBank l sa D cI cZ cL  b (by first | assumption | omega)) (va_cwS 1 C.2.2.2.2.1 gX4_queued_X4_requireBank rfl rfl rfl (by decide +kernel) ⟨Nat.le_of_ble_eq_true rfl, Nat.le_of_ble_eq_true rfl⟩) (fun _ => zSub.none) zIn.none rfl (Nat.le_of_ble_eq_true rfl) ⟨Nat.le_of_ble_eq_true rfl, Nat.le_of_ble_eq_true rfl⟩ dX4_queued_1 (fun _ _ => ?_)
  refine z_iload_n C dX4_queued_4 rfl 2 rfl ?_
  refine z_if_ge C (tgt := 18) dX4_queued_5 (by decide) (fun _ => ?_) (fun h => absurd (nI_pos' (by omega)) h)
  refine z_aload_n C dX4_queued_18 rfl 0 rfl ?_
  refine z_get C 0 rfl i_X4_queued_X4 rfl 3 (by decide) m_X4_queued_f29 rfl rfl dX4_queued_19 ?_
  refine z_iload_n C dX4_queued_22 rfl 1 rfl ?_
  refine z_iload_n C dX4_queued_23 rfl 2 rfl ?_
  rcases hq_1 : atQ (ordL pri mk) (isq wai frm b) k with _ | p_2
  · skip
    refine z_callVi C (T := Unit) (As := [.int (nI b), .int (nI k)]) (rest := []) (ws' := fun _ => (wX ad cI cZ acc net tacc tnet flo bnd frm too amt pri wai byp ldr bor due plg clo pap cnd small price cut proc (nI mk) (nI lm) (nI le))) (c_X2_inQueue l sa D cI cZ cL ad acc net tacc tnet flo bnd frm too amt pri wai byp ldr bor due plg clo pap cnd small price cut proc mk lm le b k (by first | assumption | omega) (by first | assumption | omega) (by first | assumption | omega) (by first | assumption | omega) (by first | assumption | omega) (by first | assumption | omega)) (cwV 2 C.2.2.2.2.1 gX4_queued_X2_inQueue rfl rfl rfl (by decide +kernel) ⟨Nat.le_of_ble_eq_true rfl, Nat.le_of_ble_eq_true rfl⟩) 4 rfl rfl rfl (fun _ => zSub.full) zIn.full rfl (Nat.le_of_ble_eq_true rfl) ⟨Nat.le_of_ble_eq_true rfl, Nat.le_of_ble_eq_true rfl⟩ dX4_queued_24 (fun r_3 _ h_4 => ?_)
    obtain rfl : r_3 = (-1) := h_4.trans (by rw [hq_1]; rfl)
    exact z_iret C () (by simp [hq_1, oI]) rfl (by decide) (by decide) dX4_queued_27
  · skip
    have hm_p_2 := atQ_mem hq_1
    have := ordL_mem hm_p_2.1
    refine z_callVi C (T := Unit) (As := [.int (nI b), .int (nI k)]) (rest := []) (ws' := fun _ => (wX ad cI cZ acc net tacc tnet flo bnd frm too amt pri wai byp ldr bor due plg clo pap cnd small price cut proc (nI mk) (nI lm) (nI le))) (c_X2_inQueue l sa D cI cZ cL ad acc net tacc tnet flo bnd frm too amt pri wai byp ldr bor due plg clo pap cnd small price cut proc mk lm le b k (by first | assumption | omega) (by first | assumption | omega) (by first | assumption | omega) (by first | assumption | omega) (by first | assumption | omega) (by first | assumption | omega)) (cwV 2 C.2.2.2.2.1 gX4_queued_X2_inQueue rfl rfl rfl (by decide +kernel) ⟨Nat.le_of_ble_eq_true rfl, Nat.le_of_ble_eq_true rfl⟩) 4 rfl rfl rfl (fun _ => zSub.full) zIn.full rfl (Nat.le_of_ble_eq_true rfl) ⟨Nat.le_of_ble_eq_true rfl, Nat.le_of_ble_eq_true rfl⟩ dX4_queued_24 (fun r_5 _ h_6 => ?_)
    obtain rfl : r_5 = (nI p_2) := h_6.trans (by rw [hq_1]; rfl)
    exact z_iret C () (by simp [hq_1, oI]) rfl (by decide) (by decide) dX4_queued_27
set_option maxHeartbeats 4000000 in
set_option maxRecDepth 100000 in
theorem c_X4_queued_b1 (l : Launch) (hfl : l.stackTraces = false) (sa : Nat → Nat) (D : va_G) (cI cZ cL : ClassId) (ad : Nat → Nat) (acc net tacc tnet flo bnd frm too amt pri wai byp ldr bor due plg clo pap cnd : Nat → Int32) (small price cut proc : Int32) (mk lm le : Nat) (b : Int32) (k : Int32) (hb : b < 0 ∨ 5 ≤ b) : zX sa D vwCl (zty cI cZ cL) l yX4_queued wsX4_queued ({ frames := 7, cells := 1, slots := 6, locals := 102 } : Room) [.ref (ad 0), .int b, .int k] (wX ad cI cZ acc net tacc tnet flo bnd frm too amt pri wai byp ldr bor due plg clo pap cnd small price cut proc (nI mk) (nI lm) (nI le)) "java/lang/IndexOutOfBoundsException" 1 6 := by
  refine zX.of (ret := (some .int)) (cc := cX4_queued) (nL := 3) (own := RX4) (by decide +kernel) rfl [(0, .ref (ad 0)), (1, .int b), (2, .int k)] rfl (Nat.le_of_ble_eq_true rfl) rfl ?_
  intro A p e s m args below meth c C hmn ht
  refine z_iload_n C dX4_queued_0 rfl 1 rfl ?_
  refine z_callSx C (As := [.int b]) (rest := []) (bad_requireBank l hfl sa D cI cZ cL  b (by first | assumption | omega)) (va_cwS 1 C.2.2.2.2.1 gX4_queued_X4_requireBank rfl rfl rfl (by decide +kernel) ⟨Nat.le_of_ble_eq_true rfl, Nat.le_of_ble_eq_true rfl⟩) zSub.none rfl (Nat.le_of_ble_eq_true rfl) ⟨Nat.le_of_ble_eq_true rfl, Nat.le_of_ble_eq_true rfl⟩ dX4_queued_1 ?_
  exact z_out C ht (by decide) (by decide)
set_option maxHeartbeats 4000000 in
set_option maxRecDepth 100000 in
theorem c_X4_queued_b2 (l : Launch) (hfl : l.stackTraces = false) (sa : Nat → Nat) (D : va_G) (cI cZ cL : ClassId) (ad : Nat → Nat) (acc net tacc tnet flo bnd frm too amt pri wai byp ldr bor due plg clo pap cnd : Nat → Int32) (small price cut proc : Int32) (mk lm le : Nat) (b : Nat) (k : Int32) (hb : b < 5) (hk : k < 0) : zX sa D vwCl (zty cI cZ cL) l yX4_queued wsX4_queued ({ frames := 7, cells := 1, slots := 6, locals := 102 } : Room) [.ref (ad 0), .int (nI b), .int k] (wX ad cI cZ acc net tacc tnet flo bnd frm too amt pri wai byp ldr bor due plg clo pap cnd small price cut proc (nI mk) (nI lm) (nI le)) "java/lang/IndexOutOfBoundsException" 1 6 := by
  refine zX.of (ret := (some .int)) (cc := cX4_queued) (nL := 3) (own := RX4) (by decide +kernel) rfl [(0, .ref (ad 0)), (1, .int (nI b)), (2, .int k)] rfl (Nat.le_of_ble_eq_true rfl) rfl ?_
  intro A p e s m args below meth c C hmn ht
  refine z_iload_n C dX4_queued_0 rfl 1 rfl ?_
  refine z_callSv C (T := Unit) (As := [.int (nI b)]) (rest := []) (ws' := fun _ => (wX ad cI cZ acc net tacc tnet flo bnd frm too amt pri wai byp ldr bor due plg clo pap cnd small price cut proc (nI mk) (nI lm) (nI le))) (ok_requireBank l sa D cI cZ cL  b (by first | assumption | omega)) (va_cwS 1 C.2.2.2.2.1 gX4_queued_X4_requireBank rfl rfl rfl (by decide +kernel) ⟨Nat.le_of_ble_eq_true rfl, Nat.le_of_ble_eq_true rfl⟩) (fun _ => zSub.none) zIn.none rfl (Nat.le_of_ble_eq_true rfl) ⟨Nat.le_of_ble_eq_true rfl, Nat.le_of_ble_eq_true rfl⟩ dX4_queued_1 (fun _ _ => ?_)
  refine z_iload_n C dX4_queued_4 rfl 2 rfl ?_
  refine z_if_ge C (tgt := 18) dX4_queued_5 (by decide) (fun c5_1 => ?_) (fun c5_1 => ?_)
  · skip
    exfalso
    exact absurd hk (Int32.not_lt.mpr (by assumption))
  · skip
    exact z_throwS C (names := ["java/lang/RuntimeException", "java/lang/Exception"]) ht hfl rfl (by decide +kernel) (by decide +kernel) m_X4_queued_c140 m_X4_queued_n140 (is := 142) (text := "there is no such place") (by decide +kernel) (by decide +kernel) x_X4_queued_8_1 x_X4_queued_8_2 x_X4_queued_8_3 dX4_queued_8 dX4_queued_11 dX4_queued_12 dX4_queued_14 dX4_queued_17 ⟨Nat.le_of_ble_eq_true rfl, Nat.le_of_ble_eq_true rfl, Nat.le_of_ble_eq_true rfl, Nat.le_of_ble_eq_true rfl⟩ (by decide) (by decide)
set_option maxHeartbeats 4000000 in
set_option maxRecDepth 100000 in
theorem c_X4_why_b1 (l : Launch) (hfl : l.stackTraces = false) (sa : Nat → Nat) (D : va_G) (cI cZ cL : ClassId) (ad : Nat → Nat) (acc net tacc tnet flo bnd frm too amt pri wai byp ldr bor due plg clo pap cnd : Nat → Int32) (small price cut proc : Int32) (mk lm le : Nat) (p9 : Int32) (hp : p9 < 0 ∨ nI mk ≤ p9) : zX sa D vwCl (zty cI cZ cL) l yX4_why wsX4_why ({ frames := 7, cells := 1, slots := 6, locals := 103 } : Room) [.ref (ad 0), .int p9] (wX ad cI cZ acc net tacc tnet flo bnd frm too amt pri wai byp ldr bor due plg clo pap cnd small price cut proc (nI mk) (nI lm) (nI le)) "java/lang/IndexOutOfBoundsException" 1 6 := by
  refine zX.of (ret := (some .int)) (cc := cX4_why) (nL := 2) (own := RX4) (by decide +kernel) rfl [(0, .ref (ad 0)), (1, .int p9)] rfl (Nat.le_of_ble_eq_true rfl) rfl ?_
  intro A p e s m args below meth c C hmn ht
  refine z_aload_n C dX4_why_0 rfl 0 rfl ?_
  refine z_iload_n C dX4_why_1 rfl 1 rfl ?_
  refine z_callVx C (As := [.int p9]) (rest := []) (bad_requirePayment l hfl sa D cI cZ cL ad acc net tacc tnet flo bnd frm too amt pri wai byp ldr bor due plg clo pap cnd small price cut proc mk lm le p9 (by first | assumption | omega)) (cwV 1 C.2.2.2.2.1 gX4_why_X4_requirePayment rfl rfl rfl (by decide +kernel) ⟨Nat.le_of_ble_eq_true rfl, Nat.le_of_ble_eq_true rfl⟩) 0 rfl rfl rfl zSub.full rfl (Nat.le_of_ble_eq_true rfl) ⟨Nat.le_of_ble_eq_true rfl, Nat.le_of_ble_eq_true rfl⟩ dX4_why_2 ?_
  exact z_out C ht (by decide) (by decide)
set_option maxHeartbeats 4000000 in
set_option maxRecDepth 100000 in
theorem c_X4_canAny_ok (l : Launch) (sa : Nat → Nat) (D : va_G) (cI cZ cL : ClassId) (ad : Nat → Nat) (acc net tacc tnet flo bnd frm too amt pri wai byp ldr bor due plg clo pap cnd : Nat → Int32) (small price cut proc : Int32) (mk lm le : Nat)  (hmk : mk ≤ 60) (hfrm : wf5 mk frm) (htoo : wf5 mk too) (hc10 : cntW wai mk ≤ 10) : zMi (T := (Nat → Int32) × (Nat → Int32) × (Nat → Int32)) sa D vwCl (zty cI cZ cL) l yX4_canAny wsX4_canAny ({ frames := 6, cells := 0, slots := 0, locals := 89 } : Room) [.ref (ad 0)] (wX ad cI cZ acc net tacc tnet flo bnd frm too amt pri wai byp ldr bor due plg clo pap cnd small price cut proc (nI mk) (nI lm) (nI le)) (fun r9 u => r9 = if anyB (okS frm too amt flo bnd (fun k => (wlL wai mk)[k]?) (wlL wai mk).length acc net) (2 ^ (wlL wai mk).length) = true then 1 else 0) (fun u => (wX ad cI cZ acc net u.2.1 u.2.2 flo bnd frm too amt pri wai byp ldr bor due plg clo pap u.1 small price cut proc (nI mk) (nI lm) (nI le))) 0 0 := by
  refine zMi.of (ret := (some .boolean)) (cc := cX4_canAny) (nL := 3) (own := RX4) (by decide +kernel) rfl [(0, .ref (ad 0))] rfl (Nat.le_of_ble_eq_true rfl) rfl ?_
  intro A p e s m args below meth c C hmn
  have hlen := wlL_len wai mk
  have hp2 : 2 ^ (wlL wai mk).length ≤ 1024 := Nat.le_trans (Nat.pow_le_pow_right (n := 2) (by decide) (show (wlL wai mk).length ≤ 10 by omega)) (by decide)
  refine z_aload_n C dX4_canAny_0 rfl 0 rfl ?_
  refine z_get C 0 rfl i_X4_canAny_X4 rfl 3 (by decide) m_X4_canAny_f29 rfl rfl dX4_canAny_1 ?_
  refine z_callVi C (T := Unit) (As := []) (rest := []) (ws' := fun _ => (wX ad cI cZ acc net tacc tnet flo bnd frm too amt pri wai byp ldr bor due plg clo pap cnd small price cut proc (nI mk) (nI lm) (nI le))) (c_X2_countWaiting l sa D cI cZ cL ad acc net tacc tnet flo bnd frm too amt pri wai byp ldr bor due plg clo pap cnd small price cut proc mk lm le  (by first | assumption | omega)) (cwV 0 C.2.2.2.2.1 gX4_canAny_X2_countWaiting rfl rfl rfl (by decide +kernel) ⟨Nat.le_of_ble_eq_true rfl, Nat.le_of_ble_eq_true rfl⟩) 4 rfl rfl rfl (fun _ => zSub.full) zIn.full rfl (Nat.le_of_ble_eq_true rfl) ⟨Nat.le_of_ble_eq_true rfl, Nat.le_of_ble_eq_true rfl⟩ dX4_canAny_4 (fun r_1 _ h_2 => ?_)
  obtain rfl : r_1 = (nI (cntW wai mk)) := h_2
  refine z_bipush C (v := 10) dX4_canAny_7 (by decide) ?_
  refine z_icmp_le C (tgt := 22) dX4_canAny_9 (by decide) (fun c9_3 => ?_) (fun c9_3 => ?_)
  · skip
    have n_4 : (cntW wai mk) ≤ 10 := (nI_leI (a := cntW wai mk) (b := 10) (by omega) (by omega)).mp c9_3
    refine z_aload_n C dX4_canAny_22 rfl 0 rfl ?_
    refine z_callVi C (As := []) (rest := []) (ws' := fun u_5 => (wX ad cI cZ acc net tacc tnet flo bnd frm too amt pri wai byp ldr bor due plg clo pap u_5 small price cut proc (nI mk) (nI lm) (nI le))) (c_X4_listWaiting l sa D cI cZ cL ad acc net tacc tnet flo bnd frm too amt pri wai byp ldr bor due plg clo pap cnd small price cut proc mk lm le  (by first | assumption | omega) (by omega)) (cwV 0 C.2.2.2.2.1 gX4_canAny_X4_listWaiting rfl rfl rfl (by decide +kernel) ⟨Nat.le_of_ble_eq_true rfl, Nat.le_of_ble_eq_true rfl⟩) 0 rfl rfl rfl (fun _ => zSub.full) zIn.full rfl (Nat.le_of_ble_eq_true rfl) ⟨Nat.le_of_ble_eq_true rfl, Nat.le_of_ble_eq_true rfl⟩ dX4_canAny_23 (fun r_6 u_5 h_7 => ?_)
    obtain ⟨h_7, hx_8⟩ := h_7
    obtain rfl : r_6 = (nI ((wlL wai mk).length)) := h_7
    refine z_istore_n C dX4_canAny_26 rfl (by decide) [(0, .ref (ad 0)), (1, .int (nI ((wlL wai mk).length)))] [1, 0] rfl ?_
    refine z_iconst C (v := 1) dX4_canAny_27 (by decide) ?_
    refine z_istore_n C dX4_canAny_28 rfl (by decide) [(0, .ref (ad 0)), (1, .int (nI ((wlL wai mk).length))), (2, .int 1)] [1, 2, 0] rfl ?_
    have L29_k_9 : ∀ (n : Nat) (s9 : Nat) (ta tn : Nat → Int32), 2 ^ (wlL wai mk).length - s9 < n → (1 ≤ s9) → (s9 ≤ 2 ^ (wlL wai mk).length) → (∀ S, S < s9 → 1 ≤ S → (okS frm too amt flo bnd (fun k => (wlL wai mk)[k]?) (wlL wai mk).length acc net) S = false) → zW 0 p l e ({ frames := 6, cells := 0, slots := 0, locals := 89 } : Room) s m args below meth c (MQ below (zQi (T := (Nat → Int32) × (Nat → Int32) × (Nat → Int32)) D vwCl (zty cI cZ cL) A (fun r9 u => r9 = if anyB (okS frm too amt flo bnd (fun k => (wlL wai mk)[k]?) (wlL wai mk).length acc net) (2 ^ (wlL wai mk).length) = true then 1 else 0) (fun u => (wX ad cI cZ acc net u.2.1 u.2.2 flo bnd frm too amt pri wai byp ldr bor due plg clo pap u.1 small price cut proc (nI mk) (nI lm) (nI le)))) args s 0 0 A) D vwCl A 3 0 0 (wX ad cI cZ acc net ta tn flo bnd frm too amt pri wai byp ldr bor due plg clo pap u_5 small price cut proc (nI mk) (nI lm) (nI le)) [(0, .ref (ad 0)), (1, .int (nI ((wlL wai mk).length))), (2, .int (nI s9))] 29 [] := by
      intro n
      induction n with
      | zero => intros; omega
      | succ n ih_10 =>
        intro s9 ta tn hm_11 hs1 hs hno
        refine z_iload_n C dX4_canAny_29 rfl 2 rfl ?_
        refine z_iconst C (v := 1) dX4_canAny_30 (by decide) ?_
        refine z_iload_n C dX4_canAny_31 rfl 1 rfl ?_
        refine z_ishl C (v := (nI (2 ^ ((wlL wai mk).length)))) dX4_canAny_32 (z_shl1 (by omega)) ?_
        refine z_icmp_ge C (tgt := 53) dX4_canAny_33 (by decide) (fun c33_12 => ?_) (fun c33_12 => ?_)
        · skip
          have n_13 : (2 ^ ((wlL wai mk).length)) ≤ s9 := (nI_leI (a := 2 ^ ((wlL wai mk).length)) (b := s9) (by omega) (by omega)).mp c33_12
          refine z_iconst C (v := 0) dX4_canAny_53 (by decide) ?_
          exact z_zret C (u_5, ta, tn) (by rw [if_neg (by rw [anyB_n (fun S h1 h2 => hno S (by omega) h2)]; decide)]) rfl (by decide) (by decide) (by decide) dX4_canAny_54
        · skip
          have n_14 : ¬ (2 ^ ((wlL wai mk).length)) ≤ s9 := fun q => c33_12 ((nI_leI (a := 2 ^ ((wlL wai mk).length)) (b := s9) (by omega) (by omega)).mpr q)
          refine z_aload_n C dX4_canAny_36 rfl 0 rfl ?_
          refine z_iload_n C dX4_canAny_37 rfl 2 rfl ?_
          refine z_iload_n C dX4_canAny_38 rfl 1 rfl ?_
          refine z_case (okS frm too amt flo bnd (fun k => (wlL wai mk)[k]?) ((wlL wai mk).length) acc net s9 = true) (fun hp_15 => ?_) (fun hp_15 => ?_)
          · skip
            refine z_callVi C (As := [.int (nI s9), .int (nI ((wlL wai mk).length))]) (rest := []) (ws' := fun u_16 => (wX ad cI cZ acc net u_16.1 u_16.2 flo bnd frm too amt pri wai byp ldr bor due plg clo pap u_5 small price cut proc (nI mk) (nI lm) (nI le))) (c_X4_canGoTogether l sa D cI cZ cL ad acc net ta tn flo bnd frm too amt pri wai byp ldr bor due plg clo pap u_5 small price cut proc mk lm le s9 ((wlL wai mk).length) (fun k => (wlL wai mk)[k]?) (by first | assumption | omega) (by first | assumption | omega) (by assumption) (by exact fun k p9 h9 => wlL_mem h9) (by first | assumption | omega) (by first | assumption | omega) (by first | assumption | omega)) (cwV 2 C.2.2.2.2.1 gX4_canAny_X4_canGoTogether rfl rfl rfl (by decide +kernel) ⟨Nat.le_of_ble_eq_true rfl, Nat.le_of_ble_eq_true rfl⟩) 0 rfl rfl rfl (fun _ => zSub.full) zIn.full rfl (Nat.le_of_ble_eq_true rfl) ⟨Nat.le_of_ble_eq_true rfl, Nat.le_of_ble_eq_true rfl⟩ dX4_canAny_39 (fun r_17 u_16 h_18 => ?_)
            obtain rfl : r_17 = 1 := h_18.trans (if_pos hp_15)
            refine z_if_eq C (tgt := 47) dX4_canAny_42 (by decide) (fun h => absurd h (by decide)) (fun _ => ?_)
            refine z_iconst C (v := 1) dX4_canAny_45 (by decide) ?_
            exact z_zret C (u_5, u_16.1, u_16.2) (by rw [if_pos (anyB_y (S := s9) hs1 (by omega) (by assumption))]) rfl (by decide) (by decide) (by decide) dX4_canAny_46
          · skip
            refine z_callVi C (As := [.int (nI s9), .int (nI ((wlL wai mk).length))]) (rest := []) (ws' := fun u_19 => (wX ad cI cZ acc net u_19.1 u_19.2 flo bnd frm too amt pri wai byp ldr bor due plg clo pap u_5 small price cut proc (nI mk) (nI lm) (nI le))) (c_X4_canGoTogether l sa D cI cZ cL ad acc net ta tn flo bnd frm too amt pri wai byp ldr bor due plg clo pap u_5 small price cut proc mk lm le s9 ((wlL wai mk).length) (fun k => (wlL wai mk)[k]?) (by first | assumption | omega) (by first | assumption | omega) (by assumption) (by exact fun k p9 h9 => wlL_mem h9) (by first | assumption | omega) (by first | assumption | omega) (by first | assumption | omega)) (cwV 2 C.2.2.2.2.1 gX4_canAny_X4_canGoTogether rfl rfl rfl (by decide +kernel) ⟨Nat.le_of_ble_eq_true rfl, Nat.le_of_ble_eq_true rfl⟩) 0 rfl rfl rfl (fun _ => zSub.full) zIn.full rfl (Nat.le_of_ble_eq_true rfl) ⟨Nat.le_of_ble_eq_true rfl, Nat.le_of_ble_eq_true rfl⟩ dX4_canAny_39 (fun r_20 u_19 h_21 => ?_)
            obtain rfl : r_20 = 0 := h_21.trans (if_neg hp_15)
            refine z_if_eq C (tgt := 47) dX4_canAny_42 (by decide) (fun _ => ?_) (fun h => absurd h (by decide))
            refine z_iinc C (v := (nI (s9 + 1))) dX4_canAny_47 2 rfl (nI_add s9 1) (by decide) [(0, .ref (ad 0)), (1, .int (nI ((wlL wai mk).length))), (2, .int (nI (s9 + 1)))] [1, 2, 0] rfl ?_
            refine z_goto C (tgt := 29) dX4_canAny_50 (by decide) ?_
            exact ih_10 (s9 + 1) u_19.1 u_19.2 (by omega) (by first | assumption | omega) (by first | assumption | omega) (by exact z_no hno (by assumption))
    refine z_lveq [(0, .ref (ad 0)), (1, .int (nI ((wlL wai mk).length))), (2, .int (nI 1))] (by rfl) ?_
    exact L29_k_9 (2 ^ (wlL wai mk).length - 1 + 1) 1 tacc tnet (Nat.lt_succ_self _) (by first | assumption | omega) (by have := Nat.one_le_two_pow (n := (wlL wai mk).length); omega) (by intro S h1 h2; omega)
  · skip
    have n_22 : ¬ (cntW wai mk) ≤ 10 := fun q => c9_3 ((nI_leI (a := cntW wai mk) (b := 10) (by omega) (by omega)).mpr q)
    exfalso
    omega
end
section
theorem m_X3_init_o3 : Cond.methodLink RX3 3 objectInit ∈ wsX3_init := by decide +kernel
theorem m_X3_init_oi : Cond.instanceMethod objectInit ∈ wsX3_init := by decide +kernel
theorem m_X3_init_oc : Cond.code objectInit ⟨#[0xb1]⟩ 1 none ∈ wsX3_init := by decide +kernel
theorem m_X3_init_aI : Cond.arrayClass .int ∈ wsX3_init := by decide +kernel
theorem m_X3_init_f9 : Cond.fieldLink RX3 9 "Queuefloat$Sums" "accountOf" "[I" ∈ wsX3_init := by decide +kernel
theorem i_X3_init_X3 : ∀ w ∈ wsX30, w ∈ wsX3_init := by decide +kernel
theorem m_X3_init_f15 : Cond.fieldLink RX3 15 "Queuefloat$Sums" "netPaid" "[I" ∈ wsX3_init := by decide +kernel
theorem m_X0_init_o3 : Cond.methodLink RX0 3 objectInit ∈ wsX0_init := by decide +kernel
theorem m_X0_init_oi : Cond.instanceMethod objectInit ∈ wsX0_init := by decide +kernel
theorem m_X0_init_oc : Cond.code objectInit ⟨#[0xb1]⟩ 1 none ∈ wsX0_init := by decide +kernel
theorem m_X0_init_aI : Cond.arrayClass .int ∈ wsX0_init := by decide +kernel
theorem m_X0_init_f9 : Cond.fieldLink RX0 9 "Queuefloat$Limits" "floorOf" "[I" ∈ wsX0_init := by decide +kernel
theorem i_X0_init_X0 : ∀ w ∈ wsX00, w ∈ wsX0_init := by decide +kernel
theorem m_X0_init_f15 : Cond.fieldLink RX0 15 "Queuefloat$Limits" "boundOf" "[I" ∈ wsX0_init := by decide +kernel
theorem m_X0_init_k18 : Cond.constant RX0 18 (1000000) ∈ wsX0_init := by decide +kernel
theorem m_X2_init_o3 : Cond.methodLink RX2 3 objectInit ∈ wsX2_init := by decide +kernel
theorem m_X2_init_oi : Cond.instanceMethod objectInit ∈ wsX2_init := by decide +kernel
theorem m_X2_init_oc : Cond.code objectInit ⟨#[0xb1]⟩ 1 none ∈ wsX2_init := by decide +kernel
theorem m_X2_init_aI : Cond.arrayClass .int ∈ wsX2_init := by decide +kernel
theorem m_X2_init_f9 : Cond.fieldLink RX2 9 "Queuefloat$Payments" "from" "[I" ∈ wsX2_init := by decide +kernel
theorem i_X2_init_X2 : ∀ w ∈ wsX20, w ∈ wsX2_init := by decide +kernel
theorem m_X2_init_f15 : Cond.fieldLink RX2 15 "Queuefloat$Payments" "to" "[I" ∈ wsX2_init := by decide +kernel
theorem m_X2_init_f18 : Cond.fieldLink RX2 18 "Queuefloat$Payments" "amount" "[I" ∈ wsX2_init := by decide +kernel
theorem m_X2_init_f21 : Cond.fieldLink RX2 21 "Queuefloat$Payments" "priorityOf" "[I" ∈ wsX2_init := by decide +kernel
theorem m_X2_init_aZ : Cond.arrayClass .boolean ∈ wsX2_init := by decide +kernel
theorem m_X2_init_f24 : Cond.fieldLink RX2 24 "Queuefloat$Payments" "waits" "[Z" ∈ wsX2_init := by decide +kernel
theorem m_X2_init_f28 : Cond.fieldLink RX2 28 "Queuefloat$Payments" "byPriority" "[I" ∈ wsX2_init := by decide +kernel
theorem m_X1_init_o3 : Cond.methodLink RX1 3 objectInit ∈ wsX1_init := by decide +kernel
theorem m_X1_init_oi : Cond.instanceMethod objectInit ∈ wsX1_init := by decide +kernel
theorem m_X1_init_oc : Cond.code objectInit ⟨#[0xb1]⟩ 1 none ∈ wsX1_init := by decide +kernel
theorem m_X1_init_aI : Cond.arrayClass .int ∈ wsX1_init := by decide +kernel
theorem m_X1_init_f9 : Cond.fieldLink RX1 9 "Queuefloat$Loans" "lender" "[I" ∈ wsX1_init := by decide +kernel
theorem i_X1_init_X1 : ∀ w ∈ wsX10, w ∈ wsX1_init := by decide +kernel
theorem m_X1_init_f15 : Cond.fieldLink RX1 15 "Queuefloat$Loans" "borrower" "[I" ∈ wsX1_init := by decide +kernel
theorem m_X1_init_f18 : Cond.fieldLink RX1 18 "Queuefloat$Loans" "due" "[I" ∈ wsX1_init := by decide +kernel
theorem m_X1_init_f21 : Cond.fieldLink RX1 21 "Queuefloat$Loans" "pledge" "[I" ∈ wsX1_init := by decide +kernel
theorem m_X4_init_o1 : Cond.methodLink RX4 1 objectInit ∈ wsX4_init := by decide +kernel
theorem m_X4_init_oi : Cond.instanceMethod objectInit ∈ wsX4_init := by decide +kernel
theorem m_X4_init_oc : Cond.code objectInit ⟨#[0xb1]⟩ 1 none ∈ wsX4_init := by decide +kernel
theorem i_X4_init_X3 : ∀ w ∈ wsX30, w ∈ wsX4_init := by decide +kernel
theorem m_X4_init_c7 : Cond.classLink RX4 7 RX3 ∈ wsX4_init := by decide +kernel
theorem m_X4_init_sX3 : Cond.instantiable RX3 2 ∈ wsX4_init := by decide +kernel
theorem m_X4_init_nX3 : Cond.initialized RX3 ∈ wsX4_init := by decide +kernel
theorem m_X4_init_l9 : Cond.methodLink RX4 9 yX3_init ∈ wsX4_init := by decide +kernel
theorem m_X4_init_imX3_init : Cond.instanceMethod yX3_init ∈ wsX4_init := by decide +kernel
theorem m_X4_init_f10 : Cond.fieldLink RX4 10 "Queuefloat" "sums" "LQueuefloat$Sums;" ∈ wsX4_init := by decide +kernel
theorem i_X4_init_X4 : ∀ w ∈ wsX40, w ∈ wsX4_init := by decide +kernel
theorem m_X4_init_f16 : Cond.fieldLink RX4 16 "Queuefloat" "trial" "LQueuefloat$Sums;" ∈ wsX4_init := by decide +kernel
theorem i_X4_init_X0 : ∀ w ∈ wsX00, w ∈ wsX4_init := by decide +kernel
theorem m_X4_init_c19 : Cond.classLink RX4 19 RX0 ∈ wsX4_init := by decide +kernel
theorem m_X4_init_sX0 : Cond.instantiable RX0 2 ∈ wsX4_init := by decide +kernel
theorem m_X4_init_nX0 : Cond.initialized RX0 ∈ wsX4_init := by decide +kernel
theorem m_X4_init_l21 : Cond.methodLink RX4 21 yX0_init ∈ wsX4_init := by decide +kernel
theorem m_X4_init_imX0_init : Cond.instanceMethod yX0_init ∈ wsX4_init := by decide +kernel
theorem m_X4_init_f22 : Cond.fieldLink RX4 22 "Queuefloat" "limits" "LQueuefloat$Limits;" ∈ wsX4_init := by decide +kernel
theorem i_X4_init_X2 : ∀ w ∈ wsX20, w ∈ wsX4_init := by decide +kernel
theorem m_X4_init_c26 : Cond.classLink RX4 26 RX2 ∈ wsX4_init := by decide +kernel
theorem m_X4_init_sX2 : Cond.instantiable RX2 7 ∈ wsX4_init := by decide +kernel
theorem m_X4_init_nX2 : Cond.initialized RX2 ∈ wsX4_init := by decide +kernel
theorem m_X4_init_l28 : Cond.methodLink RX4 28 yX2_init ∈ wsX4_init := by decide +kernel
theorem m_X4_init_imX2_init : Cond.instanceMethod yX2_init ∈ wsX4_init := by decide +kernel
theorem m_X4_init_f29 : Cond.fieldLink RX4 29 "Queuefloat" "payments" "LQueuefloat$Payments;" ∈ wsX4_init := by decide +kernel
theorem i_X4_init_X1 : ∀ w ∈ wsX10, w ∈ wsX4_init := by decide +kernel
theorem m_X4_init_c33 : Cond.classLink RX4 33 RX1 ∈ wsX4_init := by decide +kernel
theorem m_X4_init_sX1 : Cond.instantiable RX1 6 ∈ wsX4_init := by decide +kernel
theorem m_X4_init_nX1 : Cond.initialized RX1 ∈ wsX4_init := by decide +kernel
theorem m_X4_init_l35 : Cond.methodLink RX4 35 yX1_init ∈ wsX4_init := by decide +kernel
theorem m_X4_init_imX1_init : Cond.instanceMethod yX1_init ∈ wsX4_init := by decide +kernel
theorem m_X4_init_f36 : Cond.fieldLink RX4 36 "Queuefloat" "market" "LQueuefloat$Loans;" ∈ wsX4_init := by decide +kernel
theorem m_X4_init_aZ : Cond.arrayClass .boolean ∈ wsX4_init := by decide +kernel
theorem m_X4_init_f40 : Cond.fieldLink RX4 40 "Queuefloat" "closed" "[Z" ∈ wsX4_init := by decide +kernel
theorem m_X4_init_aI : Cond.arrayClass .int ∈ wsX4_init := by decide +kernel
theorem m_X4_init_f44 : Cond.fieldLink RX4 44 "Queuefloat" "papersOf" "[I" ∈ wsX4_init := by decide +kernel
theorem m_X4_init_f48 : Cond.fieldLink RX4 48 "Queuefloat" "candidates" "[I" ∈ wsX4_init := by decide +kernel
theorem m_X4_init_f51 : Cond.fieldLink RX4 51 "Queuefloat" "small" "I" ∈ wsX4_init := by decide +kernel
theorem m_X4_init_f55 : Cond.fieldLink RX4 55 "Queuefloat" "paperPrice" "I" ∈ wsX4_init := by decide +kernel
theorem m_X4_init_f58 : Cond.fieldLink RX4 58 "Queuefloat" "paperCut" "I" ∈ wsX4_init := by decide +kernel
def bnI (i : Nat) : Nat → Int32 := fun k => if k < i then 1000000 else 0
theorem bnI_0 : bnI 0 = (fun _ => 0) := by funext k; simp [bnI]
theorem bnI_s (i : Nat) : upd (bnI i) i 1000000 = bnI (i + 1) := by
  funext k
  unfold upd bnI
  by_cases e : k = i
  · subst e; simp
  · simp only [e, if_false]
    by_cases h : k < i
    · rw [if_pos h, if_pos (by omega)]
    · rw [if_neg h, if_neg (by omega)]
set_option maxHeartbeats 4000000 in
set_option maxRecDepth 100000 in
theorem c_X3_init (l : Launch) (sa : Nat → Nat) (D : va_G) (cI cZ cL : ClassId) (h0 : Nat)   : zMv (T := Nat × Nat) sa D vwCl (zty cI cZ cL) l yX3_init wsX3_init ({ frames := 1, cells := 2, slots := 30, locals := 12 } : Room) [.ref h0] [(h0, .inr (3, [.null, .null]))] (fun _ => True) (fun u => [(h0, .inr (3, [.ref u.1, .ref u.2])), (u.1, .inl (cI, 5, .inl (fun _ => 0))), (u.2, .inl (cI, 25, .inl (fun _ => 0)))]) 2 30 := by
  refine zMv.of (ret := none) (cc := cX3_init) (nL := 1) (own := RX3) (by decide +kernel) rfl [(0, .ref h0)] rfl (Nat.le_of_ble_eq_true rfl) rfl ?_
  intro A p e s m args below meth c C hmn
  refine z_aload_n C dX3_init_0 rfl 0 rfl ?_
  refine z_objInit C m_X3_init_o3 m_X3_init_oi m_X3_init_oc ⟨Nat.le_of_ble_eq_true rfl, Nat.le_of_ble_eq_true rfl⟩ dX3_init_1 ?_
  refine z_aload_n C dX3_init_4 rfl 0 rfl ?_
  refine z_iconst C (v := 5) dX3_init_5 (by decide) ?_
  refine z_newaI C m_X3_init_aI 0 rfl (N := 5) (by decide) (by decide) (by decide) ⟨Nat.le_of_ble_eq_true rfl, Nat.le_of_ble_eq_true rfl⟩ dX3_init_6 (fun q_1 => ?_)
  refine z_putF C 0 rfl i_X3_init_X3 rfl 0 (by decide) m_X3_init_f9 rfl tyX3 tyX3_ok nmX3 rfl hmn rfl (ty := (.array .int)) (by decide +kernel) rfl rfl (Nat.le_of_ble_eq_true rfl) dX3_init_8 [(h0, .inr (3, [.ref q_1, .null])), (q_1, .inl (cI, 5, .inl (fun _ => 0)))] rfl ?_
  refine z_aload_n C dX3_init_11 rfl 0 rfl ?_
  refine z_bipush C (v := 25) dX3_init_12 (by decide) ?_
  refine z_newaI C m_X3_init_aI 0 rfl (N := 25) (by decide) (by decide) (by decide) ⟨Nat.le_of_ble_eq_true rfl, Nat.le_of_ble_eq_true rfl⟩ dX3_init_14 (fun q_2 => ?_)
  refine z_putF C 0 rfl i_X3_init_X3 rfl 1 (by decide) m_X3_init_f15 rfl tyX3 tyX3_ok nmX3 rfl hmn rfl (ty := (.array .int)) (by decide +kernel) rfl rfl (Nat.le_of_ble_eq_true rfl) dX3_init_16 [(h0, .inr (3, [.ref q_1, .ref q_2])), (q_1, .inl (cI, 5, .inl (fun _ => 0))), (q_2, .inl (cI, 25, .inl (fun _ => 0)))] rfl ?_
  exact z_vret C (q_1, q_2) (by exact trivial) rfl (by decide) (by decide) dX3_init_19
set_option maxHeartbeats 4000000 in
set_option maxRecDepth 100000 in
theorem c_X0_init (l : Launch) (sa : Nat → Nat) (D : va_G) (cI cZ cL : ClassId) (h0 : Nat)   : zMv (T := Nat × Nat) sa D vwCl (zty cI cZ cL) l yX0_init wsX0_init ({ frames := 1, cells := 2, slots := 30, locals := 12 } : Room) [.ref h0] [(h0, .inr (0, [.null, .null]))] (fun _ => True) (fun u => [(h0, .inr (0, [.ref u.1, .ref u.2])), (u.1, .inl (cI, 5, .inl (fun _ => 0))), (u.2, .inl (cI, 25, .inl (bnI 25)))]) 2 30 := by
  refine zMv.of (ret := none) (cc := cX0_init) (nL := 2) (own := RX0) (by decide +kernel) rfl [(0, .ref h0)] rfl (Nat.le_of_ble_eq_true rfl) rfl ?_
  intro A p e s m args below meth c C hmn
  refine z_aload_n C dX0_init_0 rfl 0 rfl ?_
  refine z_objInit C m_X0_init_o3 m_X0_init_oi m_X0_init_oc ⟨Nat.le_of_ble_eq_true rfl, Nat.le_of_ble_eq_true rfl⟩ dX0_init_1 ?_
  refine z_aload_n C dX0_init_4 rfl 0 rfl ?_
  refine z_iconst C (v := 5) dX0_init_5 (by decide) ?_
  refine z_newaI C m_X0_init_aI 0 rfl (N := 5) (by decide) (by decide) (by decide) ⟨Nat.le_of_ble_eq_true rfl, Nat.le_of_ble_eq_true rfl⟩ dX0_init_6 (fun q_1 => ?_)
  refine z_putF C 0 rfl i_X0_init_X0 rfl 0 (by decide) m_X0_init_f9 rfl tyX0 tyX0_ok nmX0 rfl hmn rfl (ty := (.array .int)) (by decide +kernel) rfl rfl (Nat.le_of_ble_eq_true rfl) dX0_init_8 [(h0, .inr (0, [.ref q_1, .null])), (q_1, .inl (cI, 5, .inl (fun _ => 0)))] rfl ?_
  refine z_aload_n C dX0_init_11 rfl 0 rfl ?_
  refine z_bipush C (v := 25) dX0_init_12 (by decide) ?_
  refine z_newaI C m_X0_init_aI 0 rfl (N := 25) (by decide) (by decide) (by decide) ⟨Nat.le_of_ble_eq_true rfl, Nat.le_of_ble_eq_true rfl⟩ dX0_init_14 (fun q_2 => ?_)
  refine z_putF C 0 rfl i_X0_init_X0 rfl 1 (by decide) m_X0_init_f15 rfl tyX0 tyX0_ok nmX0 rfl hmn rfl (ty := (.array .int)) (by decide +kernel) rfl rfl (Nat.le_of_ble_eq_true rfl) dX0_init_16 [(h0, .inr (0, [.ref q_1, .ref q_2])), (q_1, .inl (cI, 5, .inl (fun _ => 0))), (q_2, .inl (cI, 25, .inl (fun _ => 0)))] rfl ?_
  refine z_iconst C (v := 0) dX0_init_19 (by decide) ?_
  refine z_istore_n C dX0_init_20 rfl (by decide) [(0, .ref h0), (1, .int 0)] [1, 0] rfl ?_
  have L21_k_3 : ∀ (n : Nat) (i : Nat), 25 - i < n → (i ≤ 25) → zW 0 p l e ({ frames := 1, cells := 2, slots := 30, locals := 12 } : Room) s m args below meth c (MQ below (zQv (T := Nat × Nat) D vwCl (zty cI cZ cL) A (fun _ => True) (fun u => [(h0, .inr (0, [.ref u.1, .ref u.2])), (u.1, .inl (cI, 5, .inl (fun _ => 0))), (u.2, .inl (cI, 25, .inl (bnI 25)))])) args s 2 30 A) D vwCl A 2 2 30 [(h0, .inr (0, [.ref q_1, .ref q_2])), (q_1, .inl (cI, 5, .inl (fun _ => 0))), (q_2, .inl (cI, 25, .inl (bnI i)))] [(0, .ref h0), (1, .int (nI i))] 21 [] := by
    intro n
    induction n with
    | zero => intros; omega
    | succ n ih_4 =>
      intro i hm_5 hi
      refine z_iload_n C dX0_init_21 rfl 1 rfl ?_
      refine z_bipush C (v := 25) dX0_init_22 (by decide) ?_
      refine z_icmp_ge C (tgt := 41) dX0_init_24 (by decide) (fun c24_6 => ?_) (fun c24_6 => ?_)
      · skip
        have n_7 : 25 ≤ i := (nI_leI (a := 25) (b := i) (by omega) (by omega)).mp c24_6
        exact z_vret C (q_1, q_2) (by exact trivial) (by rw [show i = 25 by omega]) (by decide) (by decide) dX0_init_41
      · skip
        have n_8 : ¬ 25 ≤ i := fun q => c24_6 ((nI_leI (a := 25) (b := i) (by omega) (by omega)).mpr q)
        refine z_aload_n C dX0_init_27 rfl 0 rfl ?_
        refine z_get C 0 rfl i_X0_init_X0 rfl 1 (by decide) m_X0_init_f15 rfl rfl dX0_init_28 ?_
        refine z_iload_n C dX0_init_31 rfl 1 rfl ?_
        refine z_ldc C m_X0_init_k18 dX0_init_32 ?_
        refine z_iast C 2 0 rfl rfl i (nI_clamp (by omega)) (vp_in_nI (by omega) (by omega)) 1000000 rfl dX0_init_34 [(h0, .inr (0, [.ref q_1, .ref q_2])), (q_1, .inl (cI, 5, .inl (fun _ => 0))), (q_2, .inl (cI, 25, .inl (upd (bnI i) i 1000000)))] rfl ?_
        refine z_iinc C (v := (nI (i + 1))) dX0_init_35 1 rfl (nI_add i 1) (by decide) [(0, .ref h0), (1, .int (nI (i + 1)))] [1, 0] rfl ?_
        refine z_goto C (tgt := 21) dX0_init_38 (by decide) ?_
        refine z_ws [(h0, .inr (0, [.ref q_1, .ref q_2])), (q_1, .inl (cI, 5, .inl (fun _ => 0))), (q_2, .inl (cI, 25, .inl (bnI (i + 1))))] (by rw [bnI_s]) ?_
        exact ih_4 (i + 1) (by omega) (by first | assumption | omega)
  refine z_ws [(h0, .inr (0, [.ref q_1, .ref q_2])), (q_1, .inl (cI, 5, .inl (fun _ => 0))), (q_2, .inl (cI, 25, .inl (bnI 0)))] (by rw [bnI_0]) ?_
  refine z_lveq [(0, .ref h0), (1, .int (nI 0))] (by rfl) ?_
  exact L21_k_3 (25 - 0 + 1) 0 (Nat.lt_succ_self _) (by first | assumption | omega)
set_option maxHeartbeats 4000000 in
set_option maxRecDepth 100000 in
theorem c_X2_init (l : Launch) (sa : Nat → Nat) (D : va_G) (cI cZ cL : ClassId) (h0 : Nat)   : zMv (T := Nat × Nat × Nat × Nat × Nat × Nat) sa D vwCl (zty cI cZ cL) l yX2_init wsX2_init ({ frames := 1, cells := 6, slots := 360, locals := 12 } : Room) [.ref h0] [(h0, .inr (2, [.null, .null, .null, .null, .null, .null, .int 0]))] (fun _ => True) (fun u => [(h0, .inr (2, [.ref u.1, .ref u.2.1, .ref u.2.2.1, .ref u.2.2.2.1, .ref u.2.2.2.2.1, .ref u.2.2.2.2.2, .int 0])), (u.1, .inl (cI, 60, .inl (fun _ => 0))), (u.2.1, .inl (cI, 60, .inl (fun _ => 0))), (u.2.2.1, .inl (cI, 60, .inl (fun _ => 0))), (u.2.2.2.1, .inl (cI, 60, .inl (fun _ => 0))), (u.2.2.2.2.1, .inl (cZ, 60, .inl (fun _ => 0))), (u.2.2.2.2.2, .inl (cI, 60, .inl (fun _ => 0)))]) 6 360 := by
  refine zMv.of (ret := none) (cc := cX2_init) (nL := 1) (own := RX2) (by decide +kernel) rfl [(0, .ref h0)] rfl (Nat.le_of_ble_eq_true rfl) rfl ?_
  intro A p e s m args below meth c C hmn
  refine z_aload_n C dX2_init_0 rfl 0 rfl ?_
  refine z_objInit C m_X2_init_o3 m_X2_init_oi m_X2_init_oc ⟨Nat.le_of_ble_eq_true rfl, Nat.le_of_ble_eq_true rfl⟩ dX2_init_1 ?_
  refine z_aload_n C dX2_init_4 rfl 0 rfl ?_
  refine z_bipush C (v := 60) dX2_init_5 (by decide) ?_
  refine z_newaI C m_X2_init_aI 0 rfl (N := 60) (by decide) (by decide) (by decide) ⟨Nat.le_of_ble_eq_true rfl, Nat.le_of_ble_eq_true rfl⟩ dX2_init_7 (fun q_1 => ?_)
  refine z_putF C 0 rfl i_X2_init_X2 rfl 0 (by decide) m_X2_init_f9 rfl tyX2 tyX2_ok nmX2 rfl hmn rfl (ty := (.array .int)) (by decide +kernel) rfl rfl (Nat.le_of_ble_eq_true rfl) dX2_init_9 [(h0, .inr (2, [.ref q_1, .null, .null, .null, .null, .null, .int 0])), (q_1, .inl (cI, 60, .inl (fun _ => 0)))] rfl ?_
  refine z_aload_n C dX2_init_12 rfl 0 rfl ?_
  refine z_bipush C (v := 60) dX2_init_13 (by decide) ?_
  refine z_newaI C m_X2_init_aI 0 rfl (N := 60) (by decide) (by decide) (by decide) ⟨Nat.le_of_ble_eq_true rfl, Nat.le_of_ble_eq_true rfl⟩ dX2_init_15 (fun q_2 => ?_)
  refine z_putF C 0 rfl i_X2_init_X2 rfl 1 (by decide) m_X2_init_f15 rfl tyX2 tyX2_ok nmX2 rfl hmn rfl (ty := (.array .int)) (by decide +kernel) rfl rfl (Nat.le_of_ble_eq_true rfl) dX2_init_17 [(h0, .inr (2, [.ref q_1, .ref q_2, .null, .null, .null, .null, .int 0])), (q_1, .inl (cI, 60, .inl (fun _ => 0))), (q_2, .inl (cI, 60, .inl (fun _ => 0)))] rfl ?_
  refine z_aload_n C dX2_init_20 rfl 0 rfl ?_
  refine z_bipush C (v := 60) dX2_init_21 (by decide) ?_
  refine z_newaI C m_X2_init_aI 0 rfl (N := 60) (by decide) (by decide) (by decide) ⟨Nat.le_of_ble_eq_true rfl, Nat.le_of_ble_eq_true rfl⟩ dX2_init_23 (fun q_3 => ?_)
  refine z_putF C 0 rfl i_X2_init_X2 rfl 2 (by decide) m_X2_init_f18 rfl tyX2 tyX2_ok nmX2 rfl hmn rfl (ty := (.array .int)) (by decide +kernel) rfl rfl (Nat.le_of_ble_eq_true rfl) dX2_init_25 [(h0, .inr (2, [.ref q_1, .ref q_2, .ref q_3, .null, .null, .null, .int 0])), (q_1, .inl (cI, 60, .inl (fun _ => 0))), (q_2, .inl (cI, 60, .inl (fun _ => 0))), (q_3, .inl (cI, 60, .inl (fun _ => 0)))] rfl ?_
  refine z_aload_n C dX2_init_28 rfl 0 rfl ?_
  refine z_bipush C (v := 60) dX2_init_29 (by decide) ?_
  refine z_newaI C m_X2_init_aI 0 rfl (N := 60) (by decide) (by decide) (by decide) ⟨Nat.le_of_ble_eq_true rfl, Nat.le_of_ble_eq_true rfl⟩ dX2_init_31 (fun q_4 => ?_)
  refine z_putF C 0 rfl i_X2_init_X2 rfl 3 (by decide) m_X2_init_f21 rfl tyX2 tyX2_ok nmX2 rfl hmn rfl (ty := (.array .int)) (by decide +kernel) rfl rfl (Nat.le_of_ble_eq_true rfl) dX2_init_33 [(h0, .inr (2, [.ref q_1, .ref q_2, .ref q_3, .ref q_4, .null, .null, .int 0])), (q_1, .inl (cI, 60, .inl (fun _ => 0))), (q_2, .inl (cI, 60, .inl (fun _ => 0))), (q_3, .inl (cI, 60, .inl (fun _ => 0))), (q_4, .inl (cI, 60, .inl (fun _ => 0)))] rfl ?_
  refine z_aload_n C dX2_init_36 rfl 0 rfl ?_
  refine z_bipush C (v := 60) dX2_init_37 (by decide) ?_
  refine z_newaZ C m_X2_init_aZ 1 rfl (N := 60) (by decide) (by decide) (by decide) ⟨Nat.le_of_ble_eq_true rfl, Nat.le_of_ble_eq_true rfl⟩ dX2_init_39 (fun q_5 => ?_)
  refine z_putF C 0 rfl i_X2_init_X2 rfl 4 (by decide) m_X2_init_f24 rfl tyX2 tyX2_ok nmX2 rfl hmn rfl (ty := (.array .boolean)) (by decide +kernel) rfl rfl (Nat.le_of_ble_eq_true rfl) dX2_init_41 [(h0, .inr (2, [.ref q_1, .ref q_2, .ref q_3, .ref q_4, .ref q_5, .null, .int 0])), (q_1, .inl (cI, 60, .inl (fun _ => 0))), (q_2, .inl (cI, 60, .inl (fun _ => 0))), (q_3, .inl (cI, 60, .inl (fun _ => 0))), (q_4, .inl (cI, 60, .inl (fun _ => 0))), (q_5, .inl (cZ, 60, .inl (fun _ => 0)))] rfl ?_
  refine z_aload_n C dX2_init_44 rfl 0 rfl ?_
  refine z_bipush C (v := 60) dX2_init_45 (by decide) ?_
  refine z_newaI C m_X2_init_aI 0 rfl (N := 60) (by decide) (by decide) (by decide) ⟨Nat.le_of_ble_eq_true rfl, Nat.le_of_ble_eq_true rfl⟩ dX2_init_47 (fun q_6 => ?_)
  refine z_putF C 0 rfl i_X2_init_X2 rfl 5 (by decide) m_X2_init_f28 rfl tyX2 tyX2_ok nmX2 rfl hmn rfl (ty := (.array .int)) (by decide +kernel) rfl rfl (Nat.le_of_ble_eq_true rfl) dX2_init_49 [(h0, .inr (2, [.ref q_1, .ref q_2, .ref q_3, .ref q_4, .ref q_5, .ref q_6, .int 0])), (q_1, .inl (cI, 60, .inl (fun _ => 0))), (q_2, .inl (cI, 60, .inl (fun _ => 0))), (q_3, .inl (cI, 60, .inl (fun _ => 0))), (q_4, .inl (cI, 60, .inl (fun _ => 0))), (q_5, .inl (cZ, 60, .inl (fun _ => 0))), (q_6, .inl (cI, 60, .inl (fun _ => 0)))] rfl ?_
  exact z_vret C (q_1, q_2, q_3, q_4, q_5, q_6) (by exact trivial) rfl (by decide) (by decide) dX2_init_52
set_option maxHeartbeats 4000000 in
set_option maxRecDepth 100000 in
theorem c_X1_init (l : Launch) (sa : Nat → Nat) (D : va_G) (cI cZ cL : ClassId) (h0 : Nat)   : zMv (T := Nat × Nat × Nat × Nat) sa D vwCl (zty cI cZ cL) l yX1_init wsX1_init ({ frames := 1, cells := 4, slots := 160, locals := 12 } : Room) [.ref h0] [(h0, .inr (1, [.null, .null, .null, .null, .int 0, .int 0]))] (fun _ => True) (fun u => [(h0, .inr (1, [.ref u.1, .ref u.2.1, .ref u.2.2.1, .ref u.2.2.2, .int 0, .int 0])), (u.1, .inl (cI, 40, .inl (fun _ => 0))), (u.2.1, .inl (cI, 40, .inl (fun _ => 0))), (u.2.2.1, .inl (cI, 40, .inl (fun _ => 0))), (u.2.2.2, .inl (cI, 40, .inl (fun _ => 0)))]) 4 160 := by
  refine zMv.of (ret := none) (cc := cX1_init) (nL := 1) (own := RX1) (by decide +kernel) rfl [(0, .ref h0)] rfl (Nat.le_of_ble_eq_true rfl) rfl ?_
  intro A p e s m args below meth c C hmn
  refine z_aload_n C dX1_init_0 rfl 0 rfl ?_
  refine z_objInit C m_X1_init_o3 m_X1_init_oi m_X1_init_oc ⟨Nat.le_of_ble_eq_true rfl, Nat.le_of_ble_eq_true rfl⟩ dX1_init_1 ?_
  refine z_aload_n C dX1_init_4 rfl 0 rfl ?_
  refine z_bipush C (v := 40) dX1_init_5 (by decide) ?_
  refine z_newaI C m_X1_init_aI 0 rfl (N := 40) (by decide) (by decide) (by decide) ⟨Nat.le_of_ble_eq_true rfl, Nat.le_of_ble_eq_true rfl⟩ dX1_init_7 (fun q_1 => ?_)
  refine z_putF C 0 rfl i_X1_init_X1 rfl 0 (by decide) m_X1_init_f9 rfl tyX1 tyX1_ok nmX1 rfl hmn rfl (ty := (.array .int)) (by decide +kernel) rfl rfl (Nat.le_of_ble_eq_true rfl) dX1_init_9 [(h0, .inr (1, [.ref q_1, .null, .null, .null, .int 0, .int 0])), (q_1, .inl (cI, 40, .inl (fun _ => 0)))] rfl ?_
  refine z_aload_n C dX1_init_12 rfl 0 rfl ?_
  refine z_bipush C (v := 40) dX1_init_13 (by decide) ?_
  refine z_newaI C m_X1_init_aI 0 rfl (N := 40) (by decide) (by decide) (by decide) ⟨Nat.le_of_ble_eq_true rfl, Nat.le_of_ble_eq_true rfl⟩ dX1_init_15 (fun q_2 => ?_)
  refine z_putF C 0 rfl i_X1_init_X1 rfl 1 (by decide) m_X1_init_f15 rfl tyX1 tyX1_ok nmX1 rfl hmn rfl (ty := (.array .int)) (by decide +kernel) rfl rfl (Nat.le_of_ble_eq_true rfl) dX1_init_17 [(h0, .inr (1, [.ref q_1, .ref q_2, .null, .null, .int 0, .int 0])), (q_1, .inl (cI, 40, .inl (fun _ => 0))), (q_2, .inl (cI, 40, .inl (fun _ => 0)))] rfl ?_
  refine z_aload_n C dX1_init_20 rfl 0 rfl ?_
  refine z_bipush C (v := 40) dX1_init_21 (by decide) ?_
  refine z_newaI C m_X1_init_aI 0 rfl (N := 40) (by decide) (by decide) (by decide) ⟨Nat.le_of_ble_eq_true rfl, Nat.le_of_ble_eq_true rfl⟩ dX1_init_23 (fun q_3 => ?_)
  refine z_putF C 0 rfl i_X1_init_X1 rfl 2 (by decide) m_X1_init_f18 rfl tyX1 tyX1_ok nmX1 rfl hmn rfl (ty := (.array .int)) (by decide +kernel) rfl rfl (Nat.le_of_ble_eq_true rfl) dX1_init_25 [(h0, .inr (1, [.ref q_1, .ref q_2, .ref q_3, .null, .int 0, .int 0])), (q_1, .inl (cI, 40, .inl (fun _ => 0))), (q_2, .inl (cI, 40, .inl (fun _ => 0))), (q_3, .inl (cI, 40, .inl (fun _ => 0)))] rfl ?_
  refine z_aload_n C dX1_init_28 rfl 0 rfl ?_
  refine z_bipush C (v := 40) dX1_init_29 (by decide) ?_
  refine z_newaI C m_X1_init_aI 0 rfl (N := 40) (by decide) (by decide) (by decide) ⟨Nat.le_of_ble_eq_true rfl, Nat.le_of_ble_eq_true rfl⟩ dX1_init_31 (fun q_4 => ?_)
  refine z_putF C 0 rfl i_X1_init_X1 rfl 3 (by decide) m_X1_init_f21 rfl tyX1 tyX1_ok nmX1 rfl hmn rfl (ty := (.array .int)) (by decide +kernel) rfl rfl (Nat.le_of_ble_eq_true rfl) dX1_init_33 [(h0, .inr (1, [.ref q_1, .ref q_2, .ref q_3, .ref q_4, .int 0, .int 0])), (q_1, .inl (cI, 40, .inl (fun _ => 0))), (q_2, .inl (cI, 40, .inl (fun _ => 0))), (q_3, .inl (cI, 40, .inl (fun _ => 0))), (q_4, .inl (cI, 40, .inl (fun _ => 0)))] rfl ?_
  exact z_vret C (q_1, q_2, q_3, q_4) (by exact trivial) rfl (by decide) (by decide) dX1_init_36
set_option maxHeartbeats 4000000 in
set_option maxRecDepth 100000 in
theorem c_X4_init (l : Launch) (sa : Nat → Nat) (D : va_G) (cI cZ cL : ClassId) (h0 : Nat)   : zMv (T := Nat → Nat) sa D vwCl (zty cI cZ cL) l yX4_init wsX4_init ({ frames := 2, cells := 24, slots := 649, locals := 33 } : Room) [.ref h0] [(h0, .inr (4, [.null, .null, .null, .null, .null, .null, .null, .null, .int 0, .int 0, .int 0, .int 0]))] (fun u => u 0 = h0) (fun u => wX u cI cZ (fun _ => 0) (fun _ => 0) (fun _ => 0) (fun _ => 0) (fun _ => 0) (bnI 25) (fun _ => 0) (fun _ => 0) (fun _ => 0) (fun _ => 0) (fun _ => 0) (fun _ => 0) (fun _ => 0) (fun _ => 0) (fun _ => 0) (fun _ => 0) (fun _ => 0) (fun _ => 0) (fun _ => 0) 100 100 200 0 (nI 0) (nI 0) (nI 0)) 24 649 := by
  refine zMv.of (ret := none) (cc := cX4_init) (nL := 1) (own := RX4) (by decide +kernel) rfl [(0, .ref h0)] rfl (Nat.le_of_ble_eq_true rfl) rfl ?_
  intro A p e s m args below meth c C hmn
  refine z_aload_n C dX4_init_0 rfl 0 rfl ?_
  refine z_objInit C m_X4_init_o1 m_X4_init_oi m_X4_init_oc ⟨Nat.le_of_ble_eq_true rfl, Nat.le_of_ble_eq_true rfl⟩ dX4_init_1 ?_
  refine z_aload_n C dX4_init_4 rfl 0 rfl ?_
  refine z_new C i_X4_init_X3 tyX3 tyX3_ok m_X4_init_c7 m_X4_init_sX3 m_X4_init_nX3 (ci := 3) rfl (fs := [.null, .null]) (z_dvX3) ⟨Nat.le_of_ble_eq_true rfl, Nat.le_of_ble_eq_true rfl⟩ dX4_init_5 (fun q_1 => ?_)
  refine z_dup C dX4_init_8 rfl ?_
  refine z_callIv C (ret9 := none) (As := []) (rest := [.ref q_1, .ref h0]) (ws' := fun u_4 => [(h0, .inr (4, [.null, .null, .null, .null, .null, .null, .null, .null, .int 0, .int 0, .int 0, .int 0])), (q_1, .inr (3, [.ref u_4.1, .ref u_4.2])), (u_4.1, .inl (cI, 5, .inl (fun _ => 0))), (u_4.2, .inl (cI, 25, .inl (fun _ => 0)))]) (c_X3_init l sa D cI cZ cL q_1  ) (cwI 0 C.2.2.2.2.1 gX4_init_X3_init rfl rfl rfl (C.2.2.2.2.1 _ m_X4_init_nX3) (C.2.2.2.2.1 _ m_X4_init_l9) (C.2.2.2.2.1 _ m_X4_init_imX3_init) rfl (by decide +kernel) ⟨Nat.le_of_ble_eq_true rfl, Nat.le_of_ble_eq_true rfl⟩) (fun u_4 => (zSub.of (wr := [(h0, .inr (4, [.null, .null, .null, .null, .null, .null, .null, .null, .int 0, .int 0, .int 0, .int 0]))]) [1] [0] [0, 1, 2, 3] rfl rfl rfl rfl (by decide) rfl rfl)) (zIn.of [1] rfl rfl) rfl (Nat.le_of_ble_eq_true rfl) ⟨Nat.le_of_ble_eq_true rfl, Nat.le_of_ble_eq_true rfl⟩ dX4_init_9 (fun u_4 _ => ?_)
  obtain ⟨q_2, q_3⟩ := u_4
  refine z_putF C 0 rfl i_X4_init_X4 rfl 0 (by decide) m_X4_init_f10 rfl tyX4 tyX4_ok nmX4 rfl hmn rfl (ty := (.object "Queuefloat$Sums")) (by decide +kernel) rfl rfl (Nat.le_of_ble_eq_true rfl) dX4_init_12 [(h0, .inr (4, [.ref q_1, .null, .null, .null, .null, .null, .null, .null, .int 0, .int 0, .int 0, .int 0])), (q_1, .inr (3, [.ref q_2, .ref q_3])), (q_2, .inl (cI, 5, .inl (fun _ => 0))), (q_3, .inl (cI, 25, .inl (fun _ => 0)))] rfl ?_
  refine z_aload_n C dX4_init_15 rfl 0 rfl ?_
  refine z_new C i_X4_init_X3 tyX3 tyX3_ok m_X4_init_c7 m_X4_init_sX3 m_X4_init_nX3 (ci := 3) rfl (fs := [.null, .null]) (z_dvX3) ⟨Nat.le_of_ble_eq_true rfl, Nat.le_of_ble_eq_true rfl⟩ dX4_init_16 (fun q_5 => ?_)
  refine z_dup C dX4_init_19 rfl ?_
  refine z_callIv C (ret9 := none) (As := []) (rest := [.ref q_5, .ref h0]) (ws' := fun u_8 => [(h0, .inr (4, [.ref q_1, .null, .null, .null, .null, .null, .null, .null, .int 0, .int 0, .int 0, .int 0])), (q_1, .inr (3, [.ref q_2, .ref q_3])), (q_2, .inl (cI, 5, .inl (fun _ => 0))), (q_3, .inl (cI, 25, .inl (fun _ => 0))), (q_5, .inr (3, [.ref u_8.1, .ref u_8.2])), (u_8.1, .inl (cI, 5, .inl (fun _ => 0))), (u_8.2, .inl (cI, 25, .inl (fun _ => 0)))]) (c_X3_init l sa D cI cZ cL q_5  ) (cwI 0 C.2.2.2.2.1 gX4_init_X3_init rfl rfl rfl (C.2.2.2.2.1 _ m_X4_init_nX3) (C.2.2.2.2.1 _ m_X4_init_l9) (C.2.2.2.2.1 _ m_X4_init_imX3_init) rfl (by decide +kernel) ⟨Nat.le_of_ble_eq_true rfl, Nat.le_of_ble_eq_true rfl⟩) (fun u_8 => (zSub.of (wr := [(h0, .inr (4, [.ref q_1, .null, .null, .null, .null, .null, .null, .null, .int 0, .int 0, .int 0, .int 0])), (q_1, .inr (3, [.ref q_2, .ref q_3])), (q_2, .inl (cI, 5, .inl (fun _ => 0))), (q_3, .inl (cI, 25, .inl (fun _ => 0)))]) [4] [0, 1, 2, 3] [0, 1, 2, 3, 4, 5, 6] rfl rfl rfl rfl (by decide) rfl rfl)) (zIn.of [4] rfl rfl) rfl (Nat.le_of_ble_eq_true rfl) ⟨Nat.le_of_ble_eq_true rfl, Nat.le_of_ble_eq_true rfl⟩ dX4_init_20 (fun u_8 _ => ?_)
  obtain ⟨q_6, q_7⟩ := u_8
  refine z_putF C 0 rfl i_X4_init_X4 rfl 1 (by decide) m_X4_init_f16 rfl tyX4 tyX4_ok nmX4 rfl hmn rfl (ty := (.object "Queuefloat$Sums")) (by decide +kernel) rfl rfl (Nat.le_of_ble_eq_true rfl) dX4_init_23 [(h0, .inr (4, [.ref q_1, .ref q_5, .null, .null, .null, .null, .null, .null, .int 0, .int 0, .int 0, .int 0])), (q_1, .inr (3, [.ref q_2, .ref q_3])), (q_2, .inl (cI, 5, .inl (fun _ => 0))), (q_3, .inl (cI, 25, .inl (fun _ => 0))), (q_5, .inr (3, [.ref q_6, .ref q_7])), (q_6, .inl (cI, 5, .inl (fun _ => 0))), (q_7, .inl (cI, 25, .inl (fun _ => 0)))] rfl ?_
  refine z_aload_n C dX4_init_26 rfl 0 rfl ?_
  refine z_new C i_X4_init_X0 tyX0 tyX0_ok m_X4_init_c19 m_X4_init_sX0 m_X4_init_nX0 (ci := 0) rfl (fs := [.null, .null]) (z_dvX0) ⟨Nat.le_of_ble_eq_true rfl, Nat.le_of_ble_eq_true rfl⟩ dX4_init_27 (fun q_9 => ?_)
  refine z_dup C dX4_init_30 rfl ?_
  refine z_callIv C (ret9 := none) (As := []) (rest := [.ref q_9, .ref h0]) (ws' := fun u_12 => [(h0, .inr (4, [.ref q_1, .ref q_5, .null, .null, .null, .null, .null, .null, .int 0, .int 0, .int 0, .int 0])), (q_1, .inr (3, [.ref q_2, .ref q_3])), (q_2, .inl (cI, 5, .inl (fun _ => 0))), (q_3, .inl (cI, 25, .inl (fun _ => 0))), (q_5, .inr (3, [.ref q_6, .ref q_7])), (q_6, .inl (cI, 5, .inl (fun _ => 0))), (q_7, .inl (cI, 25, .inl (fun _ => 0))), (q_9, .inr (0, [.ref u_12.1, .ref u_12.2])), (u_12.1, .inl (cI, 5, .inl (fun _ => 0))), (u_12.2, .inl (cI, 25, .inl (bnI 25)))]) (c_X0_init l sa D cI cZ cL q_9  ) (cwI 0 C.2.2.2.2.1 gX4_init_X0_init rfl rfl rfl (C.2.2.2.2.1 _ m_X4_init_nX0) (C.2.2.2.2.1 _ m_X4_init_l21) (C.2.2.2.2.1 _ m_X4_init_imX0_init) rfl (by decide +kernel) ⟨Nat.le_of_ble_eq_true rfl, Nat.le_of_ble_eq_true rfl⟩) (fun u_12 => (zSub.of (wr := [(h0, .inr (4, [.ref q_1, .ref q_5, .null, .null, .null, .null, .null, .null, .int 0, .int 0, .int 0, .int 0])), (q_1, .inr (3, [.ref q_2, .ref q_3])), (q_2, .inl (cI, 5, .inl (fun _ => 0))), (q_3, .inl (cI, 25, .inl (fun _ => 0))), (q_5, .inr (3, [.ref q_6, .ref q_7])), (q_6, .inl (cI, 5, .inl (fun _ => 0))), (q_7, .inl (cI, 25, .inl (fun _ => 0)))]) [7] [0, 1, 2, 3, 4, 5, 6] [0, 1, 2, 3, 4, 5, 6, 7, 8, 9] rfl rfl rfl rfl (by decide) rfl rfl)) (zIn.of [7] rfl rfl) rfl (Nat.le_of_ble_eq_true rfl) ⟨Nat.le_of_ble_eq_true rfl, Nat.le_of_ble_eq_true rfl⟩ dX4_init_31 (fun u_12 _ => ?_)
  obtain ⟨q_10, q_11⟩ := u_12
  refine z_putF C 0 rfl i_X4_init_X4 rfl 2 (by decide) m_X4_init_f22 rfl tyX4 tyX4_ok nmX4 rfl hmn rfl (ty := (.object "Queuefloat$Limits")) (by decide +kernel) rfl rfl (Nat.le_of_ble_eq_true rfl) dX4_init_34 [(h0, .inr (4, [.ref q_1, .ref q_5, .ref q_9, .null, .null, .null, .null, .null, .int 0, .int 0, .int 0, .int 0])), (q_1, .inr (3, [.ref q_2, .ref q_3])), (q_2, .inl (cI, 5, .inl (fun _ => 0))), (q_3, .inl (cI, 25, .inl (fun _ => 0))), (q_5, .inr (3, [.ref q_6, .ref q_7])), (q_6, .inl (cI, 5, .inl (fun _ => 0))), (q_7, .inl (cI, 25, .inl (fun _ => 0))), (q_9, .inr (0, [.ref q_10, .ref q_11])), (q_10, .inl (cI, 5, .inl (fun _ => 0))), (q_11, .inl (cI, 25, .inl (bnI 25)))] rfl ?_
  refine z_aload_n C dX4_init_37 rfl 0 rfl ?_
  refine z_new C i_X4_init_X2 tyX2 tyX2_ok m_X4_init_c26 m_X4_init_sX2 m_X4_init_nX2 (ci := 2) rfl (fs := [.null, .null, .null, .null, .null, .null, .int 0]) (z_dvX2) ⟨Nat.le_of_ble_eq_true rfl, Nat.le_of_ble_eq_true rfl⟩ dX4_init_38 (fun q_13 => ?_)
  refine z_dup C dX4_init_41 rfl ?_
  refine z_callIv C (ret9 := none) (As := []) (rest := [.ref q_13, .ref h0]) (ws' := fun u_20 => [(h0, .inr (4, [.ref q_1, .ref q_5, .ref q_9, .null, .null, .null, .null, .null, .int 0, .int 0, .int 0, .int 0])), (q_1, .inr (3, [.ref q_2, .ref q_3])), (q_2, .inl (cI, 5, .inl (fun _ => 0))), (q_3, .inl (cI, 25, .inl (fun _ => 0))), (q_5, .inr (3, [.ref q_6, .ref q_7])), (q_6, .inl (cI, 5, .inl (fun _ => 0))), (q_7, .inl (cI, 25, .inl (fun _ => 0))), (q_9, .inr (0, [.ref q_10, .ref q_11])), (q_10, .inl (cI, 5, .inl (fun _ => 0))), (q_11, .inl (cI, 25, .inl (bnI 25))), (q_13, .inr (2, [.ref u_20.1, .ref u_20.2.1, .ref u_20.2.2.1, .ref u_20.2.2.2.1, .ref u_20.2.2.2.2.1, .ref u_20.2.2.2.2.2, .int 0])), (u_20.1, .inl (cI, 60, .inl (fun _ => 0))), (u_20.2.1, .inl (cI, 60, .inl (fun _ => 0))), (u_20.2.2.1, .inl (cI, 60, .inl (fun _ => 0))), (u_20.2.2.2.1, .inl (cI, 60, .inl (fun _ => 0))), (u_20.2.2.2.2.1, .inl (cZ, 60, .inl (fun _ => 0))), (u_20.2.2.2.2.2, .inl (cI, 60, .inl (fun _ => 0)))]) (c_X2_init l sa D cI cZ cL q_13  ) (cwI 0 C.2.2.2.2.1 gX4_init_X2_init rfl rfl rfl (C.2.2.2.2.1 _ m_X4_init_nX2) (C.2.2.2.2.1 _ m_X4_init_l28) (C.2.2.2.2.1 _ m_X4_init_imX2_init) rfl (by decide +kernel) ⟨Nat.le_of_ble_eq_true rfl, Nat.le_of_ble_eq_true rfl⟩) (fun u_20 => (zSub.of (wr := [(h0, .inr (4, [.ref q_1, .ref q_5, .ref q_9, .null, .null, .null, .null, .null, .int 0, .int 0, .int 0, .int 0])), (q_1, .inr (3, [.ref q_2, .ref q_3])), (q_2, .inl (cI, 5, .inl (fun _ => 0))), (q_3, .inl (cI, 25, .inl (fun _ => 0))), (q_5, .inr (3, [.ref q_6, .ref q_7])), (q_6, .inl (cI, 5, .inl (fun _ => 0))), (q_7, .inl (cI, 25, .inl (fun _ => 0))), (q_9, .inr (0, [.ref q_10, .ref q_11])), (q_10, .inl (cI, 5, .inl (fun _ => 0))), (q_11, .inl (cI, 25, .inl (bnI 25)))]) [10] [0, 1, 2, 3, 4, 5, 6, 7, 8, 9] [0, 1, 2, 3, 4, 5, 6, 7, 8, 9, 10, 11, 12, 13, 14, 15, 16] rfl rfl rfl rfl (by decide) rfl rfl)) (zIn.of [10] rfl rfl) rfl (Nat.le_of_ble_eq_true rfl) ⟨Nat.le_of_ble_eq_true rfl, Nat.le_of_ble_eq_true rfl⟩ dX4_init_42 (fun u_20 _ => ?_)
  obtain ⟨q_14, q_15, q_16, q_17, q_18, q_19⟩ := u_20
  refine z_putF C 0 rfl i_X4_init_X4 rfl 3 (by decide) m_X4_init_f29 rfl tyX4 tyX4_ok nmX4 rfl hmn rfl (ty := (.object "Queuefloat$Payments")) (by decide +kernel) rfl rfl (Nat.le_of_ble_eq_true rfl) dX4_init_45 [(h0, .inr (4, [.ref q_1, .ref q_5, .ref q_9, .ref q_13, .null, .null, .null, .null, .int 0, .int 0, .int 0, .int 0])), (q_1, .inr (3, [.ref q_2, .ref q_3])), (q_2, .inl (cI, 5, .inl (fun _ => 0))), (q_3, .inl (cI, 25, .inl (fun _ => 0))), (q_5, .inr (3, [.ref q_6, .ref q_7])), (q_6, .inl (cI, 5, .inl (fun _ => 0))), (q_7, .inl (cI, 25, .inl (fun _ => 0))), (q_9, .inr (0, [.ref q_10, .ref q_11])), (q_10, .inl (cI, 5, .inl (fun _ => 0))), (q_11, .inl (cI, 25, .inl (bnI 25))), (q_13, .inr (2, [.ref q_14, .ref q_15, .ref q_16, .ref q_17, .ref q_18, .ref q_19, .int 0])), (q_14, .inl (cI, 60, .inl (fun _ => 0))), (q_15, .inl (cI, 60, .inl (fun _ => 0))), (q_16, .inl (cI, 60, .inl (fun _ => 0))), (q_17, .inl (cI, 60, .inl (fun _ => 0))), (q_18, .inl (cZ, 60, .inl (fun _ => 0))), (q_19, .inl (cI, 60, .inl (fun _ => 0)))] rfl ?_
  refine z_aload_n C dX4_init_48 rfl 0 rfl ?_
  refine z_new C i_X4_init_X1 tyX1 tyX1_ok m_X4_init_c33 m_X4_init_sX1 m_X4_init_nX1 (ci := 1) rfl (fs := [.null, .null, .null, .null, .int 0, .int 0]) (z_dvX1) ⟨Nat.le_of_ble_eq_true rfl, Nat.le_of_ble_eq_true rfl⟩ dX4_init_49 (fun q_21 => ?_)
  refine z_dup C dX4_init_52 rfl ?_
  refine z_callIv C (ret9 := none) (As := []) (rest := [.ref q_21, .ref h0]) (ws' := fun u_26 => [(h0, .inr (4, [.ref q_1, .ref q_5, .ref q_9, .ref q_13, .null, .null, .null, .null, .int 0, .int 0, .int 0, .int 0])), (q_1, .inr (3, [.ref q_2, .ref q_3])), (q_2, .inl (cI, 5, .inl (fun _ => 0))), (q_3, .inl (cI, 25, .inl (fun _ => 0))), (q_5, .inr (3, [.ref q_6, .ref q_7])), (q_6, .inl (cI, 5, .inl (fun _ => 0))), (q_7, .inl (cI, 25, .inl (fun _ => 0))), (q_9, .inr (0, [.ref q_10, .ref q_11])), (q_10, .inl (cI, 5, .inl (fun _ => 0))), (q_11, .inl (cI, 25, .inl (bnI 25))), (q_13, .inr (2, [.ref q_14, .ref q_15, .ref q_16, .ref q_17, .ref q_18, .ref q_19, .int 0])), (q_14, .inl (cI, 60, .inl (fun _ => 0))), (q_15, .inl (cI, 60, .inl (fun _ => 0))), (q_16, .inl (cI, 60, .inl (fun _ => 0))), (q_17, .inl (cI, 60, .inl (fun _ => 0))), (q_18, .inl (cZ, 60, .inl (fun _ => 0))), (q_19, .inl (cI, 60, .inl (fun _ => 0))), (q_21, .inr (1, [.ref u_26.1, .ref u_26.2.1, .ref u_26.2.2.1, .ref u_26.2.2.2, .int 0, .int 0])), (u_26.1, .inl (cI, 40, .inl (fun _ => 0))), (u_26.2.1, .inl (cI, 40, .inl (fun _ => 0))), (u_26.2.2.1, .inl (cI, 40, .inl (fun _ => 0))), (u_26.2.2.2, .inl (cI, 40, .inl (fun _ => 0)))]) (c_X1_init l sa D cI cZ cL q_21  ) (cwI 0 C.2.2.2.2.1 gX4_init_X1_init rfl rfl rfl (C.2.2.2.2.1 _ m_X4_init_nX1) (C.2.2.2.2.1 _ m_X4_init_l35) (C.2.2.2.2.1 _ m_X4_init_imX1_init) rfl (by decide +kernel) ⟨Nat.le_of_ble_eq_true rfl, Nat.le_of_ble_eq_true rfl⟩) (fun u_26 => (zSub.of (wr := [(h0, .inr (4, [.ref q_1, .ref q_5, .ref q_9, .ref q_13, .null, .null, .null, .null, .int 0, .int 0, .int 0, .int 0])), (q_1, .inr (3, [.ref q_2, .ref q_3])), (q_2, .inl (cI, 5, .inl (fun _ => 0))), (q_3, .inl (cI, 25, .inl (fun _ => 0))), (q_5, .inr (3, [.ref q_6, .ref q_7])), (q_6, .inl (cI, 5, .inl (fun _ => 0))), (q_7, .inl (cI, 25, .inl (fun _ => 0))), (q_9, .inr (0, [.ref q_10, .ref q_11])), (q_10, .inl (cI, 5, .inl (fun _ => 0))), (q_11, .inl (cI, 25, .inl (bnI 25))), (q_13, .inr (2, [.ref q_14, .ref q_15, .ref q_16, .ref q_17, .ref q_18, .ref q_19, .int 0])), (q_14, .inl (cI, 60, .inl (fun _ => 0))), (q_15, .inl (cI, 60, .inl (fun _ => 0))), (q_16, .inl (cI, 60, .inl (fun _ => 0))), (q_17, .inl (cI, 60, .inl (fun _ => 0))), (q_18, .inl (cZ, 60, .inl (fun _ => 0))), (q_19, .inl (cI, 60, .inl (fun _ => 0)))]) [17] [0, 1, 2, 3, 4, 5, 6, 7, 8, 9, 10, 11, 12, 13, 14, 15, 16] [0, 1, 2, 3, 4, 5, 6, 7, 8, 9, 10, 11, 12, 13, 14, 15, 16, 17, 18, 19, 20, 21] rfl rfl rfl rfl (by decide) rfl rfl)) (zIn.of [17] rfl rfl) rfl (Nat.le_of_ble_eq_true rfl) ⟨Nat.le_of_ble_eq_true rfl, Nat.le_of_ble_eq_true rfl⟩ dX4_init_53 (fun u_26 _ => ?_)
  obtain ⟨q_22, q_23, q_24, q_25⟩ := u_26
  refine z_putF C 0 rfl i_X4_init_X4 rfl 4 (by decide) m_X4_init_f36 rfl tyX4 tyX4_ok nmX4 rfl hmn rfl (ty := (.object "Queuefloat$Loans")) (by decide +kernel) rfl rfl (Nat.le_of_ble_eq_true rfl) dX4_init_56 [(h0, .inr (4, [.ref q_1, .ref q_5, .ref q_9, .ref q_13, .ref q_21, .null, .null, .null, .int 0, .int 0, .int 0, .int 0])), (q_1, .inr (3, [.ref q_2, .ref q_3])), (q_2, .inl (cI, 5, .inl (fun _ => 0))), (q_3, .inl (cI, 25, .inl (fun _ => 0))), (q_5, .inr (3, [.ref q_6, .ref q_7])), (q_6, .inl (cI, 5, .inl (fun _ => 0))), (q_7, .inl (cI, 25, .inl (fun _ => 0))), (q_9, .inr (0, [.ref q_10, .ref q_11])), (q_10, .inl (cI, 5, .inl (fun _ => 0))), (q_11, .inl (cI, 25, .inl (bnI 25))), (q_13, .inr (2, [.ref q_14, .ref q_15, .ref q_16, .ref q_17, .ref q_18, .ref q_19, .int 0])), (q_14, .inl (cI, 60, .inl (fun _ => 0))), (q_15, .inl (cI, 60, .inl (fun _ => 0))), (q_16, .inl (cI, 60, .inl (fun _ => 0))), (q_17, .inl (cI, 60, .inl (fun _ => 0))), (q_18, .inl (cZ, 60, .inl (fun _ => 0))), (q_19, .inl (cI, 60, .inl (fun _ => 0))), (q_21, .inr (1, [.ref q_22, .ref q_23, .ref q_24, .ref q_25, .int 0, .int 0])), (q_22, .inl (cI, 40, .inl (fun _ => 0))), (q_23, .inl (cI, 40, .inl (fun _ => 0))), (q_24, .inl (cI, 40, .inl (fun _ => 0))), (q_25, .inl (cI, 40, .inl (fun _ => 0)))] rfl ?_
  refine z_aload_n C dX4_init_59 rfl 0 rfl ?_
  refine z_iconst C (v := 5) dX4_init_60 (by decide) ?_
  refine z_newaZ C m_X4_init_aZ 1 rfl (N := 5) (by decide) (by decide) (by decide) ⟨Nat.le_of_ble_eq_true rfl, Nat.le_of_ble_eq_true rfl⟩ dX4_init_61 (fun q_27 => ?_)
  refine z_putF C 0 rfl i_X4_init_X4 rfl 5 (by decide) m_X4_init_f40 rfl tyX4 tyX4_ok nmX4 rfl hmn rfl (ty := (.array .boolean)) (by decide +kernel) rfl rfl (Nat.le_of_ble_eq_true rfl) dX4_init_63 [(h0, .inr (4, [.ref q_1, .ref q_5, .ref q_9, .ref q_13, .ref q_21, .ref q_27, .null, .null, .int 0, .int 0, .int 0, .int 0])), (q_1, .inr (3, [.ref q_2, .ref q_3])), (q_2, .inl (cI, 5, .inl (fun _ => 0))), (q_3, .inl (cI, 25, .inl (fun _ => 0))), (q_5, .inr (3, [.ref q_6, .ref q_7])), (q_6, .inl (cI, 5, .inl (fun _ => 0))), (q_7, .inl (cI, 25, .inl (fun _ => 0))), (q_9, .inr (0, [.ref q_10, .ref q_11])), (q_10, .inl (cI, 5, .inl (fun _ => 0))), (q_11, .inl (cI, 25, .inl (bnI 25))), (q_13, .inr (2, [.ref q_14, .ref q_15, .ref q_16, .ref q_17, .ref q_18, .ref q_19, .int 0])), (q_14, .inl (cI, 60, .inl (fun _ => 0))), (q_15, .inl (cI, 60, .inl (fun _ => 0))), (q_16, .inl (cI, 60, .inl (fun _ => 0))), (q_17, .inl (cI, 60, .inl (fun _ => 0))), (q_18, .inl (cZ, 60, .inl (fun _ => 0))), (q_19, .inl (cI, 60, .inl (fun _ => 0))), (q_21, .inr (1, [.ref q_22, .ref q_23, .ref q_24, .ref q_25, .int 0, .int 0])), (q_22, .inl (cI, 40, .inl (fun _ => 0))), (q_23, .inl (cI, 40, .inl (fun _ => 0))), (q_24, .inl (cI, 40, .inl (fun _ => 0))), (q_25, .inl (cI, 40, .inl (fun _ => 0))), (q_27, .inl (cZ, 5, .inl (fun _ => 0)))] rfl ?_
  refine z_aload_n C dX4_init_66 rfl 0 rfl ?_
  refine z_iconst C (v := 5) dX4_init_67 (by decide) ?_
  refine z_newaI C m_X4_init_aI 0 rfl (N := 5) (by decide) (by decide) (by decide) ⟨Nat.le_of_ble_eq_true rfl, Nat.le_of_ble_eq_true rfl⟩ dX4_init_68 (fun q_28 => ?_)
  refine z_putF C 0 rfl i_X4_init_X4 rfl 6 (by decide) m_X4_init_f44 rfl tyX4 tyX4_ok nmX4 rfl hmn rfl (ty := (.array .int)) (by decide +kernel) rfl rfl (Nat.le_of_ble_eq_true rfl) dX4_init_70 [(h0, .inr (4, [.ref q_1, .ref q_5, .ref q_9, .ref q_13, .ref q_21, .ref q_27, .ref q_28, .null, .int 0, .int 0, .int 0, .int 0])), (q_1, .inr (3, [.ref q_2, .ref q_3])), (q_2, .inl (cI, 5, .inl (fun _ => 0))), (q_3, .inl (cI, 25, .inl (fun _ => 0))), (q_5, .inr (3, [.ref q_6, .ref q_7])), (q_6, .inl (cI, 5, .inl (fun _ => 0))), (q_7, .inl (cI, 25, .inl (fun _ => 0))), (q_9, .inr (0, [.ref q_10, .ref q_11])), (q_10, .inl (cI, 5, .inl (fun _ => 0))), (q_11, .inl (cI, 25, .inl (bnI 25))), (q_13, .inr (2, [.ref q_14, .ref q_15, .ref q_16, .ref q_17, .ref q_18, .ref q_19, .int 0])), (q_14, .inl (cI, 60, .inl (fun _ => 0))), (q_15, .inl (cI, 60, .inl (fun _ => 0))), (q_16, .inl (cI, 60, .inl (fun _ => 0))), (q_17, .inl (cI, 60, .inl (fun _ => 0))), (q_18, .inl (cZ, 60, .inl (fun _ => 0))), (q_19, .inl (cI, 60, .inl (fun _ => 0))), (q_21, .inr (1, [.ref q_22, .ref q_23, .ref q_24, .ref q_25, .int 0, .int 0])), (q_22, .inl (cI, 40, .inl (fun _ => 0))), (q_23, .inl (cI, 40, .inl (fun _ => 0))), (q_24, .inl (cI, 40, .inl (fun _ => 0))), (q_25, .inl (cI, 40, .inl (fun _ => 0))), (q_27, .inl (cZ, 5, .inl (fun _ => 0))), (q_28, .inl (cI, 5, .inl (fun _ => 0)))] rfl ?_
  refine z_aload_n C dX4_init_73 rfl 0 rfl ?_
  refine z_bipush C (v := 10) dX4_init_74 (by decide) ?_
  refine z_newaI C m_X4_init_aI 0 rfl (N := 10) (by decide) (by decide) (by decide) ⟨Nat.le_of_ble_eq_true rfl, Nat.le_of_ble_eq_true rfl⟩ dX4_init_76 (fun q_29 => ?_)
  refine z_putF C 0 rfl i_X4_init_X4 rfl 7 (by decide) m_X4_init_f48 rfl tyX4 tyX4_ok nmX4 rfl hmn rfl (ty := (.array .int)) (by decide +kernel) rfl rfl (Nat.le_of_ble_eq_true rfl) dX4_init_78 [(h0, .inr (4, [.ref q_1, .ref q_5, .ref q_9, .ref q_13, .ref q_21, .ref q_27, .ref q_28, .ref q_29, .int 0, .int 0, .int 0, .int 0])), (q_1, .inr (3, [.ref q_2, .ref q_3])), (q_2, .inl (cI, 5, .inl (fun _ => 0))), (q_3, .inl (cI, 25, .inl (fun _ => 0))), (q_5, .inr (3, [.ref q_6, .ref q_7])), (q_6, .inl (cI, 5, .inl (fun _ => 0))), (q_7, .inl (cI, 25, .inl (fun _ => 0))), (q_9, .inr (0, [.ref q_10, .ref q_11])), (q_10, .inl (cI, 5, .inl (fun _ => 0))), (q_11, .inl (cI, 25, .inl (bnI 25))), (q_13, .inr (2, [.ref q_14, .ref q_15, .ref q_16, .ref q_17, .ref q_18, .ref q_19, .int 0])), (q_14, .inl (cI, 60, .inl (fun _ => 0))), (q_15, .inl (cI, 60, .inl (fun _ => 0))), (q_16, .inl (cI, 60, .inl (fun _ => 0))), (q_17, .inl (cI, 60, .inl (fun _ => 0))), (q_18, .inl (cZ, 60, .inl (fun _ => 0))), (q_19, .inl (cI, 60, .inl (fun _ => 0))), (q_21, .inr (1, [.ref q_22, .ref q_23, .ref q_24, .ref q_25, .int 0, .int 0])), (q_22, .inl (cI, 40, .inl (fun _ => 0))), (q_23, .inl (cI, 40, .inl (fun _ => 0))), (q_24, .inl (cI, 40, .inl (fun _ => 0))), (q_25, .inl (cI, 40, .inl (fun _ => 0))), (q_27, .inl (cZ, 5, .inl (fun _ => 0))), (q_28, .inl (cI, 5, .inl (fun _ => 0))), (q_29, .inl (cI, 10, .inl (fun _ => 0)))] rfl ?_
  refine z_aload_n C dX4_init_81 rfl 0 rfl ?_
  refine z_bipush C (v := 100) dX4_init_82 (by decide) ?_
  refine z_put C 0 rfl i_X4_init_X4 rfl 8 (by decide) m_X4_init_f51 rfl tyX4 tyX4_ok nmX4 rfl (ty := .int) (by decide +kernel) rfl rfl (Nat.le_of_ble_eq_true rfl) dX4_init_84 [(h0, .inr (4, [.ref q_1, .ref q_5, .ref q_9, .ref q_13, .ref q_21, .ref q_27, .ref q_28, .ref q_29, .int 100, .int 0, .int 0, .int 0])), (q_1, .inr (3, [.ref q_2, .ref q_3])), (q_2, .inl (cI, 5, .inl (fun _ => 0))), (q_3, .inl (cI, 25, .inl (fun _ => 0))), (q_5, .inr (3, [.ref q_6, .ref q_7])), (q_6, .inl (cI, 5, .inl (fun _ => 0))), (q_7, .inl (cI, 25, .inl (fun _ => 0))), (q_9, .inr (0, [.ref q_10, .ref q_11])), (q_10, .inl (cI, 5, .inl (fun _ => 0))), (q_11, .inl (cI, 25, .inl (bnI 25))), (q_13, .inr (2, [.ref q_14, .ref q_15, .ref q_16, .ref q_17, .ref q_18, .ref q_19, .int 0])), (q_14, .inl (cI, 60, .inl (fun _ => 0))), (q_15, .inl (cI, 60, .inl (fun _ => 0))), (q_16, .inl (cI, 60, .inl (fun _ => 0))), (q_17, .inl (cI, 60, .inl (fun _ => 0))), (q_18, .inl (cZ, 60, .inl (fun _ => 0))), (q_19, .inl (cI, 60, .inl (fun _ => 0))), (q_21, .inr (1, [.ref q_22, .ref q_23, .ref q_24, .ref q_25, .int 0, .int 0])), (q_22, .inl (cI, 40, .inl (fun _ => 0))), (q_23, .inl (cI, 40, .inl (fun _ => 0))), (q_24, .inl (cI, 40, .inl (fun _ => 0))), (q_25, .inl (cI, 40, .inl (fun _ => 0))), (q_27, .inl (cZ, 5, .inl (fun _ => 0))), (q_28, .inl (cI, 5, .inl (fun _ => 0))), (q_29, .inl (cI, 10, .inl (fun _ => 0)))] rfl ?_
  refine z_aload_n C dX4_init_87 rfl 0 rfl ?_
  refine z_bipush C (v := 100) dX4_init_88 (by decide) ?_
  refine z_put C 0 rfl i_X4_init_X4 rfl 9 (by decide) m_X4_init_f55 rfl tyX4 tyX4_ok nmX4 rfl (ty := .int) (by decide +kernel) rfl rfl (Nat.le_of_ble_eq_true rfl) dX4_init_90 [(h0, .inr (4, [.ref q_1, .ref q_5, .ref q_9, .ref q_13, .ref q_21, .ref q_27, .ref q_28, .ref q_29, .int 100, .int 100, .int 0, .int 0])), (q_1, .inr (3, [.ref q_2, .ref q_3])), (q_2, .inl (cI, 5, .inl (fun _ => 0))), (q_3, .inl (cI, 25, .inl (fun _ => 0))), (q_5, .inr (3, [.ref q_6, .ref q_7])), (q_6, .inl (cI, 5, .inl (fun _ => 0))), (q_7, .inl (cI, 25, .inl (fun _ => 0))), (q_9, .inr (0, [.ref q_10, .ref q_11])), (q_10, .inl (cI, 5, .inl (fun _ => 0))), (q_11, .inl (cI, 25, .inl (bnI 25))), (q_13, .inr (2, [.ref q_14, .ref q_15, .ref q_16, .ref q_17, .ref q_18, .ref q_19, .int 0])), (q_14, .inl (cI, 60, .inl (fun _ => 0))), (q_15, .inl (cI, 60, .inl (fun _ => 0))), (q_16, .inl (cI, 60, .inl (fun _ => 0))), (q_17, .inl (cI, 60, .inl (fun _ => 0))), (q_18, .inl (cZ, 60, .inl (fun _ => 0))), (q_19, .inl (cI, 60, .inl (fun _ => 0))), (q_21, .inr (1, [.ref q_22, .ref q_23, .ref q_24, .ref q_25, .int 0, .int 0])), (q_22, .inl (cI, 40, .inl (fun _ => 0))), (q_23, .inl (cI, 40, .inl (fun _ => 0))), (q_24, .inl (cI, 40, .inl (fun _ => 0))), (q_25, .inl (cI, 40, .inl (fun _ => 0))), (q_27, .inl (cZ, 5, .inl (fun _ => 0))), (q_28, .inl (cI, 5, .inl (fun _ => 0))), (q_29, .inl (cI, 10, .inl (fun _ => 0)))] rfl ?_
  refine z_aload_n C dX4_init_93 rfl 0 rfl ?_
  refine z_sipush C (v := 200) dX4_init_94 (by decide) ?_
  refine z_put C 0 rfl i_X4_init_X4 rfl 10 (by decide) m_X4_init_f58 rfl tyX4 tyX4_ok nmX4 rfl (ty := .int) (by decide +kernel) rfl rfl (Nat.le_of_ble_eq_true rfl) dX4_init_97 [(h0, .inr (4, [.ref q_1, .ref q_5, .ref q_9, .ref q_13, .ref q_21, .ref q_27, .ref q_28, .ref q_29, .int 100, .int 100, .int 200, .int 0])), (q_1, .inr (3, [.ref q_2, .ref q_3])), (q_2, .inl (cI, 5, .inl (fun _ => 0))), (q_3, .inl (cI, 25, .inl (fun _ => 0))), (q_5, .inr (3, [.ref q_6, .ref q_7])), (q_6, .inl (cI, 5, .inl (fun _ => 0))), (q_7, .inl (cI, 25, .inl (fun _ => 0))), (q_9, .inr (0, [.ref q_10, .ref q_11])), (q_10, .inl (cI, 5, .inl (fun _ => 0))), (q_11, .inl (cI, 25, .inl (bnI 25))), (q_13, .inr (2, [.ref q_14, .ref q_15, .ref q_16, .ref q_17, .ref q_18, .ref q_19, .int 0])), (q_14, .inl (cI, 60, .inl (fun _ => 0))), (q_15, .inl (cI, 60, .inl (fun _ => 0))), (q_16, .inl (cI, 60, .inl (fun _ => 0))), (q_17, .inl (cI, 60, .inl (fun _ => 0))), (q_18, .inl (cZ, 60, .inl (fun _ => 0))), (q_19, .inl (cI, 60, .inl (fun _ => 0))), (q_21, .inr (1, [.ref q_22, .ref q_23, .ref q_24, .ref q_25, .int 0, .int 0])), (q_22, .inl (cI, 40, .inl (fun _ => 0))), (q_23, .inl (cI, 40, .inl (fun _ => 0))), (q_24, .inl (cI, 40, .inl (fun _ => 0))), (q_25, .inl (cI, 40, .inl (fun _ => 0))), (q_27, .inl (cZ, 5, .inl (fun _ => 0))), (q_28, .inl (cI, 5, .inl (fun _ => 0))), (q_29, .inl (cI, 10, .inl (fun _ => 0)))] rfl ?_
  refine z_perm (wX (fun i => ([h0, q_1, q_5, q_9, q_13, q_21, q_2, q_3, q_6, q_7, q_10, q_11, q_14, q_15, q_16, q_17, q_18, q_19, q_22, q_23, q_24, q_25, q_27, q_28, q_29] : List Nat).getD i 0) cI cZ (fun _ => 0) (fun _ => 0) (fun _ => 0) (fun _ => 0) (fun _ => 0) (bnI 25) (fun _ => 0) (fun _ => 0) (fun _ => 0) (fun _ => 0) (fun _ => 0) (fun _ => 0) (fun _ => 0) (fun _ => 0) (fun _ => 0) (fun _ => 0) (fun _ => 0) (fun _ => 0) (fun _ => 0) 100 100 200 0 (nI 0) (nI 0) (nI 0)) [0, 1, 4, 7, 10, 17, 2, 3, 5, 6, 8, 9, 11, 12, 13, 14, 15, 16, 18, 19, 20, 21, 22, 23, 24] rfl (by decide) ?_
  exact z_vret C (fun i => ([h0, q_1, q_5, q_9, q_13, q_21, q_2, q_3, q_6, q_7, q_10, q_11, q_14, q_15, q_16, q_17, q_18, q_19, q_22, q_23, q_24, q_25, q_27, q_28, q_29] : List Nat).getD i 0) (by exact rfl) rfl (by decide) (by decide) dX4_init_100
end
